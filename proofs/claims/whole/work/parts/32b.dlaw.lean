/-! decode rows of the law (by wip/whole/gen/l2.py) -/
theorem d_L_law_631 : decode code 631 = .ok (.aload_n 0, 1) := by decide +kernel
theorem d_L_law_632 : decode code 632 = .ok (.iload 4, 2) := by decide +kernel
theorem d_L_law_634 : decode code 634 = .ok (.iconst 2, 1) := by decide +kernel
theorem d_L_law_635 : decode code 635 = .ok (.iadd, 1) := by decide +kernel
theorem d_L_law_636 : decode code 636 = .ok (.iaload, 1) := by decide +kernel
theorem d_L_law_637 : decode code 637 = .ok (.aload_n 0, 1) := by decide +kernel
theorem d_L_law_638 : decode code 638 = .ok (.iload 4, 2) := by decide +kernel
theorem d_L_law_640 : decode code 640 = .ok (.iconst 3, 1) := by decide +kernel
theorem d_L_law_641 : decode code 641 = .ok (.iadd, 1) := by decide +kernel
theorem d_L_law_642 : decode code 642 = .ok (.iaload, 1) := by decide +kernel
theorem d_L_law_643 : decode code 643 = .ok (.aload_n 0, 1) := by decide +kernel
theorem d_L_law_644 : decode code 644 = .ok (.iload 4, 2) := by decide +kernel
theorem d_L_law_646 : decode code 646 = .ok (.iconst 4, 1) := by decide +kernel
theorem d_L_law_647 : decode code 647 = .ok (.iadd, 1) := by decide +kernel
theorem d_L_law_648 : decode code 648 = .ok (.iaload, 1) := by decide +kernel
theorem d_L_law_649 : decode code 649 = .ok (.aload_n 0, 1) := by decide +kernel
theorem d_L_law_650 : decode code 650 = .ok (.iload 4, 2) := by decide +kernel
theorem d_L_law_652 : decode code 652 = .ok (.iconst 5, 1) := by decide +kernel
theorem d_L_law_653 : decode code 653 = .ok (.iadd, 1) := by decide +kernel
theorem d_L_law_654 : decode code 654 = .ok (.iaload, 1) := by decide +kernel
theorem d_L_law_655 : decode code 655 = .ok (.aload_n 3, 1) := by decide +kernel
theorem d_L_law_656 : decode code 656 = .ok (.invokestatic 129, 3) := by decide +kernel
theorem d_L_law_659 : decode code 659 = .ok (.istore 5, 2) := by decide +kernel
theorem d_L_law_661 : decode code 661 = .ok (.aload_n 2, 1) := by decide +kernel
theorem d_L_law_662 : decode code 662 = .ok (.aload_n 0, 1) := by decide +kernel
theorem d_L_law_663 : decode code 663 = .ok (.iload 4, 2) := by decide +kernel
theorem d_L_law_665 : decode code 665 = .ok (.iconst 1, 1) := by decide +kernel
theorem d_L_law_666 : decode code 666 = .ok (.iadd, 1) := by decide +kernel
theorem d_L_law_667 : decode code 667 = .ok (.iaload, 1) := by decide +kernel
theorem d_L_law_668 : decode code 668 = .ok (.aload_n 0, 1) := by decide +kernel
theorem d_L_law_669 : decode code 669 = .ok (.iload 4, 2) := by decide +kernel
theorem d_L_law_671 : decode code 671 = .ok (.iconst 2, 1) := by decide +kernel
theorem d_L_law_672 : decode code 672 = .ok (.iadd, 1) := by decide +kernel
theorem d_L_law_673 : decode code 673 = .ok (.iaload, 1) := by decide +kernel
theorem d_L_law_674 : decode code 674 = .ok (.aload_n 0, 1) := by decide +kernel
theorem d_L_law_675 : decode code 675 = .ok (.iload 4, 2) := by decide +kernel
theorem d_L_law_677 : decode code 677 = .ok (.iconst 3, 1) := by decide +kernel
theorem d_L_law_678 : decode code 678 = .ok (.iadd, 1) := by decide +kernel
theorem d_L_law_679 : decode code 679 = .ok (.iaload, 1) := by decide +kernel
theorem d_L_law_680 : decode code 680 = .ok (.aload_n 0, 1) := by decide +kernel
theorem d_L_law_681 : decode code 681 = .ok (.iload 4, 2) := by decide +kernel
theorem d_L_law_683 : decode code 683 = .ok (.iconst 4, 1) := by decide +kernel
theorem d_L_law_684 : decode code 684 = .ok (.iadd, 1) := by decide +kernel
theorem d_L_law_685 : decode code 685 = .ok (.iaload, 1) := by decide +kernel
theorem d_L_law_686 : decode code 686 = .ok (.aload_n 0, 1) := by decide +kernel
theorem d_L_law_687 : decode code 687 = .ok (.iload 4, 2) := by decide +kernel
theorem d_L_law_689 : decode code 689 = .ok (.iconst 5, 1) := by decide +kernel
theorem d_L_law_690 : decode code 690 = .ok (.iadd, 1) := by decide +kernel
theorem d_L_law_691 : decode code 691 = .ok (.iaload, 1) := by decide +kernel
theorem d_L_law_692 : decode code 692 = .ok (.invokevirtual 132, 3) := by decide +kernel
theorem d_L_law_695 : decode code 695 = .ok (.istore 6, 2) := by decide +kernel
theorem d_L_law_697 : decode code 697 = .ok (.aload_n 2, 1) := by decide +kernel
theorem d_L_law_698 : decode code 698 = .ok (.invokevirtual 102, 3) := by decide +kernel
theorem d_L_law_701 : decode code 701 = .ok (.iload 5, 2) := by decide +kernel
theorem d_L_law_703 : decode code 703 = .ok (.if_icmp .eq 5, 3) := by decide +kernel
theorem d_L_law_706 : decode code 706 = .ok (.iconst 0, 1) := by decide +kernel
theorem d_L_law_707 : decode code 707 = .ok (.ireturn, 1) := by decide +kernel
theorem d_L_law_708 : decode code 708 = .ok (.iload 5, 2) := by decide +kernel
theorem d_L_law_710 : decode code 710 = .ok (.ifCond .ne 15, 3) := by decide +kernel
theorem d_L_law_713 : decode code 713 = .ok (.aload_n 3, 1) := by decide +kernel
theorem d_L_law_714 : decode code 714 = .ok (.iconst 0, 1) := by decide +kernel
theorem d_L_law_715 : decode code 715 = .ok (.laload, 1) := by decide +kernel
theorem d_L_law_716 : decode code 716 = .ok (.iload 6, 2) := by decide +kernel
theorem d_L_law_718 : decode code 718 = .ok (.i2l, 1) := by decide +kernel
theorem d_L_law_719 : decode code 719 = .ok (.lcmp, 1) := by decide +kernel
theorem d_L_law_720 : decode code 720 = .ok (.ifCond .eq 5, 3) := by decide +kernel
theorem d_L_law_723 : decode code 723 = .ok (.iconst 0, 1) := by decide +kernel
theorem d_L_law_724 : decode code 724 = .ok (.ireturn, 1) := by decide +kernel
theorem d_L_law_725 : decode code 725 = .ok (.goto 952, 3) := by decide +kernel
theorem d_L_law_728 : decode code 728 = .ok (.aload_n 1, 1) := by decide +kernel
theorem d_L_law_729 : decode code 729 = .ok (.aload_n 0, 1) := by decide +kernel
theorem d_L_law_730 : decode code 730 = .ok (.iload 4, 2) := by decide +kernel
theorem d_L_law_732 : decode code 732 = .ok (.iconst 1, 1) := by decide +kernel
theorem d_L_law_733 : decode code 733 = .ok (.iadd, 1) := by decide +kernel
theorem d_L_law_734 : decode code 734 = .ok (.iaload, 1) := by decide +kernel
theorem d_L_law_735 : decode code 735 = .ok (.aload_n 0, 1) := by decide +kernel
theorem d_L_law_736 : decode code 736 = .ok (.iload 4, 2) := by decide +kernel
theorem d_L_law_738 : decode code 738 = .ok (.iconst 2, 1) := by decide +kernel
theorem d_L_law_739 : decode code 739 = .ok (.iadd, 1) := by decide +kernel
theorem d_L_law_740 : decode code 740 = .ok (.iaload, 1) := by decide +kernel
theorem d_L_law_741 : decode code 741 = .ok (.aload_n 3, 1) := by decide +kernel
theorem d_L_law_742 : decode code 742 = .ok (.invokestatic 133, 3) := by decide +kernel
theorem d_L_law_745 : decode code 745 = .ok (.istore 5, 2) := by decide +kernel
theorem d_L_law_747 : decode code 747 = .ok (.aload_n 2, 1) := by decide +kernel
theorem d_L_law_748 : decode code 748 = .ok (.aload_n 0, 1) := by decide +kernel
theorem d_L_law_749 : decode code 749 = .ok (.iload 4, 2) := by decide +kernel
theorem d_L_law_751 : decode code 751 = .ok (.iconst 1, 1) := by decide +kernel
theorem d_L_law_752 : decode code 752 = .ok (.iadd, 1) := by decide +kernel
theorem d_L_law_753 : decode code 753 = .ok (.iaload, 1) := by decide +kernel
theorem d_L_law_754 : decode code 754 = .ok (.aload_n 0, 1) := by decide +kernel
theorem d_L_law_755 : decode code 755 = .ok (.iload 4, 2) := by decide +kernel
theorem d_L_law_757 : decode code 757 = .ok (.iconst 2, 1) := by decide +kernel
theorem d_L_law_758 : decode code 758 = .ok (.iadd, 1) := by decide +kernel
theorem d_L_law_759 : decode code 759 = .ok (.iaload, 1) := by decide +kernel
theorem d_L_law_760 : decode code 760 = .ok (.invokevirtual 135, 3) := by decide +kernel
theorem d_L_law_763 : decode code 763 = .ok (.istore 6, 2) := by decide +kernel
theorem d_L_law_765 : decode code 765 = .ok (.aload_n 2, 1) := by decide +kernel
theorem d_L_law_766 : decode code 766 = .ok (.invokevirtual 102, 3) := by decide +kernel
theorem d_L_law_769 : decode code 769 = .ok (.iload 5, 2) := by decide +kernel
theorem d_L_law_771 : decode code 771 = .ok (.if_icmp .eq 5, 3) := by decide +kernel
theorem d_L_law_774 : decode code 774 = .ok (.iconst 0, 1) := by decide +kernel
theorem d_L_law_775 : decode code 775 = .ok (.ireturn, 1) := by decide +kernel
theorem d_L_law_776 : decode code 776 = .ok (.iload 5, 2) := by decide +kernel
theorem d_L_law_778 : decode code 778 = .ok (.ifCond .ne 15, 3) := by decide +kernel
theorem d_L_law_781 : decode code 781 = .ok (.aload_n 3, 1) := by decide +kernel
theorem d_L_law_782 : decode code 782 = .ok (.iconst 0, 1) := by decide +kernel
theorem d_L_law_783 : decode code 783 = .ok (.laload, 1) := by decide +kernel
theorem d_L_law_784 : decode code 784 = .ok (.iload 6, 2) := by decide +kernel
theorem d_L_law_786 : decode code 786 = .ok (.i2l, 1) := by decide +kernel
theorem d_L_law_787 : decode code 787 = .ok (.lcmp, 1) := by decide +kernel
theorem d_L_law_788 : decode code 788 = .ok (.ifCond .eq 5, 3) := by decide +kernel
theorem d_L_law_791 : decode code 791 = .ok (.iconst 0, 1) := by decide +kernel
theorem d_L_law_792 : decode code 792 = .ok (.ireturn, 1) := by decide +kernel
theorem d_L_law_793 : decode code 793 = .ok (.goto 884, 3) := by decide +kernel
theorem d_L_law_796 : decode code 796 = .ok (.aload_n 1, 1) := by decide +kernel
theorem d_L_law_797 : decode code 797 = .ok (.aload_n 0, 1) := by decide +kernel
theorem d_L_law_798 : decode code 798 = .ok (.iload 4, 2) := by decide +kernel
theorem d_L_law_800 : decode code 800 = .ok (.iconst 1, 1) := by decide +kernel
theorem d_L_law_801 : decode code 801 = .ok (.iadd, 1) := by decide +kernel
theorem d_L_law_802 : decode code 802 = .ok (.iaload, 1) := by decide +kernel
theorem d_L_law_803 : decode code 803 = .ok (.aload_n 0, 1) := by decide +kernel
theorem d_L_law_804 : decode code 804 = .ok (.iload 4, 2) := by decide +kernel
theorem d_L_law_806 : decode code 806 = .ok (.iconst 2, 1) := by decide +kernel
theorem d_L_law_807 : decode code 807 = .ok (.iadd, 1) := by decide +kernel
theorem d_L_law_808 : decode code 808 = .ok (.iaload, 1) := by decide +kernel
theorem d_L_law_809 : decode code 809 = .ok (.aload_n 0, 1) := by decide +kernel
theorem d_L_law_810 : decode code 810 = .ok (.iload 4, 2) := by decide +kernel
theorem d_L_law_812 : decode code 812 = .ok (.iconst 3, 1) := by decide +kernel
theorem d_L_law_813 : decode code 813 = .ok (.iadd, 1) := by decide +kernel
theorem d_L_law_814 : decode code 814 = .ok (.iaload, 1) := by decide +kernel
theorem d_L_law_815 : decode code 815 = .ok (.ifCond .eq 7, 3) := by decide +kernel
theorem d_L_law_818 : decode code 818 = .ok (.iconst 1, 1) := by decide +kernel
theorem d_L_law_819 : decode code 819 = .ok (.goto 4, 3) := by decide +kernel
theorem d_L_law_822 : decode code 822 = .ok (.iconst 0, 1) := by decide +kernel
theorem d_L_law_823 : decode code 823 = .ok (.aload_n 3, 1) := by decide +kernel
theorem d_L_law_824 : decode code 824 = .ok (.invokestatic 136, 3) := by decide +kernel
theorem d_L_law_827 : decode code 827 = .ok (.istore 5, 2) := by decide +kernel
theorem d_L_law_829 : decode code 829 = .ok (.aload_n 2, 1) := by decide +kernel
theorem d_L_law_830 : decode code 830 = .ok (.aload_n 0, 1) := by decide +kernel
theorem d_L_law_831 : decode code 831 = .ok (.iload 4, 2) := by decide +kernel
theorem d_L_law_833 : decode code 833 = .ok (.iconst 1, 1) := by decide +kernel
theorem d_L_law_834 : decode code 834 = .ok (.iadd, 1) := by decide +kernel
theorem d_L_law_835 : decode code 835 = .ok (.iaload, 1) := by decide +kernel
theorem d_L_law_836 : decode code 836 = .ok (.aload_n 0, 1) := by decide +kernel
theorem d_L_law_837 : decode code 837 = .ok (.iload 4, 2) := by decide +kernel
theorem d_L_law_839 : decode code 839 = .ok (.iconst 2, 1) := by decide +kernel
theorem d_L_law_840 : decode code 840 = .ok (.iadd, 1) := by decide +kernel
theorem d_L_law_841 : decode code 841 = .ok (.iaload, 1) := by decide +kernel
theorem d_L_law_842 : decode code 842 = .ok (.aload_n 0, 1) := by decide +kernel
theorem d_L_law_843 : decode code 843 = .ok (.iload 4, 2) := by decide +kernel
theorem d_L_law_845 : decode code 845 = .ok (.iconst 3, 1) := by decide +kernel
theorem d_L_law_846 : decode code 846 = .ok (.iadd, 1) := by decide +kernel
theorem d_L_law_847 : decode code 847 = .ok (.iaload, 1) := by decide +kernel
theorem d_L_law_848 : decode code 848 = .ok (.ifCond .eq 7, 3) := by decide +kernel
theorem d_L_law_851 : decode code 851 = .ok (.iconst 1, 1) := by decide +kernel
theorem d_L_law_852 : decode code 852 = .ok (.goto 4, 3) := by decide +kernel
theorem d_L_law_855 : decode code 855 = .ok (.iconst 0, 1) := by decide +kernel
theorem d_L_law_856 : decode code 856 = .ok (.invokevirtual 138, 3) := by decide +kernel
theorem d_L_law_859 : decode code 859 = .ok (.istore 6, 2) := by decide +kernel
theorem d_L_law_861 : decode code 861 = .ok (.aload_n 2, 1) := by decide +kernel
theorem d_L_law_862 : decode code 862 = .ok (.invokevirtual 102, 3) := by decide +kernel
theorem d_L_law_865 : decode code 865 = .ok (.iload 5, 2) := by decide +kernel
theorem d_L_law_867 : decode code 867 = .ok (.if_icmp .eq 5, 3) := by decide +kernel
theorem d_L_law_870 : decode code 870 = .ok (.iconst 0, 1) := by decide +kernel
theorem d_L_law_871 : decode code 871 = .ok (.ireturn, 1) := by decide +kernel
theorem d_L_law_872 : decode code 872 = .ok (.iload 5, 2) := by decide +kernel
theorem d_L_law_874 : decode code 874 = .ok (.ifCond .ne 15, 3) := by decide +kernel
theorem d_L_law_877 : decode code 877 = .ok (.aload_n 3, 1) := by decide +kernel
theorem d_L_law_878 : decode code 878 = .ok (.iconst 0, 1) := by decide +kernel
theorem d_L_law_879 : decode code 879 = .ok (.laload, 1) := by decide +kernel
theorem d_L_law_880 : decode code 880 = .ok (.iload 6, 2) := by decide +kernel
theorem d_L_law_882 : decode code 882 = .ok (.i2l, 1) := by decide +kernel
theorem d_L_law_883 : decode code 883 = .ok (.lcmp, 1) := by decide +kernel
theorem d_L_law_884 : decode code 884 = .ok (.ifCond .eq 5, 3) := by decide +kernel
theorem d_L_law_887 : decode code 887 = .ok (.iconst 0, 1) := by decide +kernel
theorem d_L_law_888 : decode code 888 = .ok (.ireturn, 1) := by decide +kernel
theorem d_L_law_889 : decode code 889 = .ok (.goto 788, 3) := by decide +kernel
theorem d_L_law_892 : decode code 892 = .ok (.aload_n 1, 1) := by decide +kernel
theorem d_L_law_893 : decode code 893 = .ok (.aload_n 0, 1) := by decide +kernel
theorem d_L_law_894 : decode code 894 = .ok (.iload 4, 2) := by decide +kernel
theorem d_L_law_896 : decode code 896 = .ok (.iconst 1, 1) := by decide +kernel
theorem d_L_law_897 : decode code 897 = .ok (.iadd, 1) := by decide +kernel
theorem d_L_law_898 : decode code 898 = .ok (.iaload, 1) := by decide +kernel
theorem d_L_law_899 : decode code 899 = .ok (.aload_n 0, 1) := by decide +kernel
theorem d_L_law_900 : decode code 900 = .ok (.iload 4, 2) := by decide +kernel
theorem d_L_law_902 : decode code 902 = .ok (.iconst 2, 1) := by decide +kernel
theorem d_L_law_903 : decode code 903 = .ok (.iadd, 1) := by decide +kernel
theorem d_L_law_904 : decode code 904 = .ok (.iaload, 1) := by decide +kernel
theorem d_L_law_905 : decode code 905 = .ok (.aload_n 3, 1) := by decide +kernel
theorem d_L_law_906 : decode code 906 = .ok (.invokestatic 139, 3) := by decide +kernel
theorem d_L_law_909 : decode code 909 = .ok (.istore 5, 2) := by decide +kernel
theorem d_L_law_911 : decode code 911 = .ok (.aload_n 2, 1) := by decide +kernel
theorem d_L_law_912 : decode code 912 = .ok (.aload_n 0, 1) := by decide +kernel
theorem d_L_law_913 : decode code 913 = .ok (.iload 4, 2) := by decide +kernel
theorem d_L_law_915 : decode code 915 = .ok (.iconst 1, 1) := by decide +kernel
theorem d_L_law_916 : decode code 916 = .ok (.iadd, 1) := by decide +kernel
theorem d_L_law_917 : decode code 917 = .ok (.iaload, 1) := by decide +kernel
theorem d_L_law_918 : decode code 918 = .ok (.aload_n 0, 1) := by decide +kernel
theorem d_L_law_919 : decode code 919 = .ok (.iload 4, 2) := by decide +kernel
theorem d_L_law_921 : decode code 921 = .ok (.iconst 2, 1) := by decide +kernel
theorem d_L_law_922 : decode code 922 = .ok (.iadd, 1) := by decide +kernel
theorem d_L_law_923 : decode code 923 = .ok (.iaload, 1) := by decide +kernel
theorem d_L_law_924 : decode code 924 = .ok (.invokevirtual 141, 3) := by decide +kernel
theorem d_L_law_927 : decode code 927 = .ok (.istore 6, 2) := by decide +kernel
theorem d_L_law_929 : decode code 929 = .ok (.aload_n 2, 1) := by decide +kernel
theorem d_L_law_930 : decode code 930 = .ok (.invokevirtual 102, 3) := by decide +kernel
theorem d_L_law_933 : decode code 933 = .ok (.iload 5, 2) := by decide +kernel
theorem d_L_law_935 : decode code 935 = .ok (.if_icmp .eq 5, 3) := by decide +kernel
theorem d_L_law_938 : decode code 938 = .ok (.iconst 0, 1) := by decide +kernel
theorem d_L_law_939 : decode code 939 = .ok (.ireturn, 1) := by decide +kernel
theorem d_L_law_940 : decode code 940 = .ok (.iload 5, 2) := by decide +kernel
theorem d_L_law_942 : decode code 942 = .ok (.ifCond .ne 15, 3) := by decide +kernel
theorem d_L_law_945 : decode code 945 = .ok (.aload_n 3, 1) := by decide +kernel
theorem d_L_law_946 : decode code 946 = .ok (.iconst 0, 1) := by decide +kernel
theorem d_L_law_947 : decode code 947 = .ok (.laload, 1) := by decide +kernel
theorem d_L_law_948 : decode code 948 = .ok (.iload 6, 2) := by decide +kernel
theorem d_L_law_950 : decode code 950 = .ok (.i2l, 1) := by decide +kernel
theorem d_L_law_951 : decode code 951 = .ok (.lcmp, 1) := by decide +kernel
theorem d_L_law_952 : decode code 952 = .ok (.ifCond .eq 5, 3) := by decide +kernel
theorem d_L_law_955 : decode code 955 = .ok (.iconst 0, 1) := by decide +kernel
theorem d_L_law_956 : decode code 956 = .ok (.ireturn, 1) := by decide +kernel
theorem d_L_law_957 : decode code 957 = .ok (.goto 720, 3) := by decide +kernel
theorem d_L_law_960 : decode code 960 = .ok (.aload_n 1, 1) := by decide +kernel
theorem d_L_law_961 : decode code 961 = .ok (.aload_n 0, 1) := by decide +kernel
theorem d_L_law_962 : decode code 962 = .ok (.iload 4, 2) := by decide +kernel
theorem d_L_law_964 : decode code 964 = .ok (.iconst 1, 1) := by decide +kernel
theorem d_L_law_965 : decode code 965 = .ok (.iadd, 1) := by decide +kernel
theorem d_L_law_966 : decode code 966 = .ok (.iaload, 1) := by decide +kernel
theorem d_L_law_967 : decode code 967 = .ok (.aload_n 0, 1) := by decide +kernel
theorem d_L_law_968 : decode code 968 = .ok (.iload 4, 2) := by decide +kernel
theorem d_L_law_970 : decode code 970 = .ok (.iconst 2, 1) := by decide +kernel
theorem d_L_law_971 : decode code 971 = .ok (.iadd, 1) := by decide +kernel
theorem d_L_law_972 : decode code 972 = .ok (.iaload, 1) := by decide +kernel
theorem d_L_law_973 : decode code 973 = .ok (.aload_n 3, 1) := by decide +kernel
theorem d_L_law_974 : decode code 974 = .ok (.invokestatic 142, 3) := by decide +kernel
theorem d_L_law_977 : decode code 977 = .ok (.istore 5, 2) := by decide +kernel
theorem d_L_law_979 : decode code 979 = .ok (.aload_n 2, 1) := by decide +kernel
theorem d_L_law_980 : decode code 980 = .ok (.aload_n 0, 1) := by decide +kernel
theorem d_L_law_981 : decode code 981 = .ok (.iload 4, 2) := by decide +kernel
theorem d_L_law_983 : decode code 983 = .ok (.iconst 1, 1) := by decide +kernel
theorem d_L_law_984 : decode code 984 = .ok (.iadd, 1) := by decide +kernel
theorem d_L_law_985 : decode code 985 = .ok (.iaload, 1) := by decide +kernel
theorem d_L_law_986 : decode code 986 = .ok (.aload_n 0, 1) := by decide +kernel
theorem d_L_law_987 : decode code 987 = .ok (.iload 4, 2) := by decide +kernel
theorem d_L_law_989 : decode code 989 = .ok (.iconst 2, 1) := by decide +kernel
theorem d_L_law_990 : decode code 990 = .ok (.iadd, 1) := by decide +kernel
theorem d_L_law_991 : decode code 991 = .ok (.iaload, 1) := by decide +kernel
theorem d_L_law_992 : decode code 992 = .ok (.invokevirtual 144, 3) := by decide +kernel
theorem d_L_law_995 : decode code 995 = .ok (.istore 6, 2) := by decide +kernel
theorem d_L_law_997 : decode code 997 = .ok (.aload_n 2, 1) := by decide +kernel
theorem d_L_law_998 : decode code 998 = .ok (.invokevirtual 102, 3) := by decide +kernel
theorem d_L_law_1001 : decode code 1001 = .ok (.iload 5, 2) := by decide +kernel
theorem d_L_law_1003 : decode code 1003 = .ok (.if_icmp .eq 5, 3) := by decide +kernel
theorem d_L_law_1006 : decode code 1006 = .ok (.iconst 0, 1) := by decide +kernel
theorem d_L_law_1007 : decode code 1007 = .ok (.ireturn, 1) := by decide +kernel
theorem d_L_law_1008 : decode code 1008 = .ok (.iload 5, 2) := by decide +kernel
theorem d_L_law_1010 : decode code 1010 = .ok (.ifCond .ne 15, 3) := by decide +kernel
theorem d_L_law_1013 : decode code 1013 = .ok (.aload_n 3, 1) := by decide +kernel
theorem d_L_law_1014 : decode code 1014 = .ok (.iconst 0, 1) := by decide +kernel
theorem d_L_law_1015 : decode code 1015 = .ok (.laload, 1) := by decide +kernel
theorem d_L_law_1016 : decode code 1016 = .ok (.iload 6, 2) := by decide +kernel
theorem d_L_law_1018 : decode code 1018 = .ok (.i2l, 1) := by decide +kernel
theorem d_L_law_1019 : decode code 1019 = .ok (.lcmp, 1) := by decide +kernel
theorem d_L_law_1020 : decode code 1020 = .ok (.ifCond .eq 5, 3) := by decide +kernel
theorem d_L_law_1023 : decode code 1023 = .ok (.iconst 0, 1) := by decide +kernel
theorem d_L_law_1024 : decode code 1024 = .ok (.ireturn, 1) := by decide +kernel
theorem d_L_law_1025 : decode code 1025 = .ok (.goto 652, 3) := by decide +kernel
theorem d_L_law_1028 : decode code 1028 = .ok (.aload_n 1, 1) := by decide +kernel
theorem d_L_law_1029 : decode code 1029 = .ok (.aload_n 0, 1) := by decide +kernel
theorem d_L_law_1030 : decode code 1030 = .ok (.iload 4, 2) := by decide +kernel
theorem d_L_law_1032 : decode code 1032 = .ok (.iconst 1, 1) := by decide +kernel
theorem d_L_law_1033 : decode code 1033 = .ok (.iadd, 1) := by decide +kernel
theorem d_L_law_1034 : decode code 1034 = .ok (.iaload, 1) := by decide +kernel
theorem d_L_law_1035 : decode code 1035 = .ok (.aload_n 3, 1) := by decide +kernel
theorem d_L_law_1036 : decode code 1036 = .ok (.invokestatic 145, 3) := by decide +kernel
theorem d_L_law_1039 : decode code 1039 = .ok (.istore 5, 2) := by decide +kernel
theorem d_L_law_1041 : decode code 1041 = .ok (.aload_n 2, 1) := by decide +kernel
theorem d_L_law_1042 : decode code 1042 = .ok (.aload_n 0, 1) := by decide +kernel
theorem d_L_law_1043 : decode code 1043 = .ok (.iload 4, 2) := by decide +kernel
theorem d_L_law_1045 : decode code 1045 = .ok (.iconst 1, 1) := by decide +kernel
theorem d_L_law_1046 : decode code 1046 = .ok (.iadd, 1) := by decide +kernel
theorem d_L_law_1047 : decode code 1047 = .ok (.iaload, 1) := by decide +kernel
theorem d_L_law_1048 : decode code 1048 = .ok (.invokevirtual 148, 3) := by decide +kernel
theorem d_L_law_1051 : decode code 1051 = .ok (.istore 6, 2) := by decide +kernel
theorem d_L_law_1053 : decode code 1053 = .ok (.aload_n 2, 1) := by decide +kernel
theorem d_L_law_1054 : decode code 1054 = .ok (.invokevirtual 102, 3) := by decide +kernel
theorem d_L_law_1057 : decode code 1057 = .ok (.iload 5, 2) := by decide +kernel
theorem d_L_law_1059 : decode code 1059 = .ok (.if_icmp .eq 5, 3) := by decide +kernel
theorem d_L_law_1062 : decode code 1062 = .ok (.iconst 0, 1) := by decide +kernel
theorem d_L_law_1063 : decode code 1063 = .ok (.ireturn, 1) := by decide +kernel
theorem d_L_law_1064 : decode code 1064 = .ok (.iload 5, 2) := by decide +kernel
theorem d_L_law_1066 : decode code 1066 = .ok (.ifCond .ne 15, 3) := by decide +kernel
theorem d_L_law_1069 : decode code 1069 = .ok (.aload_n 3, 1) := by decide +kernel
theorem d_L_law_1070 : decode code 1070 = .ok (.iconst 0, 1) := by decide +kernel
theorem d_L_law_1071 : decode code 1071 = .ok (.laload, 1) := by decide +kernel
theorem d_L_law_1072 : decode code 1072 = .ok (.iload 6, 2) := by decide +kernel
theorem d_L_law_1074 : decode code 1074 = .ok (.i2l, 1) := by decide +kernel
theorem d_L_law_1075 : decode code 1075 = .ok (.lcmp, 1) := by decide +kernel
theorem d_L_law_1076 : decode code 1076 = .ok (.ifCond .eq 5, 3) := by decide +kernel
theorem d_L_law_1079 : decode code 1079 = .ok (.iconst 0, 1) := by decide +kernel
theorem d_L_law_1080 : decode code 1080 = .ok (.ireturn, 1) := by decide +kernel
theorem d_L_law_1081 : decode code 1081 = .ok (.goto 596, 3) := by decide +kernel
theorem d_L_law_1084 : decode code 1084 = .ok (.aload_n 1, 1) := by decide +kernel
theorem d_L_law_1085 : decode code 1085 = .ok (.aload_n 0, 1) := by decide +kernel
theorem d_L_law_1086 : decode code 1086 = .ok (.iload 4, 2) := by decide +kernel
theorem d_L_law_1088 : decode code 1088 = .ok (.iconst 1, 1) := by decide +kernel
theorem d_L_law_1089 : decode code 1089 = .ok (.iadd, 1) := by decide +kernel
theorem d_L_law_1090 : decode code 1090 = .ok (.iaload, 1) := by decide +kernel
theorem d_L_law_1091 : decode code 1091 = .ok (.aload_n 3, 1) := by decide +kernel
theorem d_L_law_1092 : decode code 1092 = .ok (.invokestatic 149, 3) := by decide +kernel
theorem d_L_law_1095 : decode code 1095 = .ok (.istore 5, 2) := by decide +kernel
theorem d_L_law_1097 : decode code 1097 = .ok (.aload_n 2, 1) := by decide +kernel
theorem d_L_law_1098 : decode code 1098 = .ok (.aload_n 0, 1) := by decide +kernel
theorem d_L_law_1099 : decode code 1099 = .ok (.iload 4, 2) := by decide +kernel
theorem d_L_law_1101 : decode code 1101 = .ok (.iconst 1, 1) := by decide +kernel
theorem d_L_law_1102 : decode code 1102 = .ok (.iadd, 1) := by decide +kernel
theorem d_L_law_1103 : decode code 1103 = .ok (.iaload, 1) := by decide +kernel
theorem d_L_law_1104 : decode code 1104 = .ok (.invokevirtual 151, 3) := by decide +kernel
theorem d_L_law_1107 : decode code 1107 = .ok (.istore 6, 2) := by decide +kernel
theorem d_L_law_1109 : decode code 1109 = .ok (.aload_n 2, 1) := by decide +kernel
theorem d_L_law_1110 : decode code 1110 = .ok (.invokevirtual 102, 3) := by decide +kernel
theorem d_L_law_1113 : decode code 1113 = .ok (.iload 5, 2) := by decide +kernel
theorem d_L_law_1115 : decode code 1115 = .ok (.if_icmp .eq 5, 3) := by decide +kernel
theorem d_L_law_1118 : decode code 1118 = .ok (.iconst 0, 1) := by decide +kernel
theorem d_L_law_1119 : decode code 1119 = .ok (.ireturn, 1) := by decide +kernel
theorem d_L_law_1120 : decode code 1120 = .ok (.iload 5, 2) := by decide +kernel
theorem d_L_law_1122 : decode code 1122 = .ok (.ifCond .ne 15, 3) := by decide +kernel
theorem d_L_law_1125 : decode code 1125 = .ok (.aload_n 3, 1) := by decide +kernel
theorem d_L_law_1126 : decode code 1126 = .ok (.iconst 0, 1) := by decide +kernel
theorem d_L_law_1127 : decode code 1127 = .ok (.laload, 1) := by decide +kernel
theorem d_L_law_1128 : decode code 1128 = .ok (.iload 6, 2) := by decide +kernel
theorem d_L_law_1130 : decode code 1130 = .ok (.i2l, 1) := by decide +kernel
theorem d_L_law_1131 : decode code 1131 = .ok (.lcmp, 1) := by decide +kernel
theorem d_L_law_1132 : decode code 1132 = .ok (.ifCond .eq 5, 3) := by decide +kernel
theorem d_L_law_1135 : decode code 1135 = .ok (.iconst 0, 1) := by decide +kernel
theorem d_L_law_1136 : decode code 1136 = .ok (.ireturn, 1) := by decide +kernel
theorem d_L_law_1137 : decode code 1137 = .ok (.goto 540, 3) := by decide +kernel
theorem d_L_law_1140 : decode code 1140 = .ok (.aload_n 1, 1) := by decide +kernel
theorem d_L_law_1141 : decode code 1141 = .ok (.aload_n 0, 1) := by decide +kernel
theorem d_L_law_1142 : decode code 1142 = .ok (.iload 4, 2) := by decide +kernel
theorem d_L_law_1144 : decode code 1144 = .ok (.iconst 1, 1) := by decide +kernel
theorem d_L_law_1145 : decode code 1145 = .ok (.iadd, 1) := by decide +kernel
theorem d_L_law_1146 : decode code 1146 = .ok (.iaload, 1) := by decide +kernel
theorem d_L_law_1147 : decode code 1147 = .ok (.aload_n 0, 1) := by decide +kernel
theorem d_L_law_1148 : decode code 1148 = .ok (.iload 4, 2) := by decide +kernel
theorem d_L_law_1150 : decode code 1150 = .ok (.iconst 2, 1) := by decide +kernel
theorem d_L_law_1151 : decode code 1151 = .ok (.iadd, 1) := by decide +kernel
theorem d_L_law_1152 : decode code 1152 = .ok (.iaload, 1) := by decide +kernel
theorem d_L_law_1153 : decode code 1153 = .ok (.aload_n 3, 1) := by decide +kernel
theorem d_L_law_1154 : decode code 1154 = .ok (.invokestatic 152, 3) := by decide +kernel
