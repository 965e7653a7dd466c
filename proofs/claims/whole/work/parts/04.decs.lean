theorem d_S_init_0 : decode b_S_init 0 = .ok (.aload_n 0, 1) := by decide +kernel
theorem d_S_init_1 : decode b_S_init 1 = .ok (.invokespecial 1, 3) := by decide +kernel
theorem d_S_init_4 : decode b_S_init 4 = .ok (.aload_n 0, 1) := by decide +kernel
theorem d_S_init_5 : decode b_S_init 5 = .ok (.bipush 16, 2) := by decide +kernel
theorem d_S_init_7 : decode b_S_init 7 = .ok (.anewarray 9, 3) := by decide +kernel
theorem d_S_init_10 : decode b_S_init 10 = .ok (.putfield 11, 3) := by decide +kernel
theorem d_S_init_13 : decode b_S_init 13 = .ok (.aload_n 0, 1) := by decide +kernel
theorem d_S_init_14 : decode b_S_init 14 = .ok (.bipush 120, 2) := by decide +kernel
theorem d_S_init_16 : decode b_S_init 16 = .ok (.anewarray 15, 3) := by decide +kernel
theorem d_S_init_19 : decode b_S_init 19 = .ok (.putfield 17, 3) := by decide +kernel
theorem d_S_init_22 : decode b_S_init 22 = .ok (.aload_n 0, 1) := by decide +kernel
theorem d_S_init_23 : decode b_S_init 23 = .ok (.bipush 64, 2) := by decide +kernel
theorem d_S_init_25 : decode b_S_init 25 = .ok (.anewarray 21, 3) := by decide +kernel
theorem d_S_init_28 : decode b_S_init 28 = .ok (.putfield 23, 3) := by decide +kernel
theorem d_S_init_31 : decode b_S_init 31 = .ok (.return_, 1) := by decide +kernel
theorem d_S_count1_0 : decode b_S_count1 0 = .ok (.iload_n 1, 1) := by decide +kernel
theorem d_S_count1_1 : decode b_S_count1 1 = .ok (.tableswitch 60 0 4 #[35, 40, 45, 50, 55], 35) := by decide +kernel
theorem d_S_count1_36 : decode b_S_count1 36 = .ok (.aload_n 0, 1) := by decide +kernel
theorem d_S_count1_37 : decode b_S_count1 37 = .ok (.getfield 31, 3) := by decide +kernel
theorem d_S_count1_40 : decode b_S_count1 40 = .ok (.ireturn, 1) := by decide +kernel
theorem d_S_count1_41 : decode b_S_count1 41 = .ok (.aload_n 0, 1) := by decide +kernel
theorem d_S_count1_42 : decode b_S_count1 42 = .ok (.getfield 98, 3) := by decide +kernel
theorem d_S_count1_45 : decode b_S_count1 45 = .ok (.ireturn, 1) := by decide +kernel
theorem d_S_count1_46 : decode b_S_count1 46 = .ok (.aload_n 0, 1) := by decide +kernel
theorem d_S_count1_47 : decode b_S_count1 47 = .ok (.getfield 163, 3) := by decide +kernel
theorem d_S_count1_50 : decode b_S_count1 50 = .ok (.ireturn, 1) := by decide +kernel
theorem d_S_count1_51 : decode b_S_count1 51 = .ok (.aload_n 0, 1) := by decide +kernel
theorem d_S_count1_52 : decode b_S_count1 52 = .ok (.getfield 151, 3) := by decide +kernel
theorem d_S_count1_55 : decode b_S_count1 55 = .ok (.ireturn, 1) := by decide +kernel
theorem d_S_count1_56 : decode b_S_count1 56 = .ok (.aload_n 0, 1) := by decide +kernel
theorem d_S_count1_57 : decode b_S_count1 57 = .ok (.getfield 182, 3) := by decide +kernel
theorem d_S_count1_60 : decode b_S_count1 60 = .ok (.ireturn, 1) := by decide +kernel
theorem d_S_count1_61 : decode b_S_count1 61 = .ok (.iconst (-1), 1) := by decide +kernel
theorem d_S_count1_62 : decode b_S_count1 62 = .ok (.ireturn, 1) := by decide +kernel
theorem d_S_announce_0 : decode b_S_announce 0 = .ok (.iload_n 1, 1) := by decide +kernel
theorem d_S_announce_1 : decode b_S_announce 1 = .ok (.iconst 0, 1) := by decide +kernel
theorem d_S_announce_2 : decode b_S_announce 2 = .ok (.bipush 7, 2) := by decide +kernel
theorem d_S_announce_4 : decode b_S_announce 4 = .ok (.invokestatic 27, 3) := by decide +kernel
theorem d_S_announce_7 : decode b_S_announce 7 = .ok (.iload_n 2, 1) := by decide +kernel
theorem d_S_announce_8 : decode b_S_announce 8 = .ok (.iconst 1, 1) := by decide +kernel
theorem d_S_announce_9 : decode b_S_announce 9 = .ok (.iconst 4, 1) := by decide +kernel
theorem d_S_announce_10 : decode b_S_announce 10 = .ok (.invokestatic 27, 3) := by decide +kernel
theorem d_S_announce_13 : decode b_S_announce 13 = .ok (.aload_n 0, 1) := by decide +kernel
theorem d_S_announce_14 : decode b_S_announce 14 = .ok (.getfield 31, 3) := by decide +kernel
theorem d_S_announce_17 : decode b_S_announce 17 = .ok (.aload_n 0, 1) := by decide +kernel
theorem d_S_announce_18 : decode b_S_announce 18 = .ok (.getfield 11, 3) := by decide +kernel
theorem d_S_announce_21 : decode b_S_announce 21 = .ok (.arraylength, 1) := by decide +kernel
theorem d_S_announce_22 : decode b_S_announce 22 = .ok (.if_icmp .lt 13, 3) := by decide +kernel
theorem d_S_announce_25 : decode b_S_announce 25 = .ok (.new 35, 3) := by decide +kernel
theorem d_S_announce_28 : decode b_S_announce 28 = .ok (.dup, 1) := by decide +kernel
theorem d_S_announce_29 : decode b_S_announce 29 = .ok (.ldc 37, 2) := by decide +kernel
theorem d_S_announce_31 : decode b_S_announce 31 = .ok (.invokespecial 39, 3) := by decide +kernel
theorem d_S_announce_34 : decode b_S_announce 34 = .ok (.athrow, 1) := by decide +kernel
theorem d_S_announce_35 : decode b_S_announce 35 = .ok (.aload_n 0, 1) := by decide +kernel
theorem d_S_announce_36 : decode b_S_announce 36 = .ok (.getfield 11, 3) := by decide +kernel
theorem d_S_announce_39 : decode b_S_announce 39 = .ok (.aload_n 0, 1) := by decide +kernel
theorem d_S_announce_40 : decode b_S_announce 40 = .ok (.getfield 31, 3) := by decide +kernel
theorem d_S_announce_43 : decode b_S_announce 43 = .ok (.new 9, 3) := by decide +kernel
theorem d_S_announce_46 : decode b_S_announce 46 = .ok (.dup, 1) := by decide +kernel
theorem d_S_announce_47 : decode b_S_announce 47 = .ok (.aload_n 0, 1) := by decide +kernel
theorem d_S_announce_48 : decode b_S_announce 48 = .ok (.getfield 31, 3) := by decide +kernel
theorem d_S_announce_51 : decode b_S_announce 51 = .ok (.iconst 1, 1) := by decide +kernel
theorem d_S_announce_52 : decode b_S_announce 52 = .ok (.iadd, 1) := by decide +kernel
theorem d_S_announce_53 : decode b_S_announce 53 = .ok (.iload_n 1, 1) := by decide +kernel
theorem d_S_announce_54 : decode b_S_announce 54 = .ok (.iload_n 2, 1) := by decide +kernel
theorem d_S_announce_55 : decode b_S_announce 55 = .ok (.invokespecial 42, 3) := by decide +kernel
theorem d_S_announce_58 : decode b_S_announce 58 = .ok (.aastore, 1) := by decide +kernel
theorem d_S_announce_59 : decode b_S_announce 59 = .ok (.aload_n 0, 1) := by decide +kernel
theorem d_S_announce_60 : decode b_S_announce 60 = .ok (.dup, 1) := by decide +kernel
theorem d_S_announce_61 : decode b_S_announce 61 = .ok (.getfield 31, 3) := by decide +kernel
theorem d_S_announce_64 : decode b_S_announce 64 = .ok (.iconst 1, 1) := by decide +kernel
theorem d_S_announce_65 : decode b_S_announce 65 = .ok (.iadd, 1) := by decide +kernel
theorem d_S_announce_66 : decode b_S_announce 66 = .ok (.putfield 31, 3) := by decide +kernel
theorem d_S_announce_69 : decode b_S_announce 69 = .ok (.aload_n 0, 1) := by decide +kernel
theorem d_S_announce_70 : decode b_S_announce 70 = .ok (.getfield 31, 3) := by decide +kernel
theorem d_S_announce_73 : decode b_S_announce 73 = .ok (.ireturn, 1) := by decide +kernel
theorem d_S_mustBeWithin_0 : decode b_S_mustBeWithin 0 = .ok (.iload_n 0, 1) := by decide +kernel
theorem d_S_mustBeWithin_1 : decode b_S_mustBeWithin 1 = .ok (.iload_n 1, 1) := by decide +kernel
theorem d_S_mustBeWithin_2 : decode b_S_mustBeWithin 2 = .ok (.if_icmp .lt 8, 3) := by decide +kernel
theorem d_S_mustBeWithin_5 : decode b_S_mustBeWithin 5 = .ok (.iload_n 0, 1) := by decide +kernel
theorem d_S_mustBeWithin_6 : decode b_S_mustBeWithin 6 = .ok (.iload_n 2, 1) := by decide +kernel
theorem d_S_mustBeWithin_7 : decode b_S_mustBeWithin 7 = .ok (.if_icmp .le 13, 3) := by decide +kernel
theorem d_S_mustBeWithin_10 : decode b_S_mustBeWithin 10 = .ok (.new 203, 3) := by decide +kernel
theorem d_S_mustBeWithin_13 : decode b_S_mustBeWithin 13 = .ok (.dup, 1) := by decide +kernel
theorem d_S_mustBeWithin_14 : decode b_S_mustBeWithin 14 = .ok (.ldc 231, 2) := by decide +kernel
theorem d_S_mustBeWithin_16 : decode b_S_mustBeWithin 16 = .ok (.invokespecial 207, 3) := by decide +kernel
theorem d_S_mustBeWithin_19 : decode b_S_mustBeWithin 19 = .ok (.athrow, 1) := by decide +kernel
theorem d_S_mustBeWithin_20 : decode b_S_mustBeWithin 20 = .ok (.return_, 1) := by decide +kernel
theorem d_A_init_0 : decode b_A_init 0 = .ok (.aload_n 0, 1) := by decide +kernel
theorem d_A_init_1 : decode b_A_init 1 = .ok (.invokespecial 3, 3) := by decide +kernel
theorem d_A_init_4 : decode b_A_init 4 = .ok (.aload_n 0, 1) := by decide +kernel
theorem d_A_init_5 : decode b_A_init 5 = .ok (.iload_n 1, 1) := by decide +kernel
theorem d_A_init_6 : decode b_A_init 6 = .ok (.putfield 9, 3) := by decide +kernel
theorem d_A_init_9 : decode b_A_init 9 = .ok (.aload_n 0, 1) := by decide +kernel
theorem d_A_init_10 : decode b_A_init 10 = .ok (.iload_n 2, 1) := by decide +kernel
theorem d_A_init_11 : decode b_A_init 11 = .ok (.putfield 15, 3) := by decide +kernel
theorem d_A_init_14 : decode b_A_init 14 = .ok (.aload_n 0, 1) := by decide +kernel
theorem d_A_init_15 : decode b_A_init 15 = .ok (.iload_n 3, 1) := by decide +kernel
theorem d_A_init_16 : decode b_A_init 16 = .ok (.putfield 18, 3) := by decide +kernel
theorem d_A_init_19 : decode b_A_init 19 = .ok (.aload_n 0, 1) := by decide +kernel
theorem d_A_init_20 : decode b_A_init 20 = .ok (.iconst 4, 1) := by decide +kernel
theorem d_A_init_21 : decode b_A_init 21 = .ok (.anewarray 21, 3) := by decide +kernel
theorem d_A_init_24 : decode b_A_init 24 = .ok (.putfield 23, 3) := by decide +kernel
theorem d_A_init_27 : decode b_A_init 27 = .ok (.aload_n 0, 1) := by decide +kernel
theorem d_A_init_28 : decode b_A_init 28 = .ok (.iconst 0, 1) := by decide +kernel
theorem d_A_init_29 : decode b_A_init 29 = .ok (.putfield 27, 3) := by decide +kernel
theorem d_A_init_32 : decode b_A_init 32 = .ok (.aload_n 0, 1) := by decide +kernel
theorem d_A_init_33 : decode b_A_init 33 = .ok (.iconst (-1), 1) := by decide +kernel
theorem d_A_init_34 : decode b_A_init 34 = .ok (.putfield 30, 3) := by decide +kernel
theorem d_A_init_37 : decode b_A_init 37 = .ok (.return_, 1) := by decide +kernel
theorem d_S_line_0 : decode b_S_line 0 = .ok (.aload_n 0, 1) := by decide +kernel
theorem d_S_line_1 : decode b_S_line 1 = .ok (.iload_n 1, 1) := by decide +kernel
theorem d_S_line_2 : decode b_S_line 2 = .ok (.invokevirtual 44, 3) := by decide +kernel
theorem d_S_line_5 : decode b_S_line 5 = .ok (.astore 4, 2) := by decide +kernel
theorem d_S_line_7 : decode b_S_line 7 = .ok (.iload_n 2, 1) := by decide +kernel
theorem d_S_line_8 : decode b_S_line 8 = .ok (.iconst 0, 1) := by decide +kernel
theorem d_S_line_9 : decode b_S_line 9 = .ok (.bipush 9, 2) := by decide +kernel
theorem d_S_line_11 : decode b_S_line 11 = .ok (.invokestatic 27, 3) := by decide +kernel
theorem d_S_line_14 : decode b_S_line 14 = .ok (.iload_n 3, 1) := by decide +kernel
theorem d_S_line_15 : decode b_S_line 15 = .ok (.iconst 0, 1) := by decide +kernel
theorem d_S_line_16 : decode b_S_line 16 = .ok (.sipush 400, 3) := by decide +kernel
theorem d_S_line_19 : decode b_S_line 19 = .ok (.invokestatic 27, 3) := by decide +kernel
theorem d_S_line_22 : decode b_S_line 22 = .ok (.aload 4, 2) := by decide +kernel
theorem d_S_line_24 : decode b_S_line 24 = .ok (.getfield 48, 3) := by decide +kernel
theorem d_S_line_27 : decode b_S_line 27 = .ok (.iconst 3, 1) := by decide +kernel
theorem d_S_line_28 : decode b_S_line 28 = .ok (.if_icmp .eq 15, 3) := by decide +kernel
theorem d_S_line_31 : decode b_S_line 31 = .ok (.aload 4, 2) := by decide +kernel
theorem d_S_line_33 : decode b_S_line 33 = .ok (.invokevirtual 51, 3) := by decide +kernel
theorem d_S_line_36 : decode b_S_line 36 = .ok (.ifCond .ne 7, 3) := by decide +kernel
theorem d_S_line_39 : decode b_S_line 39 = .ok (.iconst 1, 1) := by decide +kernel
theorem d_S_line_40 : decode b_S_line 40 = .ok (.goto 4, 3) := by decide +kernel
theorem d_S_line_43 : decode b_S_line 43 = .ok (.iconst 0, 1) := by decide +kernel
theorem d_S_line_44 : decode b_S_line 44 = .ok (.invokestatic 55, 3) := by decide +kernel
theorem d_S_line_47 : decode b_S_line 47 = .ok (.aload 4, 2) := by decide +kernel
theorem d_S_line_49 : decode b_S_line 49 = .ok (.iload_n 2, 1) := by decide +kernel
theorem d_S_line_50 : decode b_S_line 50 = .ok (.iload_n 3, 1) := by decide +kernel
theorem d_S_line_51 : decode b_S_line 51 = .ok (.invokevirtual 59, 3) := by decide +kernel
theorem d_S_line_54 : decode b_S_line 54 = .ok (.ireturn, 1) := by decide +kernel
theorem d_S_announcementOf_0 : decode b_S_announcementOf 0 = .ok (.iload_n 1, 1) := by decide +kernel
theorem d_S_announcementOf_1 : decode b_S_announcementOf 1 = .ok (.iconst 1, 1) := by decide +kernel
theorem d_S_announcementOf_2 : decode b_S_announcementOf 2 = .ok (.if_icmp .lt 20, 3) := by decide +kernel
theorem d_S_announcementOf_5 : decode b_S_announcementOf 5 = .ok (.iload_n 1, 1) := by decide +kernel
theorem d_S_announcementOf_6 : decode b_S_announcementOf 6 = .ok (.aload_n 0, 1) := by decide +kernel
theorem d_S_announcementOf_7 : decode b_S_announcementOf 7 = .ok (.getfield 31, 3) := by decide +kernel
theorem d_S_announcementOf_10 : decode b_S_announcementOf 10 = .ok (.if_icmp .gt 12, 3) := by decide +kernel
theorem d_S_announcementOf_13 : decode b_S_announcementOf 13 = .ok (.iload_n 1, 1) := by decide +kernel
theorem d_S_announcementOf_14 : decode b_S_announcementOf 14 = .ok (.aload_n 0, 1) := by decide +kernel
theorem d_S_announcementOf_15 : decode b_S_announcementOf 15 = .ok (.getfield 11, 3) := by decide +kernel
theorem d_S_announcementOf_18 : decode b_S_announcementOf 18 = .ok (.arraylength, 1) := by decide +kernel
theorem d_S_announcementOf_19 : decode b_S_announcementOf 19 = .ok (.if_icmp .le 13, 3) := by decide +kernel
theorem d_S_announcementOf_22 : decode b_S_announcementOf 22 = .ok (.new 238, 3) := by decide +kernel
theorem d_S_announcementOf_25 : decode b_S_announcementOf 25 = .ok (.dup, 1) := by decide +kernel
theorem d_S_announcementOf_26 : decode b_S_announcementOf 26 = .ok (.ldc 240, 2) := by decide +kernel
theorem d_S_announcementOf_28 : decode b_S_announcementOf 28 = .ok (.invokespecial 242, 3) := by decide +kernel
theorem d_S_announcementOf_31 : decode b_S_announcementOf 31 = .ok (.athrow, 1) := by decide +kernel
theorem d_S_announcementOf_32 : decode b_S_announcementOf 32 = .ok (.aload_n 0, 1) := by decide +kernel
theorem d_S_announcementOf_33 : decode b_S_announcementOf 33 = .ok (.getfield 11, 3) := by decide +kernel
theorem d_S_announcementOf_36 : decode b_S_announcementOf 36 = .ok (.iload_n 1, 1) := by decide +kernel
theorem d_S_announcementOf_37 : decode b_S_announcementOf 37 = .ok (.iconst 1, 1) := by decide +kernel
theorem d_S_announcementOf_38 : decode b_S_announcementOf 38 = .ok (.isub, 1) := by decide +kernel
theorem d_S_announcementOf_39 : decode b_S_announcementOf 39 = .ok (.aaload, 1) := by decide +kernel
theorem d_S_announcementOf_40 : decode b_S_announcementOf 40 = .ok (.astore_n 2, 1) := by decide +kernel
theorem d_S_announcementOf_41 : decode b_S_announcementOf 41 = .ok (.aload_n 2, 1) := by decide +kernel
theorem d_S_announcementOf_42 : decode b_S_announcementOf 42 = .ok (.ifnonnull 13, 3) := by decide +kernel
theorem d_S_announcementOf_45 : decode b_S_announcementOf 45 = .ok (.new 238, 3) := by decide +kernel
theorem d_S_announcementOf_48 : decode b_S_announcementOf 48 = .ok (.dup, 1) := by decide +kernel
theorem d_S_announcementOf_49 : decode b_S_announcementOf 49 = .ok (.ldc 240, 2) := by decide +kernel
theorem d_S_announcementOf_51 : decode b_S_announcementOf 51 = .ok (.invokespecial 242, 3) := by decide +kernel
theorem d_S_announcementOf_54 : decode b_S_announcementOf 54 = .ok (.athrow, 1) := by decide +kernel
theorem d_S_announcementOf_55 : decode b_S_announcementOf 55 = .ok (.aload_n 2, 1) := by decide +kernel
theorem d_S_announcementOf_56 : decode b_S_announcementOf 56 = .ok (.areturn, 1) := by decide +kernel
theorem d_A_hasAllLines_0 : decode b_A_hasAllLines 0 = .ok (.aload_n 0, 1) := by decide +kernel
theorem d_A_hasAllLines_1 : decode b_A_hasAllLines 1 = .ok (.getfield 33, 3) := by decide +kernel
theorem d_A_hasAllLines_4 : decode b_A_hasAllLines 4 = .ok (.aload_n 0, 1) := by decide +kernel
theorem d_A_hasAllLines_5 : decode b_A_hasAllLines 5 = .ok (.getfield 18, 3) := by decide +kernel
theorem d_A_hasAllLines_8 : decode b_A_hasAllLines 8 = .ok (.if_icmp .ge 15, 3) := by decide +kernel
theorem d_A_hasAllLines_11 : decode b_A_hasAllLines 11 = .ok (.aload_n 0, 1) := by decide +kernel
theorem d_A_hasAllLines_12 : decode b_A_hasAllLines 12 = .ok (.getfield 33, 3) := by decide +kernel
theorem d_A_hasAllLines_15 : decode b_A_hasAllLines 15 = .ok (.aload_n 0, 1) := by decide +kernel
theorem d_A_hasAllLines_16 : decode b_A_hasAllLines 16 = .ok (.getfield 23, 3) := by decide +kernel
theorem d_A_hasAllLines_19 : decode b_A_hasAllLines 19 = .ok (.arraylength, 1) := by decide +kernel
theorem d_A_hasAllLines_20 : decode b_A_hasAllLines 20 = .ok (.if_icmp .lt 7, 3) := by decide +kernel
theorem d_A_hasAllLines_23 : decode b_A_hasAllLines 23 = .ok (.iconst 1, 1) := by decide +kernel
theorem d_A_hasAllLines_24 : decode b_A_hasAllLines 24 = .ok (.goto 4, 3) := by decide +kernel
theorem d_A_hasAllLines_27 : decode b_A_hasAllLines 27 = .ok (.iconst 0, 1) := by decide +kernel
theorem d_A_hasAllLines_28 : decode b_A_hasAllLines 28 = .ok (.ireturn, 1) := by decide +kernel
theorem d_S_mustHold_0 : decode b_S_mustHold 0 = .ok (.iload_n 0, 1) := by decide +kernel
theorem d_S_mustHold_1 : decode b_S_mustHold 1 = .ok (.ifCond .ne 13, 3) := by decide +kernel
theorem d_S_mustHold_4 : decode b_S_mustHold 4 = .ok (.new 233, 3) := by decide +kernel
theorem d_S_mustHold_7 : decode b_S_mustHold 7 = .ok (.dup, 1) := by decide +kernel
theorem d_S_mustHold_8 : decode b_S_mustHold 8 = .ok (.ldc 235, 2) := by decide +kernel
theorem d_S_mustHold_10 : decode b_S_mustHold 10 = .ok (.invokespecial 237, 3) := by decide +kernel
theorem d_S_mustHold_13 : decode b_S_mustHold 13 = .ok (.athrow, 1) := by decide +kernel
theorem d_S_mustHold_14 : decode b_S_mustHold 14 = .ok (.return_, 1) := by decide +kernel
theorem d_A_addLine_0 : decode b_A_addLine 0 = .ok (.aload_n 0, 1) := by decide +kernel
theorem d_A_addLine_1 : decode b_A_addLine 1 = .ok (.getfield 33, 3) := by decide +kernel
theorem d_A_addLine_4 : decode b_A_addLine 4 = .ok (.istore_n 3, 1) := by decide +kernel
theorem d_A_addLine_5 : decode b_A_addLine 5 = .ok (.iload_n 3, 1) := by decide +kernel
theorem d_A_addLine_6 : decode b_A_addLine 6 = .ok (.ifCond .lt 39, 3) := by decide +kernel
theorem d_A_addLine_9 : decode b_A_addLine 9 = .ok (.iload_n 3, 1) := by decide +kernel
theorem d_A_addLine_10 : decode b_A_addLine 10 = .ok (.aload_n 0, 1) := by decide +kernel
theorem d_A_addLine_11 : decode b_A_addLine 11 = .ok (.getfield 23, 3) := by decide +kernel
theorem d_A_addLine_14 : decode b_A_addLine 14 = .ok (.arraylength, 1) := by decide +kernel
theorem d_A_addLine_15 : decode b_A_addLine 15 = .ok (.if_icmp .ge 30, 3) := by decide +kernel
theorem d_A_addLine_18 : decode b_A_addLine 18 = .ok (.aload_n 0, 1) := by decide +kernel
theorem d_A_addLine_19 : decode b_A_addLine 19 = .ok (.getfield 23, 3) := by decide +kernel
theorem d_A_addLine_22 : decode b_A_addLine 22 = .ok (.iload_n 3, 1) := by decide +kernel
theorem d_A_addLine_23 : decode b_A_addLine 23 = .ok (.new 21, 3) := by decide +kernel
theorem d_A_addLine_26 : decode b_A_addLine 26 = .ok (.dup, 1) := by decide +kernel
theorem d_A_addLine_27 : decode b_A_addLine 27 = .ok (.aload_n 0, 1) := by decide +kernel
theorem d_A_addLine_28 : decode b_A_addLine 28 = .ok (.iload_n 3, 1) := by decide +kernel
theorem d_A_addLine_29 : decode b_A_addLine 29 = .ok (.iload_n 1, 1) := by decide +kernel
theorem d_A_addLine_30 : decode b_A_addLine 30 = .ok (.iload_n 2, 1) := by decide +kernel
theorem d_A_addLine_31 : decode b_A_addLine 31 = .ok (.invokespecial 36, 3) := by decide +kernel
theorem d_A_addLine_34 : decode b_A_addLine 34 = .ok (.aastore, 1) := by decide +kernel
theorem d_A_addLine_35 : decode b_A_addLine 35 = .ok (.aload_n 0, 1) := by decide +kernel
theorem d_A_addLine_36 : decode b_A_addLine 36 = .ok (.dup, 1) := by decide +kernel
theorem d_A_addLine_37 : decode b_A_addLine 37 = .ok (.getfield 33, 3) := by decide +kernel
theorem d_A_addLine_40 : decode b_A_addLine 40 = .ok (.iconst 1, 1) := by decide +kernel
theorem d_A_addLine_41 : decode b_A_addLine 41 = .ok (.iadd, 1) := by decide +kernel
theorem d_A_addLine_42 : decode b_A_addLine 42 = .ok (.putfield 33, 3) := by decide +kernel
theorem d_A_addLine_45 : decode b_A_addLine 45 = .ok (.iload_n 3, 1) := by decide +kernel
theorem d_A_addLine_46 : decode b_A_addLine 46 = .ok (.ireturn, 1) := by decide +kernel
theorem d_N_init_0 : decode b_N_init 0 = .ok (.aload_n 0, 1) := by decide +kernel
theorem d_N_init_1 : decode b_N_init 1 = .ok (.invokespecial 1, 3) := by decide +kernel
theorem d_N_init_4 : decode b_N_init 4 = .ok (.aload_n 0, 1) := by decide +kernel
theorem d_N_init_5 : decode b_N_init 5 = .ok (.aload_n 1, 1) := by decide +kernel
theorem d_N_init_6 : decode b_N_init 6 = .ok (.putfield 7, 3) := by decide +kernel
theorem d_N_init_9 : decode b_N_init 9 = .ok (.aload_n 0, 1) := by decide +kernel
theorem d_N_init_10 : decode b_N_init 10 = .ok (.iload_n 2, 1) := by decide +kernel
theorem d_N_init_11 : decode b_N_init 11 = .ok (.putfield 13, 3) := by decide +kernel
theorem d_N_init_14 : decode b_N_init 14 = .ok (.aload_n 0, 1) := by decide +kernel
theorem d_N_init_15 : decode b_N_init 15 = .ok (.iload_n 3, 1) := by decide +kernel
theorem d_N_init_16 : decode b_N_init 16 = .ok (.putfield 17, 3) := by decide +kernel
theorem d_N_init_19 : decode b_N_init 19 = .ok (.aload_n 0, 1) := by decide +kernel
theorem d_N_init_20 : decode b_N_init 20 = .ok (.iload 4, 2) := by decide +kernel
theorem d_N_init_22 : decode b_N_init 22 = .ok (.putfield 20, 3) := by decide +kernel
theorem d_N_init_25 : decode b_N_init 25 = .ok (.return_, 1) := by decide +kernel
theorem d_S_arrive_0 : decode b_S_arrive 0 = .ok (.aload_n 0, 1) := by decide +kernel
theorem d_S_arrive_1 : decode b_S_arrive 1 = .ok (.iload_n 1, 1) := by decide +kernel
theorem d_S_arrive_2 : decode b_S_arrive 2 = .ok (.invokevirtual 44, 3) := by decide +kernel
theorem d_S_arrive_5 : decode b_S_arrive 5 = .ok (.astore 4, 2) := by decide +kernel
theorem d_S_arrive_7 : decode b_S_arrive 7 = .ok (.iload_n 2, 1) := by decide +kernel
theorem d_S_arrive_8 : decode b_S_arrive 8 = .ok (.iconst 0, 1) := by decide +kernel
theorem d_S_arrive_9 : decode b_S_arrive 9 = .ok (.iconst 3, 1) := by decide +kernel
theorem d_S_arrive_10 : decode b_S_arrive 10 = .ok (.invokestatic 27, 3) := by decide +kernel
theorem d_S_arrive_13 : decode b_S_arrive 13 = .ok (.aload 4, 2) := by decide +kernel
theorem d_S_arrive_15 : decode b_S_arrive 15 = .ok (.getfield 48, 3) := by decide +kernel
theorem d_S_arrive_18 : decode b_S_arrive 18 = .ok (.ifCond .ne 15, 3) := by decide +kernel
theorem d_S_arrive_21 : decode b_S_arrive 21 = .ok (.aload 4, 2) := by decide +kernel
theorem d_S_arrive_23 : decode b_S_arrive 23 = .ok (.invokevirtual 51, 3) := by decide +kernel
theorem d_S_arrive_26 : decode b_S_arrive 26 = .ok (.ifCond .eq 7, 3) := by decide +kernel
theorem d_S_arrive_29 : decode b_S_arrive 29 = .ok (.iconst 1, 1) := by decide +kernel
theorem d_S_arrive_30 : decode b_S_arrive 30 = .ok (.goto 4, 3) := by decide +kernel
theorem d_S_arrive_33 : decode b_S_arrive 33 = .ok (.iconst 0, 1) := by decide +kernel
theorem d_S_arrive_34 : decode b_S_arrive 34 = .ok (.invokestatic 55, 3) := by decide +kernel
theorem d_S_arrive_37 : decode b_S_arrive 37 = .ok (.aload_n 0, 1) := by decide +kernel
theorem d_S_arrive_38 : decode b_S_arrive 38 = .ok (.iload_n 2, 1) := by decide +kernel
theorem d_S_arrive_39 : decode b_S_arrive 39 = .ok (.invokevirtual 63, 3) := by decide +kernel
theorem d_S_arrive_42 : decode b_S_arrive 42 = .ok (.ifCond .ne 7, 3) := by decide +kernel
theorem d_S_arrive_45 : decode b_S_arrive 45 = .ok (.iconst 1, 1) := by decide +kernel
theorem d_S_arrive_46 : decode b_S_arrive 46 = .ok (.goto 4, 3) := by decide +kernel
theorem d_S_arrive_49 : decode b_S_arrive 49 = .ok (.iconst 0, 1) := by decide +kernel
theorem d_S_arrive_50 : decode b_S_arrive 50 = .ok (.invokestatic 55, 3) := by decide +kernel
theorem d_S_arrive_53 : decode b_S_arrive 53 = .ok (.aload 4, 2) := by decide +kernel
theorem d_S_arrive_55 : decode b_S_arrive 55 = .ok (.iload_n 2, 1) := by decide +kernel
theorem d_S_arrive_56 : decode b_S_arrive 56 = .ok (.putfield 67, 3) := by decide +kernel
theorem d_S_arrive_59 : decode b_S_arrive 59 = .ok (.aload 4, 2) := by decide +kernel
theorem d_S_arrive_61 : decode b_S_arrive 61 = .ok (.iload_n 3, 1) := by decide +kernel
theorem d_S_arrive_62 : decode b_S_arrive 62 = .ok (.ifCond .eq 7, 3) := by decide +kernel
theorem d_S_arrive_65 : decode b_S_arrive 65 = .ok (.iconst 1, 1) := by decide +kernel
theorem d_S_arrive_66 : decode b_S_arrive 66 = .ok (.goto 4, 3) := by decide +kernel
theorem d_S_arrive_69 : decode b_S_arrive 69 = .ok (.iconst 2, 1) := by decide +kernel
theorem d_S_arrive_70 : decode b_S_arrive 70 = .ok (.putfield 48, 3) := by decide +kernel
theorem d_S_arrive_73 : decode b_S_arrive 73 = .ok (.aload 4, 2) := by decide +kernel
theorem d_S_arrive_75 : decode b_S_arrive 75 = .ok (.getfield 48, 3) := by decide +kernel
theorem d_S_arrive_78 : decode b_S_arrive 78 = .ok (.ireturn, 1) := by decide +kernel
theorem d_S_isTaken_0 : decode b_S_isTaken 0 = .ok (.iconst 0, 1) := by decide +kernel
theorem d_S_isTaken_1 : decode b_S_isTaken 1 = .ok (.istore_n 2, 1) := by decide +kernel
theorem d_S_isTaken_2 : decode b_S_isTaken 2 = .ok (.iload_n 2, 1) := by decide +kernel
theorem d_S_isTaken_3 : decode b_S_isTaken 3 = .ok (.aload_n 0, 1) := by decide +kernel
theorem d_S_isTaken_4 : decode b_S_isTaken 4 = .ok (.getfield 31, 3) := by decide +kernel
theorem d_S_isTaken_7 : decode b_S_isTaken 7 = .ok (.if_icmp .ge 39, 3) := by decide +kernel
theorem d_S_isTaken_10 : decode b_S_isTaken 10 = .ok (.iload_n 2, 1) := by decide +kernel
theorem d_S_isTaken_11 : decode b_S_isTaken 11 = .ok (.aload_n 0, 1) := by decide +kernel
theorem d_S_isTaken_12 : decode b_S_isTaken 12 = .ok (.getfield 11, 3) := by decide +kernel
theorem d_S_isTaken_15 : decode b_S_isTaken 15 = .ok (.arraylength, 1) := by decide +kernel
theorem d_S_isTaken_16 : decode b_S_isTaken 16 = .ok (.if_icmp .ge 30, 3) := by decide +kernel
theorem d_S_isTaken_19 : decode b_S_isTaken 19 = .ok (.aload_n 0, 1) := by decide +kernel
theorem d_S_isTaken_20 : decode b_S_isTaken 20 = .ok (.getfield 11, 3) := by decide +kernel
theorem d_S_isTaken_23 : decode b_S_isTaken 23 = .ok (.iload_n 2, 1) := by decide +kernel
theorem d_S_isTaken_24 : decode b_S_isTaken 24 = .ok (.aaload, 1) := by decide +kernel
theorem d_S_isTaken_25 : decode b_S_isTaken 25 = .ok (.astore_n 3, 1) := by decide +kernel
theorem d_S_isTaken_26 : decode b_S_isTaken 26 = .ok (.aload_n 3, 1) := by decide +kernel
theorem d_S_isTaken_27 : decode b_S_isTaken 27 = .ok (.ifnull 13, 3) := by decide +kernel
theorem d_S_isTaken_30 : decode b_S_isTaken 30 = .ok (.aload_n 3, 1) := by decide +kernel
theorem d_S_isTaken_31 : decode b_S_isTaken 31 = .ok (.iload_n 1, 1) := by decide +kernel
theorem d_S_isTaken_32 : decode b_S_isTaken 32 = .ok (.invokevirtual 255, 3) := by decide +kernel
theorem d_S_isTaken_35 : decode b_S_isTaken 35 = .ok (.ifCond .eq 5, 3) := by decide +kernel
theorem d_S_isTaken_38 : decode b_S_isTaken 38 = .ok (.iconst 1, 1) := by decide +kernel
theorem d_S_isTaken_39 : decode b_S_isTaken 39 = .ok (.ireturn, 1) := by decide +kernel
theorem d_S_isTaken_40 : decode b_S_isTaken 40 = .ok (.iinc 2 1, 3) := by decide +kernel
theorem d_S_isTaken_43 : decode b_S_isTaken 43 = .ok (.goto (-41), 3) := by decide +kernel
theorem d_S_isTaken_46 : decode b_S_isTaken 46 = .ok (.iconst 0, 1) := by decide +kernel
theorem d_S_isTaken_47 : decode b_S_isTaken 47 = .ok (.ireturn, 1) := by decide +kernel
theorem d_A_standsAt_0 : decode b_A_standsAt 0 = .ok (.aload_n 0, 1) := by decide +kernel
theorem d_A_standsAt_1 : decode b_A_standsAt 1 = .ok (.getfield 30, 3) := by decide +kernel
theorem d_A_standsAt_4 : decode b_A_standsAt 4 = .ok (.iload_n 1, 1) := by decide +kernel
theorem d_A_standsAt_5 : decode b_A_standsAt 5 = .ok (.if_icmp .ne 22, 3) := by decide +kernel
theorem d_A_standsAt_8 : decode b_A_standsAt 8 = .ok (.aload_n 0, 1) := by decide +kernel
theorem d_A_standsAt_9 : decode b_A_standsAt 9 = .ok (.getfield 27, 3) := by decide +kernel
theorem d_A_standsAt_12 : decode b_A_standsAt 12 = .ok (.ifCond .eq 15, 3) := by decide +kernel
theorem d_A_standsAt_15 : decode b_A_standsAt 15 = .ok (.aload_n 0, 1) := by decide +kernel
theorem d_A_standsAt_16 : decode b_A_standsAt 16 = .ok (.getfield 27, 3) := by decide +kernel
theorem d_A_standsAt_19 : decode b_A_standsAt 19 = .ok (.iconst 3, 1) := by decide +kernel
theorem d_A_standsAt_20 : decode b_A_standsAt 20 = .ok (.if_icmp .eq 7, 3) := by decide +kernel
theorem d_A_standsAt_23 : decode b_A_standsAt 23 = .ok (.iconst 1, 1) := by decide +kernel
theorem d_A_standsAt_24 : decode b_A_standsAt 24 = .ok (.goto 4, 3) := by decide +kernel
theorem d_A_standsAt_27 : decode b_A_standsAt 27 = .ok (.iconst 0, 1) := by decide +kernel
theorem d_A_standsAt_28 : decode b_A_standsAt 28 = .ok (.ireturn, 1) := by decide +kernel
theorem d_S_accept_0 : decode b_S_accept 0 = .ok (.aload_n 0, 1) := by decide +kernel
theorem d_S_accept_1 : decode b_S_accept 1 = .ok (.iload_n 1, 1) := by decide +kernel
theorem d_S_accept_2 : decode b_S_accept 2 = .ok (.invokevirtual 44, 3) := by decide +kernel
theorem d_S_accept_5 : decode b_S_accept 5 = .ok (.astore_n 3, 1) := by decide +kernel
theorem d_S_accept_6 : decode b_S_accept 6 = .ok (.iload_n 2, 1) := by decide +kernel
theorem d_S_accept_7 : decode b_S_accept 7 = .ok (.iconst 0, 1) := by decide +kernel
theorem d_S_accept_8 : decode b_S_accept 8 = .ok (.bipush 7, 2) := by decide +kernel
theorem d_S_accept_10 : decode b_S_accept 10 = .ok (.invokestatic 27, 3) := by decide +kernel
theorem d_S_accept_13 : decode b_S_accept 13 = .ok (.aload_n 3, 1) := by decide +kernel
theorem d_S_accept_14 : decode b_S_accept 14 = .ok (.getfield 48, 3) := by decide +kernel
theorem d_S_accept_17 : decode b_S_accept 17 = .ok (.iconst 2, 1) := by decide +kernel
theorem d_S_accept_18 : decode b_S_accept 18 = .ok (.if_icmp .ne 15, 3) := by decide +kernel
theorem d_S_accept_21 : decode b_S_accept 21 = .ok (.aload_n 0, 1) := by decide +kernel
theorem d_S_accept_22 : decode b_S_accept 22 = .ok (.iload_n 2, 1) := by decide +kernel
theorem d_S_accept_23 : decode b_S_accept 23 = .ok (.invokevirtual 70, 3) := by decide +kernel
theorem d_S_accept_26 : decode b_S_accept 26 = .ok (.ifCond .eq 7, 3) := by decide +kernel
theorem d_S_accept_29 : decode b_S_accept 29 = .ok (.iconst 1, 1) := by decide +kernel
theorem d_S_accept_30 : decode b_S_accept 30 = .ok (.goto 4, 3) := by decide +kernel
theorem d_S_accept_33 : decode b_S_accept 33 = .ok (.iconst 0, 1) := by decide +kernel
theorem d_S_accept_34 : decode b_S_accept 34 = .ok (.invokestatic 55, 3) := by decide +kernel
theorem d_S_accept_37 : decode b_S_accept 37 = .ok (.aload_n 3, 1) := by decide +kernel
theorem d_S_accept_38 : decode b_S_accept 38 = .ok (.iconst 1, 1) := by decide +kernel
theorem d_S_accept_39 : decode b_S_accept 39 = .ok (.putfield 48, 3) := by decide +kernel
theorem d_S_accept_42 : decode b_S_accept 42 = .ok (.return_, 1) := by decide +kernel
theorem d_S_hasRight_0 : decode b_S_hasRight 0 = .ok (.aload_n 0, 1) := by decide +kernel
theorem d_S_hasRight_1 : decode b_S_hasRight 1 = .ok (.getfield 73, 3) := by decide +kernel
theorem d_S_hasRight_4 : decode b_S_hasRight 4 = .ok (.iload_n 1, 1) := by decide +kernel
theorem d_S_hasRight_5 : decode b_S_hasRight 5 = .ok (.invokestatic 76, 3) := by decide +kernel
theorem d_S_hasRight_8 : decode b_S_hasRight 8 = .ok (.iand, 1) := by decide +kernel
theorem d_S_hasRight_9 : decode b_S_hasRight 9 = .ok (.ifCond .eq 7, 3) := by decide +kernel
theorem d_S_hasRight_12 : decode b_S_hasRight 12 = .ok (.iconst 1, 1) := by decide +kernel
theorem d_S_hasRight_13 : decode b_S_hasRight 13 = .ok (.goto 4, 3) := by decide +kernel
theorem d_S_hasRight_16 : decode b_S_hasRight 16 = .ok (.iconst 0, 1) := by decide +kernel
theorem d_S_hasRight_17 : decode b_S_hasRight 17 = .ok (.ireturn, 1) := by decide +kernel
theorem d_S_bitOf_0 : decode b_S_bitOf 0 = .ok (.iconst 1, 1) := by decide +kernel
theorem d_S_bitOf_1 : decode b_S_bitOf 1 = .ok (.iload_n 0, 1) := by decide +kernel
theorem d_S_bitOf_2 : decode b_S_bitOf 2 = .ok (.ishl, 1) := by decide +kernel
theorem d_S_bitOf_3 : decode b_S_bitOf 3 = .ok (.ireturn, 1) := by decide +kernel
theorem d_S_right_0 : decode b_S_right 0 = .ok (.iload_n 1, 1) := by decide +kernel
theorem d_S_right_1 : decode b_S_right 1 = .ok (.iconst 0, 1) := by decide +kernel
theorem d_S_right_2 : decode b_S_right 2 = .ok (.bipush 7, 2) := by decide +kernel
theorem d_S_right_4 : decode b_S_right 4 = .ok (.invokestatic 27, 3) := by decide +kernel
theorem d_S_right_7 : decode b_S_right 7 = .ok (.aload_n 0, 1) := by decide +kernel
theorem d_S_right_8 : decode b_S_right 8 = .ok (.iload_n 2, 1) := by decide +kernel
theorem d_S_right_9 : decode b_S_right 9 = .ok (.ifCond .eq 15, 3) := by decide +kernel
theorem d_S_right_12 : decode b_S_right 12 = .ok (.aload_n 0, 1) := by decide +kernel
theorem d_S_right_13 : decode b_S_right 13 = .ok (.getfield 73, 3) := by decide +kernel
theorem d_S_right_16 : decode b_S_right 16 = .ok (.iload_n 1, 1) := by decide +kernel
theorem d_S_right_17 : decode b_S_right 17 = .ok (.invokestatic 76, 3) := by decide +kernel
theorem d_S_right_20 : decode b_S_right 20 = .ok (.ior, 1) := by decide +kernel
theorem d_S_right_21 : decode b_S_right 21 = .ok (.goto 14, 3) := by decide +kernel
theorem d_S_right_24 : decode b_S_right 24 = .ok (.aload_n 0, 1) := by decide +kernel
theorem d_S_right_25 : decode b_S_right 25 = .ok (.getfield 73, 3) := by decide +kernel
theorem d_S_right_28 : decode b_S_right 28 = .ok (.iload_n 1, 1) := by decide +kernel
theorem d_S_right_29 : decode b_S_right 29 = .ok (.invokestatic 76, 3) := by decide +kernel
theorem d_S_right_32 : decode b_S_right 32 = .ok (.iconst (-1), 1) := by decide +kernel
theorem d_S_right_33 : decode b_S_right 33 = .ok (.ixor, 1) := by decide +kernel
theorem d_S_right_34 : decode b_S_right 34 = .ok (.iand, 1) := by decide +kernel
theorem d_S_right_35 : decode b_S_right 35 = .ok (.putfield 73, 3) := by decide +kernel
theorem d_S_right_38 : decode b_S_right 38 = .ok (.return_, 1) := by decide +kernel
theorem d_S_tolerance_0 : decode b_S_tolerance 0 = .ok (.aload_n 0, 1) := by decide +kernel
theorem d_S_tolerance_1 : decode b_S_tolerance 1 = .ok (.iload_n 1, 1) := by decide +kernel
theorem d_S_tolerance_2 : decode b_S_tolerance 2 = .ok (.iload_n 2, 1) := by decide +kernel
theorem d_S_tolerance_3 : decode b_S_tolerance 3 = .ok (.invokevirtual 80, 3) := by decide +kernel
theorem d_S_tolerance_6 : decode b_S_tolerance 6 = .ok (.astore 4, 2) := by decide +kernel
theorem d_S_tolerance_8 : decode b_S_tolerance 8 = .ok (.iload_n 3, 1) := by decide +kernel
theorem d_S_tolerance_9 : decode b_S_tolerance 9 = .ok (.iconst 0, 1) := by decide +kernel
theorem d_S_tolerance_10 : decode b_S_tolerance 10 = .ok (.bipush 50, 2) := by decide +kernel
theorem d_S_tolerance_12 : decode b_S_tolerance 12 = .ok (.invokestatic 27, 3) := by decide +kernel
theorem d_S_tolerance_15 : decode b_S_tolerance 15 = .ok (.aload 4, 2) := by decide +kernel
theorem d_S_tolerance_17 : decode b_S_tolerance 17 = .ok (.getfield 84, 3) := by decide +kernel
theorem d_S_tolerance_20 : decode b_S_tolerance 20 = .ok (.ifCond .ne 7, 3) := by decide +kernel
theorem d_S_tolerance_23 : decode b_S_tolerance 23 = .ok (.iconst 1, 1) := by decide +kernel
theorem d_S_tolerance_24 : decode b_S_tolerance 24 = .ok (.goto 4, 3) := by decide +kernel
theorem d_S_tolerance_27 : decode b_S_tolerance 27 = .ok (.iconst 0, 1) := by decide +kernel
theorem d_S_tolerance_28 : decode b_S_tolerance 28 = .ok (.invokestatic 55, 3) := by decide +kernel
theorem d_S_tolerance_31 : decode b_S_tolerance 31 = .ok (.aload 4, 2) := by decide +kernel
theorem d_S_tolerance_33 : decode b_S_tolerance 33 = .ok (.iload_n 3, 1) := by decide +kernel
theorem d_S_tolerance_34 : decode b_S_tolerance 34 = .ok (.putfield 88, 3) := by decide +kernel
theorem d_S_tolerance_37 : decode b_S_tolerance 37 = .ok (.return_, 1) := by decide +kernel
theorem d_S_lineOf_0 : decode b_S_lineOf 0 = .ok (.aload_n 0, 1) := by decide +kernel
theorem d_S_lineOf_1 : decode b_S_lineOf 1 = .ok (.iload_n 1, 1) := by decide +kernel
theorem d_S_lineOf_2 : decode b_S_lineOf 2 = .ok (.invokevirtual 44, 3) := by decide +kernel
theorem d_S_lineOf_5 : decode b_S_lineOf 5 = .ok (.astore_n 3, 1) := by decide +kernel
theorem d_S_lineOf_6 : decode b_S_lineOf 6 = .ok (.iload_n 2, 1) := by decide +kernel
theorem d_S_lineOf_7 : decode b_S_lineOf 7 = .ok (.ifCond .lt 20, 3) := by decide +kernel
theorem d_S_lineOf_10 : decode b_S_lineOf 10 = .ok (.iload_n 2, 1) := by decide +kernel
theorem d_S_lineOf_11 : decode b_S_lineOf 11 = .ok (.aload_n 3, 1) := by decide +kernel
theorem d_S_lineOf_12 : decode b_S_lineOf 12 = .ok (.getfield 226, 3) := by decide +kernel
theorem d_S_lineOf_15 : decode b_S_lineOf 15 = .ok (.if_icmp .ge 12, 3) := by decide +kernel
theorem d_S_lineOf_18 : decode b_S_lineOf 18 = .ok (.iload_n 2, 1) := by decide +kernel
theorem d_S_lineOf_19 : decode b_S_lineOf 19 = .ok (.aload_n 3, 1) := by decide +kernel
theorem d_S_lineOf_20 : decode b_S_lineOf 20 = .ok (.getfield 243, 3) := by decide +kernel
theorem d_S_lineOf_23 : decode b_S_lineOf 23 = .ok (.arraylength, 1) := by decide +kernel
theorem d_S_lineOf_24 : decode b_S_lineOf 24 = .ok (.if_icmp .lt 13, 3) := by decide +kernel
theorem d_S_lineOf_27 : decode b_S_lineOf 27 = .ok (.new 238, 3) := by decide +kernel
theorem d_S_lineOf_30 : decode b_S_lineOf 30 = .ok (.dup, 1) := by decide +kernel
theorem d_S_lineOf_31 : decode b_S_lineOf 31 = .ok (.ldc 246, 2) := by decide +kernel
theorem d_S_lineOf_33 : decode b_S_lineOf 33 = .ok (.invokespecial 242, 3) := by decide +kernel
theorem d_S_lineOf_36 : decode b_S_lineOf 36 = .ok (.athrow, 1) := by decide +kernel
theorem d_S_lineOf_37 : decode b_S_lineOf 37 = .ok (.aload_n 3, 1) := by decide +kernel
theorem d_S_lineOf_38 : decode b_S_lineOf 38 = .ok (.getfield 243, 3) := by decide +kernel
theorem d_S_lineOf_41 : decode b_S_lineOf 41 = .ok (.iload_n 2, 1) := by decide +kernel
theorem d_S_lineOf_42 : decode b_S_lineOf 42 = .ok (.aaload, 1) := by decide +kernel
theorem d_S_lineOf_43 : decode b_S_lineOf 43 = .ok (.astore 4, 2) := by decide +kernel
theorem d_S_lineOf_45 : decode b_S_lineOf 45 = .ok (.aload 4, 2) := by decide +kernel
theorem d_S_lineOf_47 : decode b_S_lineOf 47 = .ok (.ifnonnull 13, 3) := by decide +kernel
theorem d_S_lineOf_50 : decode b_S_lineOf 50 = .ok (.new 238, 3) := by decide +kernel
theorem d_S_lineOf_53 : decode b_S_lineOf 53 = .ok (.dup, 1) := by decide +kernel
theorem d_S_lineOf_54 : decode b_S_lineOf 54 = .ok (.ldc 246, 2) := by decide +kernel
theorem d_S_lineOf_56 : decode b_S_lineOf 56 = .ok (.invokespecial 242, 3) := by decide +kernel
theorem d_S_lineOf_59 : decode b_S_lineOf 59 = .ok (.athrow, 1) := by decide +kernel
theorem d_S_lineOf_60 : decode b_S_lineOf 60 = .ok (.aload 4, 2) := by decide +kernel
theorem d_S_lineOf_62 : decode b_S_lineOf 62 = .ok (.areturn, 1) := by decide +kernel
theorem d_S_wanted_0 : decode b_S_wanted 0 = .ok (.aload_n 0, 1) := by decide +kernel
theorem d_S_wanted_1 : decode b_S_wanted 1 = .ok (.iload_n 1, 1) := by decide +kernel
theorem d_S_wanted_2 : decode b_S_wanted 2 = .ok (.iload_n 2, 1) := by decide +kernel
theorem d_S_wanted_3 : decode b_S_wanted 3 = .ok (.invokevirtual 80, 3) := by decide +kernel
theorem d_S_wanted_6 : decode b_S_wanted 6 = .ok (.astore 4, 2) := by decide +kernel
theorem d_S_wanted_8 : decode b_S_wanted 8 = .ok (.iload_n 3, 1) := by decide +kernel
theorem d_S_wanted_9 : decode b_S_wanted 9 = .ok (.iconst 0, 1) := by decide +kernel
theorem d_S_wanted_10 : decode b_S_wanted 10 = .ok (.iconst 5, 1) := by decide +kernel
theorem d_S_wanted_11 : decode b_S_wanted 11 = .ok (.invokestatic 27, 3) := by decide +kernel
theorem d_S_wanted_14 : decode b_S_wanted 14 = .ok (.aload 4, 2) := by decide +kernel
theorem d_S_wanted_16 : decode b_S_wanted 16 = .ok (.getfield 84, 3) := by decide +kernel
theorem d_S_wanted_19 : decode b_S_wanted 19 = .ok (.ifCond .ne 7, 3) := by decide +kernel
theorem d_S_wanted_22 : decode b_S_wanted 22 = .ok (.iconst 1, 1) := by decide +kernel
theorem d_S_wanted_23 : decode b_S_wanted 23 = .ok (.goto 4, 3) := by decide +kernel
theorem d_S_wanted_26 : decode b_S_wanted 26 = .ok (.iconst 0, 1) := by decide +kernel
theorem d_S_wanted_27 : decode b_S_wanted 27 = .ok (.invokestatic 55, 3) := by decide +kernel
theorem d_S_wanted_30 : decode b_S_wanted 30 = .ok (.aload 4, 2) := by decide +kernel
theorem d_S_wanted_32 : decode b_S_wanted 32 = .ok (.iload_n 3, 1) := by decide +kernel
theorem d_S_wanted_33 : decode b_S_wanted 33 = .ok (.putfield 91, 3) := by decide +kernel
theorem d_S_wanted_36 : decode b_S_wanted 36 = .ok (.return_, 1) := by decide +kernel
theorem d_S_count_0 : decode b_S_count 0 = .ok (.aload_n 0, 1) := by decide +kernel
theorem d_S_count_1 : decode b_S_count 1 = .ok (.iload_n 1, 1) := by decide +kernel
theorem d_S_count_2 : decode b_S_count 2 = .ok (.iload_n 2, 1) := by decide +kernel
theorem d_S_count_3 : decode b_S_count 3 = .ok (.invokevirtual 80, 3) := by decide +kernel
theorem d_S_count_6 : decode b_S_count 6 = .ok (.astore 6, 2) := by decide +kernel
theorem d_S_count_8 : decode b_S_count 8 = .ok (.iload_n 3, 1) := by decide +kernel
theorem d_S_count_9 : decode b_S_count 9 = .ok (.iconst 1, 1) := by decide +kernel
theorem d_S_count_10 : decode b_S_count 10 = .ok (.sipush 400, 3) := by decide +kernel
theorem d_S_count_13 : decode b_S_count 13 = .ok (.invokestatic 27, 3) := by decide +kernel
theorem d_S_count_16 : decode b_S_count 16 = .ok (.iload 4, 2) := by decide +kernel
theorem d_S_count_18 : decode b_S_count 18 = .ok (.iconst 0, 1) := by decide +kernel
theorem d_S_count_19 : decode b_S_count 19 = .ok (.bipush 99, 2) := by decide +kernel
theorem d_S_count_21 : decode b_S_count 21 = .ok (.invokestatic 27, 3) := by decide +kernel
theorem d_S_count_24 : decode b_S_count 24 = .ok (.iload 5, 2) := by decide +kernel
theorem d_S_count_26 : decode b_S_count 26 = .ok (.iconst 0, 1) := by decide +kernel
theorem d_S_count_27 : decode b_S_count 27 = .ok (.bipush 7, 2) := by decide +kernel
theorem d_S_count_29 : decode b_S_count 29 = .ok (.invokestatic 27, 3) := by decide +kernel
theorem d_S_count_32 : decode b_S_count 32 = .ok (.aload 6, 2) := by decide +kernel
theorem d_S_count_34 : decode b_S_count 34 = .ok (.iload_n 3, 1) := by decide +kernel
theorem d_S_count_35 : decode b_S_count 35 = .ok (.iload 5, 2) := by decide +kernel
theorem d_S_count_37 : decode b_S_count 37 = .ok (.invokestatic 94, 3) := by decide +kernel
theorem d_S_count_40 : decode b_S_count 40 = .ok (.istore 7, 2) := by decide +kernel
theorem d_S_count_42 : decode b_S_count 42 = .ok (.iload 7, 2) := by decide +kernel
theorem d_S_count_44 : decode b_S_count 44 = .ok (.ifCond .ge 6, 3) := by decide +kernel
theorem d_S_count_47 : decode b_S_count 47 = .ok (.iload 7, 2) := by decide +kernel
theorem d_S_count_49 : decode b_S_count 49 = .ok (.ireturn, 1) := by decide +kernel
theorem d_S_count_50 : decode b_S_count 50 = .ok (.iload_n 3, 1) := by decide +kernel
theorem d_S_count_51 : decode b_S_count 51 = .ok (.bipush 50, 2) := by decide +kernel
theorem d_S_count_53 : decode b_S_count 53 = .ok (.iadd, 1) := by decide +kernel
theorem d_S_count_54 : decode b_S_count 54 = .ok (.iconst 1, 1) := by decide +kernel
theorem d_S_count_55 : decode b_S_count 55 = .ok (.isub, 1) := by decide +kernel
theorem d_S_count_56 : decode b_S_count 56 = .ok (.bipush 50, 2) := by decide +kernel
theorem d_S_count_58 : decode b_S_count 58 = .ok (.idiv, 1) := by decide +kernel
theorem d_S_count_59 : decode b_S_count 59 = .ok (.istore 8, 2) := by decide +kernel
theorem d_S_count_61 : decode b_S_count 61 = .ok (.iload 8, 2) := by decide +kernel
theorem d_S_count_63 : decode b_S_count 63 = .ok (.aload_n 0, 1) := by decide +kernel
theorem d_S_count_64 : decode b_S_count 64 = .ok (.getfield 17, 3) := by decide +kernel
theorem d_S_count_67 : decode b_S_count 67 = .ok (.arraylength, 1) := by decide +kernel
theorem d_S_count_68 : decode b_S_count 68 = .ok (.aload_n 0, 1) := by decide +kernel
theorem d_S_count_69 : decode b_S_count 69 = .ok (.getfield 98, 3) := by decide +kernel
theorem d_S_count_72 : decode b_S_count 72 = .ok (.isub, 1) := by decide +kernel
theorem d_S_count_73 : decode b_S_count 73 = .ok (.if_icmp .le 13, 3) := by decide +kernel
theorem d_S_count_76 : decode b_S_count 76 = .ok (.new 35, 3) := by decide +kernel
theorem d_S_count_79 : decode b_S_count 79 = .ok (.dup, 1) := by decide +kernel
theorem d_S_count_80 : decode b_S_count 80 = .ok (.ldc 101, 2) := by decide +kernel
theorem d_S_count_82 : decode b_S_count 82 = .ok (.invokespecial 39, 3) := by decide +kernel
theorem d_S_count_85 : decode b_S_count 85 = .ok (.athrow, 1) := by decide +kernel
theorem d_S_count_86 : decode b_S_count 86 = .ok (.aload_n 0, 1) := by decide +kernel
theorem d_S_count_87 : decode b_S_count 87 = .ok (.aload 6, 2) := by decide +kernel
theorem d_S_count_89 : decode b_S_count 89 = .ok (.iload_n 3, 1) := by decide +kernel
theorem d_S_count_90 : decode b_S_count 90 = .ok (.iload 4, 2) := by decide +kernel
theorem d_S_count_92 : decode b_S_count 92 = .ok (.invokevirtual 103, 3) := by decide +kernel
theorem d_S_count_95 : decode b_S_count 95 = .ok (.aload 6, 2) := by decide +kernel
theorem d_S_count_97 : decode b_S_count 97 = .ok (.dup, 1) := by decide +kernel
theorem d_S_count_98 : decode b_S_count 98 = .ok (.getfield 107, 3) := by decide +kernel
theorem d_S_count_101 : decode b_S_count 101 = .ok (.iload_n 3, 1) := by decide +kernel
theorem d_S_count_102 : decode b_S_count 102 = .ok (.iadd, 1) := by decide +kernel
theorem d_S_count_103 : decode b_S_count 103 = .ok (.putfield 107, 3) := by decide +kernel
theorem d_S_count_106 : decode b_S_count 106 = .ok (.aload 6, 2) := by decide +kernel
theorem d_S_count_108 : decode b_S_count 108 = .ok (.dup, 1) := by decide +kernel
theorem d_S_count_109 : decode b_S_count 109 = .ok (.getfield 110, 3) := by decide +kernel
theorem d_S_count_112 : decode b_S_count 112 = .ok (.iload 5, 2) := by decide +kernel
theorem d_S_count_114 : decode b_S_count 114 = .ok (.invokestatic 76, 3) := by decide +kernel
theorem d_S_count_117 : decode b_S_count 117 = .ok (.ior, 1) := by decide +kernel
theorem d_S_count_118 : decode b_S_count 118 = .ok (.putfield 110, 3) := by decide +kernel
theorem d_S_count_121 : decode b_S_count 121 = .ok (.iload 8, 2) := by decide +kernel
theorem d_S_count_123 : decode b_S_count 123 = .ok (.ireturn, 1) := by decide +kernel
theorem d_S_brokenByCounting_0 : decode b_S_brokenByCounting 0 = .ok (.aload_n 0, 1) := by decide +kernel
theorem d_S_brokenByCounting_1 : decode b_S_brokenByCounting 1 = .ok (.getfield 131, 3) := by decide +kernel
theorem d_S_brokenByCounting_4 : decode b_S_brokenByCounting 4 = .ok (.invokevirtual 135, 3) := by decide +kernel
theorem d_S_brokenByCounting_7 : decode b_S_brokenByCounting 7 = .ok (.ifCond .ne 5, 3) := by decide +kernel
theorem d_S_brokenByCounting_10 : decode b_S_brokenByCounting 10 = .ok (.iconst (-1), 1) := by decide +kernel
theorem d_S_brokenByCounting_11 : decode b_S_brokenByCounting 11 = .ok (.ireturn, 1) := by decide +kernel
theorem d_S_brokenByCounting_12 : decode b_S_brokenByCounting 12 = .ok (.aload_n 0, 1) := by decide +kernel
theorem d_S_brokenByCounting_13 : decode b_S_brokenByCounting 13 = .ok (.getfield 84, 3) := by decide +kernel
theorem d_S_brokenByCounting_16 : decode b_S_brokenByCounting 16 = .ok (.ifCond .eq 6, 3) := by decide +kernel
theorem d_S_brokenByCounting_19 : decode b_S_brokenByCounting 19 = .ok (.bipush (-2), 2) := by decide +kernel
theorem d_S_brokenByCounting_21 : decode b_S_brokenByCounting 21 = .ok (.ireturn, 1) := by decide +kernel
theorem d_S_brokenByCounting_22 : decode b_S_brokenByCounting 22 = .ok (.aload_n 0, 1) := by decide +kernel
theorem d_S_brokenByCounting_23 : decode b_S_brokenByCounting 23 = .ok (.getfield 110, 3) := by decide +kernel
theorem d_S_brokenByCounting_26 : decode b_S_brokenByCounting 26 = .ok (.iload_n 2, 1) := by decide +kernel
theorem d_S_brokenByCounting_27 : decode b_S_brokenByCounting 27 = .ok (.invokestatic 76, 3) := by decide +kernel
theorem d_S_brokenByCounting_30 : decode b_S_brokenByCounting 30 = .ok (.iand, 1) := by decide +kernel
theorem d_S_brokenByCounting_31 : decode b_S_brokenByCounting 31 = .ok (.ifCond .eq 6, 3) := by decide +kernel
theorem d_S_brokenByCounting_34 : decode b_S_brokenByCounting 34 = .ok (.bipush (-3), 2) := by decide +kernel
theorem d_S_brokenByCounting_36 : decode b_S_brokenByCounting 36 = .ok (.ireturn, 1) := by decide +kernel
theorem d_S_brokenByCounting_37 : decode b_S_brokenByCounting 37 = .ok (.aload_n 0, 1) := by decide +kernel
theorem d_S_brokenByCounting_38 : decode b_S_brokenByCounting 38 = .ok (.getfield 107, 3) := by decide +kernel
theorem d_S_brokenByCounting_41 : decode b_S_brokenByCounting 41 = .ok (.iload_n 1, 1) := by decide +kernel
theorem d_S_brokenByCounting_42 : decode b_S_brokenByCounting 42 = .ok (.iadd, 1) := by decide +kernel
theorem d_S_brokenByCounting_43 : decode b_S_brokenByCounting 43 = .ok (.aload_n 0, 1) := by decide +kernel
theorem d_S_brokenByCounting_44 : decode b_S_brokenByCounting 44 = .ok (.invokevirtual 221, 3) := by decide +kernel
theorem d_S_brokenByCounting_47 : decode b_S_brokenByCounting 47 = .ok (.if_icmp .le 8, 3) := by decide +kernel
theorem d_S_brokenByCounting_50 : decode b_S_brokenByCounting 50 = .ok (.bipush (-4), 2) := by decide +kernel
theorem d_S_brokenByCounting_52 : decode b_S_brokenByCounting 52 = .ok (.goto 4, 3) := by decide +kernel
theorem d_S_brokenByCounting_55 : decode b_S_brokenByCounting 55 = .ok (.iconst 0, 1) := by decide +kernel
theorem d_S_brokenByCounting_56 : decode b_S_brokenByCounting 56 = .ok (.ireturn, 1) := by decide +kernel
theorem d_A_hasArrived_0 : decode b_A_hasArrived 0 = .ok (.aload_n 0, 1) := by decide +kernel
theorem d_A_hasArrived_1 : decode b_A_hasArrived 1 = .ok (.getfield 27, 3) := by decide +kernel
theorem d_A_hasArrived_4 : decode b_A_hasArrived 4 = .ok (.iconst 1, 1) := by decide +kernel
theorem d_A_hasArrived_5 : decode b_A_hasArrived 5 = .ok (.if_icmp .ne 7, 3) := by decide +kernel
theorem d_A_hasArrived_8 : decode b_A_hasArrived 8 = .ok (.iconst 1, 1) := by decide +kernel
theorem d_A_hasArrived_9 : decode b_A_hasArrived 9 = .ok (.goto 4, 3) := by decide +kernel
theorem d_A_hasArrived_12 : decode b_A_hasArrived 12 = .ok (.iconst 0, 1) := by decide +kernel
theorem d_A_hasArrived_13 : decode b_A_hasArrived 13 = .ok (.ireturn, 1) := by decide +kernel
theorem d_N_mostTaken_0 : decode b_N_mostTaken 0 = .ok (.aload_n 0, 1) := by decide +kernel
theorem d_N_mostTaken_1 : decode b_N_mostTaken 1 = .ok (.getfield 20, 3) := by decide +kernel
theorem d_N_mostTaken_4 : decode b_N_mostTaken 4 = .ok (.aload_n 0, 1) := by decide +kernel
theorem d_N_mostTaken_5 : decode b_N_mostTaken 5 = .ok (.getfield 20, 3) := by decide +kernel
theorem d_N_mostTaken_8 : decode b_N_mostTaken 8 = .ok (.aload_n 0, 1) := by decide +kernel
theorem d_N_mostTaken_9 : decode b_N_mostTaken 9 = .ok (.getfield 23, 3) := by decide +kernel
theorem d_N_mostTaken_12 : decode b_N_mostTaken 12 = .ok (.imul, 1) := by decide +kernel
theorem d_N_mostTaken_13 : decode b_N_mostTaken 13 = .ok (.bipush 100, 2) := by decide +kernel
theorem d_N_mostTaken_15 : decode b_N_mostTaken 15 = .ok (.idiv, 1) := by decide +kernel
theorem d_N_mostTaken_16 : decode b_N_mostTaken 16 = .ok (.iadd, 1) := by decide +kernel
theorem d_N_mostTaken_17 : decode b_N_mostTaken 17 = .ok (.ireturn, 1) := by decide +kernel
theorem d_S_makeUnits_0 : decode b_S_makeUnits 0 = .ok (.iload_n 2, 1) := by decide +kernel
theorem d_S_makeUnits_1 : decode b_S_makeUnits 1 = .ok (.istore 4, 2) := by decide +kernel
theorem d_S_makeUnits_3 : decode b_S_makeUnits 3 = .ok (.iload 4, 2) := by decide +kernel
theorem d_S_makeUnits_5 : decode b_S_makeUnits 5 = .ok (.ifCond .le 56, 3) := by decide +kernel
theorem d_S_makeUnits_8 : decode b_S_makeUnits 8 = .ok (.aload_n 0, 1) := by decide +kernel
theorem d_S_makeUnits_9 : decode b_S_makeUnits 9 = .ok (.getfield 98, 3) := by decide +kernel
theorem d_S_makeUnits_12 : decode b_S_makeUnits 12 = .ok (.aload_n 0, 1) := by decide +kernel
theorem d_S_makeUnits_13 : decode b_S_makeUnits 13 = .ok (.getfield 17, 3) := by decide +kernel
theorem d_S_makeUnits_16 : decode b_S_makeUnits 16 = .ok (.arraylength, 1) := by decide +kernel
theorem d_S_makeUnits_17 : decode b_S_makeUnits 17 = .ok (.if_icmp .ge 44, 3) := by decide +kernel
theorem d_S_makeUnits_20 : decode b_S_makeUnits 20 = .ok (.aload_n 0, 1) := by decide +kernel
theorem d_S_makeUnits_21 : decode b_S_makeUnits 21 = .ok (.getfield 17, 3) := by decide +kernel
theorem d_S_makeUnits_24 : decode b_S_makeUnits 24 = .ok (.aload_n 0, 1) := by decide +kernel
theorem d_S_makeUnits_25 : decode b_S_makeUnits 25 = .ok (.getfield 98, 3) := by decide +kernel
theorem d_S_makeUnits_28 : decode b_S_makeUnits 28 = .ok (.new 15, 3) := by decide +kernel
theorem d_S_makeUnits_31 : decode b_S_makeUnits 31 = .ok (.dup, 1) := by decide +kernel
theorem d_S_makeUnits_32 : decode b_S_makeUnits 32 = .ok (.aload_n 1, 1) := by decide +kernel
theorem d_S_makeUnits_33 : decode b_S_makeUnits 33 = .ok (.iload 4, 2) := by decide +kernel
theorem d_S_makeUnits_35 : decode b_S_makeUnits 35 = .ok (.bipush 50, 2) := by decide +kernel
theorem d_S_makeUnits_37 : decode b_S_makeUnits 37 = .ok (.invokestatic 258, 3) := by decide +kernel
theorem d_S_makeUnits_40 : decode b_S_makeUnits 40 = .ok (.iload_n 3, 1) := by decide +kernel
theorem d_S_makeUnits_41 : decode b_S_makeUnits 41 = .ok (.invokespecial 263, 3) := by decide +kernel
theorem d_S_makeUnits_44 : decode b_S_makeUnits 44 = .ok (.aastore, 1) := by decide +kernel
theorem d_S_makeUnits_45 : decode b_S_makeUnits 45 = .ok (.aload_n 0, 1) := by decide +kernel
theorem d_S_makeUnits_46 : decode b_S_makeUnits 46 = .ok (.dup, 1) := by decide +kernel
theorem d_S_makeUnits_47 : decode b_S_makeUnits 47 = .ok (.getfield 98, 3) := by decide +kernel
theorem d_S_makeUnits_50 : decode b_S_makeUnits 50 = .ok (.iconst 1, 1) := by decide +kernel
theorem d_S_makeUnits_51 : decode b_S_makeUnits 51 = .ok (.iadd, 1) := by decide +kernel
theorem d_S_makeUnits_52 : decode b_S_makeUnits 52 = .ok (.putfield 98, 3) := by decide +kernel
theorem d_S_makeUnits_55 : decode b_S_makeUnits 55 = .ok (.iinc 4 (-50), 3) := by decide +kernel
theorem d_S_makeUnits_58 : decode b_S_makeUnits 58 = .ok (.goto (-55), 3) := by decide +kernel
theorem d_S_makeUnits_61 : decode b_S_makeUnits 61 = .ok (.return_, 1) := by decide +kernel
theorem d_U_init_0 : decode b_U_init 0 = .ok (.aload_n 0, 1) := by decide +kernel
theorem d_U_init_1 : decode b_U_init 1 = .ok (.invokespecial 3, 3) := by decide +kernel
theorem d_U_init_4 : decode b_U_init 4 = .ok (.aload_n 0, 1) := by decide +kernel
theorem d_U_init_5 : decode b_U_init 5 = .ok (.aload_n 1, 1) := by decide +kernel
theorem d_U_init_6 : decode b_U_init 6 = .ok (.putfield 9, 3) := by decide +kernel
theorem d_U_init_9 : decode b_U_init 9 = .ok (.aload_n 0, 1) := by decide +kernel
theorem d_U_init_10 : decode b_U_init 10 = .ok (.iload_n 2, 1) := by decide +kernel
theorem d_U_init_11 : decode b_U_init 11 = .ok (.putfield 15, 3) := by decide +kernel
theorem d_U_init_14 : decode b_U_init 14 = .ok (.aload_n 0, 1) := by decide +kernel
theorem d_U_init_15 : decode b_U_init 15 = .ok (.iload_n 3, 1) := by decide +kernel
theorem d_U_init_16 : decode b_U_init 16 = .ok (.putfield 19, 3) := by decide +kernel
theorem d_U_init_19 : decode b_U_init 19 = .ok (.aload_n 0, 1) := by decide +kernel
theorem d_U_init_20 : decode b_U_init 20 = .ok (.iconst (-1), 1) := by decide +kernel
theorem d_U_init_21 : decode b_U_init 21 = .ok (.putfield 22, 3) := by decide +kernel
theorem d_U_init_24 : decode b_U_init 24 = .ok (.return_, 1) := by decide +kernel
theorem d_S_damaged_0 : decode b_S_damaged 0 = .ok (.aload_n 0, 1) := by decide +kernel
theorem d_S_damaged_1 : decode b_S_damaged 1 = .ok (.iload_n 1, 1) := by decide +kernel
theorem d_S_damaged_2 : decode b_S_damaged 2 = .ok (.invokevirtual 113, 3) := by decide +kernel
theorem d_S_damaged_5 : decode b_S_damaged 5 = .ok (.astore_n 3, 1) := by decide +kernel
theorem d_S_damaged_6 : decode b_S_damaged 6 = .ok (.iload_n 2, 1) := by decide +kernel
theorem d_S_damaged_7 : decode b_S_damaged 7 = .ok (.iconst 1, 1) := by decide +kernel
theorem d_S_damaged_8 : decode b_S_damaged 8 = .ok (.bipush 9, 2) := by decide +kernel
theorem d_S_damaged_10 : decode b_S_damaged 10 = .ok (.invokestatic 27, 3) := by decide +kernel
theorem d_S_damaged_13 : decode b_S_damaged 13 = .ok (.aload_n 3, 1) := by decide +kernel
theorem d_S_damaged_14 : decode b_S_damaged 14 = .ok (.invokevirtual 117, 3) := by decide +kernel
theorem d_S_damaged_17 : decode b_S_damaged 17 = .ok (.ifCond .ne 17, 3) := by decide +kernel
theorem d_S_damaged_20 : decode b_S_damaged 20 = .ok (.aload_n 3, 1) := by decide +kernel
theorem d_S_damaged_21 : decode b_S_damaged 21 = .ok (.getfield 120, 3) := by decide +kernel
theorem d_S_damaged_24 : decode b_S_damaged 24 = .ok (.getfield 84, 3) := by decide +kernel
theorem d_S_damaged_27 : decode b_S_damaged 27 = .ok (.ifCond .ne 7, 3) := by decide +kernel
theorem d_S_damaged_30 : decode b_S_damaged 30 = .ok (.iconst 1, 1) := by decide +kernel
theorem d_S_damaged_31 : decode b_S_damaged 31 = .ok (.goto 4, 3) := by decide +kernel
theorem d_S_damaged_34 : decode b_S_damaged 34 = .ok (.iconst 0, 1) := by decide +kernel
theorem d_S_damaged_35 : decode b_S_damaged 35 = .ok (.invokestatic 55, 3) := by decide +kernel
theorem d_S_damaged_38 : decode b_S_damaged 38 = .ok (.aload_n 3, 1) := by decide +kernel
theorem d_S_damaged_39 : decode b_S_damaged 39 = .ok (.iload_n 2, 1) := by decide +kernel
theorem d_S_damaged_40 : decode b_S_damaged 40 = .ok (.putfield 124, 3) := by decide +kernel
theorem d_S_damaged_43 : decode b_S_damaged 43 = .ok (.aload_n 0, 1) := by decide +kernel
theorem d_S_damaged_44 : decode b_S_damaged 44 = .ok (.aload_n 3, 1) := by decide +kernel
theorem d_S_damaged_45 : decode b_S_damaged 45 = .ok (.getfield 120, 3) := by decide +kernel
theorem d_S_damaged_48 : decode b_S_damaged 48 = .ok (.iconst 1, 1) := by decide +kernel
theorem d_S_damaged_49 : decode b_S_damaged 49 = .ok (.invokevirtual 127, 3) := by decide +kernel
theorem d_S_damaged_52 : decode b_S_damaged 52 = .ok (.ireturn, 1) := by decide +kernel
theorem d_S_unitOf_0 : decode b_S_unitOf 0 = .ok (.iload_n 1, 1) := by decide +kernel
theorem d_S_unitOf_1 : decode b_S_unitOf 1 = .ok (.iconst 1, 1) := by decide +kernel
theorem d_S_unitOf_2 : decode b_S_unitOf 2 = .ok (.if_icmp .lt 20, 3) := by decide +kernel
theorem d_S_unitOf_5 : decode b_S_unitOf 5 = .ok (.iload_n 1, 1) := by decide +kernel
theorem d_S_unitOf_6 : decode b_S_unitOf 6 = .ok (.aload_n 0, 1) := by decide +kernel
theorem d_S_unitOf_7 : decode b_S_unitOf 7 = .ok (.getfield 98, 3) := by decide +kernel
theorem d_S_unitOf_10 : decode b_S_unitOf 10 = .ok (.if_icmp .gt 12, 3) := by decide +kernel
theorem d_S_unitOf_13 : decode b_S_unitOf 13 = .ok (.iload_n 1, 1) := by decide +kernel
theorem d_S_unitOf_14 : decode b_S_unitOf 14 = .ok (.aload_n 0, 1) := by decide +kernel
theorem d_S_unitOf_15 : decode b_S_unitOf 15 = .ok (.getfield 17, 3) := by decide +kernel
theorem d_S_unitOf_18 : decode b_S_unitOf 18 = .ok (.arraylength, 1) := by decide +kernel
theorem d_S_unitOf_19 : decode b_S_unitOf 19 = .ok (.if_icmp .le 13, 3) := by decide +kernel
theorem d_S_unitOf_22 : decode b_S_unitOf 22 = .ok (.new 238, 3) := by decide +kernel
theorem d_S_unitOf_25 : decode b_S_unitOf 25 = .ok (.dup, 1) := by decide +kernel
theorem d_S_unitOf_26 : decode b_S_unitOf 26 = .ok (.ldc 248, 2) := by decide +kernel
theorem d_S_unitOf_28 : decode b_S_unitOf 28 = .ok (.invokespecial 242, 3) := by decide +kernel
theorem d_S_unitOf_31 : decode b_S_unitOf 31 = .ok (.athrow, 1) := by decide +kernel
theorem d_S_unitOf_32 : decode b_S_unitOf 32 = .ok (.aload_n 0, 1) := by decide +kernel
theorem d_S_unitOf_33 : decode b_S_unitOf 33 = .ok (.getfield 17, 3) := by decide +kernel
theorem d_S_unitOf_36 : decode b_S_unitOf 36 = .ok (.iload_n 1, 1) := by decide +kernel
theorem d_S_unitOf_37 : decode b_S_unitOf 37 = .ok (.iconst 1, 1) := by decide +kernel
theorem d_S_unitOf_38 : decode b_S_unitOf 38 = .ok (.isub, 1) := by decide +kernel
theorem d_S_unitOf_39 : decode b_S_unitOf 39 = .ok (.aaload, 1) := by decide +kernel
theorem d_S_unitOf_40 : decode b_S_unitOf 40 = .ok (.astore_n 2, 1) := by decide +kernel
theorem d_S_unitOf_41 : decode b_S_unitOf 41 = .ok (.aload_n 2, 1) := by decide +kernel
theorem d_S_unitOf_42 : decode b_S_unitOf 42 = .ok (.ifnonnull 13, 3) := by decide +kernel
theorem d_S_unitOf_45 : decode b_S_unitOf 45 = .ok (.new 238, 3) := by decide +kernel
theorem d_S_unitOf_48 : decode b_S_unitOf 48 = .ok (.dup, 1) := by decide +kernel
theorem d_S_unitOf_49 : decode b_S_unitOf 49 = .ok (.ldc 248, 2) := by decide +kernel
theorem d_S_unitOf_51 : decode b_S_unitOf 51 = .ok (.invokespecial 242, 3) := by decide +kernel
theorem d_S_unitOf_54 : decode b_S_unitOf 54 = .ok (.athrow, 1) := by decide +kernel
theorem d_S_unitOf_55 : decode b_S_unitOf 55 = .ok (.aload_n 2, 1) := by decide +kernel
theorem d_S_unitOf_56 : decode b_S_unitOf 56 = .ok (.areturn, 1) := by decide +kernel
theorem d_U_isDamaged_0 : decode b_U_isDamaged 0 = .ok (.aload_n 0, 1) := by decide +kernel
theorem d_U_isDamaged_1 : decode b_U_isDamaged 1 = .ok (.getfield 25, 3) := by decide +kernel
theorem d_U_isDamaged_4 : decode b_U_isDamaged 4 = .ok (.ifCond .eq 7, 3) := by decide +kernel
theorem d_U_isDamaged_7 : decode b_U_isDamaged 7 = .ok (.iconst 1, 1) := by decide +kernel
theorem d_U_isDamaged_8 : decode b_U_isDamaged 8 = .ok (.goto 4, 3) := by decide +kernel
theorem d_U_isDamaged_11 : decode b_U_isDamaged 11 = .ok (.iconst 0, 1) := by decide +kernel
theorem d_U_isDamaged_12 : decode b_U_isDamaged 12 = .ok (.ireturn, 1) := by decide +kernel
theorem d_S_unitsInState_0 : decode b_S_unitsInState 0 = .ok (.iconst 0, 1) := by decide +kernel
theorem d_S_unitsInState_1 : decode b_S_unitsInState 1 = .ok (.istore_n 3, 1) := by decide +kernel
theorem d_S_unitsInState_2 : decode b_S_unitsInState 2 = .ok (.iconst 0, 1) := by decide +kernel
theorem d_S_unitsInState_3 : decode b_S_unitsInState 3 = .ok (.istore 4, 2) := by decide +kernel
theorem d_S_unitsInState_5 : decode b_S_unitsInState 5 = .ok (.iload 4, 2) := by decide +kernel
theorem d_S_unitsInState_7 : decode b_S_unitsInState 7 = .ok (.aload_n 0, 1) := by decide +kernel
theorem d_S_unitsInState_8 : decode b_S_unitsInState 8 = .ok (.getfield 98, 3) := by decide +kernel
theorem d_S_unitsInState_11 : decode b_S_unitsInState 11 = .ok (.if_icmp .ge 54, 3) := by decide +kernel
theorem d_S_unitsInState_14 : decode b_S_unitsInState 14 = .ok (.iload 4, 2) := by decide +kernel
theorem d_S_unitsInState_16 : decode b_S_unitsInState 16 = .ok (.aload_n 0, 1) := by decide +kernel
theorem d_S_unitsInState_17 : decode b_S_unitsInState 17 = .ok (.getfield 17, 3) := by decide +kernel
theorem d_S_unitsInState_20 : decode b_S_unitsInState 20 = .ok (.arraylength, 1) := by decide +kernel
theorem d_S_unitsInState_21 : decode b_S_unitsInState 21 = .ok (.if_icmp .ge 44, 3) := by decide +kernel
theorem d_S_unitsInState_24 : decode b_S_unitsInState 24 = .ok (.aload_n 0, 1) := by decide +kernel
theorem d_S_unitsInState_25 : decode b_S_unitsInState 25 = .ok (.getfield 17, 3) := by decide +kernel
theorem d_S_unitsInState_28 : decode b_S_unitsInState 28 = .ok (.iload 4, 2) := by decide +kernel
theorem d_S_unitsInState_30 : decode b_S_unitsInState 30 = .ok (.aaload, 1) := by decide +kernel
theorem d_S_unitsInState_31 : decode b_S_unitsInState 31 = .ok (.astore 5, 2) := by decide +kernel
theorem d_S_unitsInState_33 : decode b_S_unitsInState 33 = .ok (.aload 5, 2) := by decide +kernel
theorem d_S_unitsInState_35 : decode b_S_unitsInState 35 = .ok (.ifnull 24, 3) := by decide +kernel
theorem d_S_unitsInState_38 : decode b_S_unitsInState 38 = .ok (.aload 5, 2) := by decide +kernel
theorem d_S_unitsInState_40 : decode b_S_unitsInState 40 = .ok (.getfield 120, 3) := by decide +kernel
theorem d_S_unitsInState_43 : decode b_S_unitsInState 43 = .ok (.aload_n 1, 1) := by decide +kernel
theorem d_S_unitsInState_44 : decode b_S_unitsInState 44 = .ok (.if_acmp .ne 15, 3) := by decide +kernel
theorem d_S_unitsInState_47 : decode b_S_unitsInState 47 = .ok (.aload 5, 2) := by decide +kernel
theorem d_S_unitsInState_49 : decode b_S_unitsInState 49 = .ok (.invokevirtual 157, 3) := by decide +kernel
theorem d_S_unitsInState_52 : decode b_S_unitsInState 52 = .ok (.iload_n 2, 1) := by decide +kernel
theorem d_S_unitsInState_53 : decode b_S_unitsInState 53 = .ok (.if_icmp .ne 6, 3) := by decide +kernel
theorem d_S_unitsInState_56 : decode b_S_unitsInState 56 = .ok (.iinc 3 1, 3) := by decide +kernel
theorem d_S_unitsInState_59 : decode b_S_unitsInState 59 = .ok (.iinc 4 1, 3) := by decide +kernel
theorem d_S_unitsInState_62 : decode b_S_unitsInState 62 = .ok (.goto (-57), 3) := by decide +kernel
theorem d_S_unitsInState_65 : decode b_S_unitsInState 65 = .ok (.iload_n 3, 1) := by decide +kernel
theorem d_S_unitsInState_66 : decode b_S_unitsInState 66 = .ok (.ireturn, 1) := by decide +kernel
theorem d_U_stateNow_0 : decode b_U_stateNow 0 = .ok (.aload_n 0, 1) := by decide +kernel
theorem d_U_stateNow_1 : decode b_U_stateNow 1 = .ok (.invokevirtual 31, 3) := by decide +kernel
theorem d_U_stateNow_4 : decode b_U_stateNow 4 = .ok (.ifCond .eq 5, 3) := by decide +kernel
theorem d_U_stateNow_7 : decode b_U_stateNow 7 = .ok (.iconst 1, 1) := by decide +kernel
theorem d_U_stateNow_8 : decode b_U_stateNow 8 = .ok (.ireturn, 1) := by decide +kernel
theorem d_U_stateNow_9 : decode b_U_stateNow 9 = .ok (.aload_n 0, 1) := by decide +kernel
theorem d_U_stateNow_10 : decode b_U_stateNow 10 = .ok (.getfield 35, 3) := by decide +kernel
theorem d_U_stateNow_13 : decode b_U_stateNow 13 = .ok (.ifCond .eq 5, 3) := by decide +kernel
theorem d_U_stateNow_16 : decode b_U_stateNow 16 = .ok (.iconst 3, 1) := by decide +kernel
theorem d_U_stateNow_17 : decode b_U_stateNow 17 = .ok (.ireturn, 1) := by decide +kernel
theorem d_U_stateNow_18 : decode b_U_stateNow 18 = .ok (.aload_n 0, 1) := by decide +kernel
theorem d_U_stateNow_19 : decode b_U_stateNow 19 = .ok (.getfield 9, 3) := by decide +kernel
theorem d_U_stateNow_22 : decode b_U_stateNow 22 = .ok (.getfield 39, 3) := by decide +kernel
theorem d_U_stateNow_25 : decode b_U_stateNow 25 = .ok (.ifCond .eq 7, 3) := by decide +kernel
theorem d_U_stateNow_28 : decode b_U_stateNow 28 = .ok (.iconst 2, 1) := by decide +kernel
theorem d_U_stateNow_29 : decode b_U_stateNow 29 = .ok (.goto 4, 3) := by decide +kernel
theorem d_U_stateNow_32 : decode b_U_stateNow 32 = .ok (.iconst 0, 1) := by decide +kernel
theorem d_U_stateNow_33 : decode b_U_stateNow 33 = .ok (.ireturn, 1) := by decide +kernel
theorem d_S_sample_0 : decode b_S_sample 0 = .ok (.aload_n 0, 1) := by decide +kernel
theorem d_S_sample_1 : decode b_S_sample 1 = .ok (.iload_n 1, 1) := by decide +kernel
theorem d_S_sample_2 : decode b_S_sample 2 = .ok (.iload_n 2, 1) := by decide +kernel
theorem d_S_sample_3 : decode b_S_sample 3 = .ok (.invokevirtual 80, 3) := by decide +kernel
theorem d_S_sample_6 : decode b_S_sample 6 = .ok (.astore 4, 2) := by decide +kernel
theorem d_S_sample_8 : decode b_S_sample 8 = .ok (.aload 4, 2) := by decide +kernel
theorem d_S_sample_10 : decode b_S_sample 10 = .ok (.getfield 131, 3) := by decide +kernel
theorem d_S_sample_13 : decode b_S_sample 13 = .ok (.invokevirtual 135, 3) := by decide +kernel
theorem d_S_sample_16 : decode b_S_sample 16 = .ok (.ifCond .eq 23, 3) := by decide +kernel
theorem d_S_sample_19 : decode b_S_sample 19 = .ok (.aload 4, 2) := by decide +kernel
theorem d_S_sample_21 : decode b_S_sample 21 = .ok (.getfield 84, 3) := by decide +kernel
theorem d_S_sample_24 : decode b_S_sample 24 = .ok (.ifCond .ne 15, 3) := by decide +kernel
theorem d_S_sample_27 : decode b_S_sample 27 = .ok (.aload 4, 2) := by decide +kernel
theorem d_S_sample_29 : decode b_S_sample 29 = .ok (.invokevirtual 138, 3) := by decide +kernel
theorem d_S_sample_32 : decode b_S_sample 32 = .ok (.ifCond .le 7, 3) := by decide +kernel
theorem d_S_sample_35 : decode b_S_sample 35 = .ok (.iconst 1, 1) := by decide +kernel
theorem d_S_sample_36 : decode b_S_sample 36 = .ok (.goto 4, 3) := by decide +kernel
theorem d_S_sample_39 : decode b_S_sample 39 = .ok (.iconst 0, 1) := by decide +kernel
theorem d_S_sample_40 : decode b_S_sample 40 = .ok (.invokestatic 55, 3) := by decide +kernel
theorem d_S_sample_43 : decode b_S_sample 43 = .ok (.aload 4, 2) := by decide +kernel
theorem d_S_sample_45 : decode b_S_sample 45 = .ok (.dup, 1) := by decide +kernel
theorem d_S_sample_46 : decode b_S_sample 46 = .ok (.getfield 142, 3) := by decide +kernel
theorem d_S_sample_49 : decode b_S_sample 49 = .ok (.iconst 1, 1) := by decide +kernel
theorem d_S_sample_50 : decode b_S_sample 50 = .ok (.iadd, 1) := by decide +kernel
theorem d_S_sample_51 : decode b_S_sample 51 = .ok (.putfield 142, 3) := by decide +kernel
theorem d_S_sample_54 : decode b_S_sample 54 = .ok (.iload_n 3, 1) := by decide +kernel
theorem d_S_sample_55 : decode b_S_sample 55 = .ok (.ifCond .ne 9, 3) := by decide +kernel
theorem d_S_sample_58 : decode b_S_sample 58 = .ok (.aload 4, 2) := by decide +kernel
theorem d_S_sample_60 : decode b_S_sample 60 = .ok (.iconst 1, 1) := by decide +kernel
theorem d_S_sample_61 : decode b_S_sample 61 = .ok (.putfield 145, 3) := by decide +kernel
theorem d_S_sample_64 : decode b_S_sample 64 = .ok (.aload 4, 2) := by decide +kernel
theorem d_S_sample_66 : decode b_S_sample 66 = .ok (.invokevirtual 138, 3) := by decide +kernel
theorem d_S_sample_69 : decode b_S_sample 69 = .ok (.ireturn, 1) := by decide +kernel
theorem d_N_openSamples_0 : decode b_N_openSamples 0 = .ok (.aload_n 0, 1) := by decide +kernel
theorem d_N_openSamples_1 : decode b_N_openSamples 1 = .ok (.getfield 26, 3) := by decide +kernel
theorem d_N_openSamples_4 : decode b_N_openSamples 4 = .ok (.aload_n 0, 1) := by decide +kernel
theorem d_N_openSamples_5 : decode b_N_openSamples 5 = .ok (.getfield 29, 3) := by decide +kernel
theorem d_N_openSamples_8 : decode b_N_openSamples 8 = .ok (.isub, 1) := by decide +kernel
theorem d_N_openSamples_9 : decode b_N_openSamples 9 = .ok (.iconst 0, 1) := by decide +kernel
theorem d_N_openSamples_10 : decode b_N_openSamples 10 = .ok (.invokestatic 32, 3) := by decide +kernel
theorem d_N_openSamples_13 : decode b_N_openSamples 13 = .ok (.ireturn, 1) := by decide +kernel
theorem d_S_date_0 : decode b_S_date 0 = .ok (.aload_n 0, 1) := by decide +kernel
theorem d_S_date_1 : decode b_S_date 1 = .ok (.iload_n 1, 1) := by decide +kernel
theorem d_S_date_2 : decode b_S_date 2 = .ok (.invokevirtual 113, 3) := by decide +kernel
theorem d_S_date_5 : decode b_S_date 5 = .ok (.astore_n 3, 1) := by decide +kernel
theorem d_S_date_6 : decode b_S_date 6 = .ok (.iload_n 2, 1) := by decide +kernel
theorem d_S_date_7 : decode b_S_date 7 = .ok (.iconst 0, 1) := by decide +kernel
theorem d_S_date_8 : decode b_S_date 8 = .ok (.sipush 10000, 3) := by decide +kernel
theorem d_S_date_11 : decode b_S_date 11 = .ok (.invokestatic 27, 3) := by decide +kernel
theorem d_S_date_14 : decode b_S_date 14 = .ok (.aload_n 3, 1) := by decide +kernel
theorem d_S_date_15 : decode b_S_date 15 = .ok (.invokevirtual 117, 3) := by decide +kernel
theorem d_S_date_18 : decode b_S_date 18 = .ok (.ifCond .ne 17, 3) := by decide +kernel
theorem d_S_date_21 : decode b_S_date 21 = .ok (.aload_n 3, 1) := by decide +kernel
theorem d_S_date_22 : decode b_S_date 22 = .ok (.getfield 120, 3) := by decide +kernel
theorem d_S_date_25 : decode b_S_date 25 = .ok (.getfield 84, 3) := by decide +kernel
theorem d_S_date_28 : decode b_S_date 28 = .ok (.ifCond .ne 7, 3) := by decide +kernel
theorem d_S_date_31 : decode b_S_date 31 = .ok (.iconst 1, 1) := by decide +kernel
theorem d_S_date_32 : decode b_S_date 32 = .ok (.goto 4, 3) := by decide +kernel
theorem d_S_date_35 : decode b_S_date 35 = .ok (.iconst 0, 1) := by decide +kernel
theorem d_S_date_36 : decode b_S_date 36 = .ok (.invokestatic 55, 3) := by decide +kernel
theorem d_S_date_39 : decode b_S_date 39 = .ok (.aload_n 3, 1) := by decide +kernel
theorem d_S_date_40 : decode b_S_date 40 = .ok (.iload_n 2, 1) := by decide +kernel
theorem d_S_date_41 : decode b_S_date 41 = .ok (.putfield 148, 3) := by decide +kernel
theorem d_S_date_44 : decode b_S_date 44 = .ok (.aload_n 3, 1) := by decide +kernel
theorem d_S_date_45 : decode b_S_date 45 = .ok (.iload_n 2, 1) := by decide +kernel
theorem d_S_date_46 : decode b_S_date 46 = .ok (.aload_n 0, 1) := by decide +kernel
theorem d_S_date_47 : decode b_S_date 47 = .ok (.getfield 151, 3) := by decide +kernel
theorem d_S_date_50 : decode b_S_date 50 = .ok (.if_icmp .ge 7, 3) := by decide +kernel
theorem d_S_date_53 : decode b_S_date 53 = .ok (.iconst 1, 1) := by decide +kernel
theorem d_S_date_54 : decode b_S_date 54 = .ok (.goto 4, 3) := by decide +kernel
theorem d_S_date_57 : decode b_S_date 57 = .ok (.iconst 0, 1) := by decide +kernel
theorem d_S_date_58 : decode b_S_date 58 = .ok (.putfield 154, 3) := by decide +kernel
theorem d_S_date_61 : decode b_S_date 61 = .ok (.aload_n 3, 1) := by decide +kernel
theorem d_S_date_62 : decode b_S_date 62 = .ok (.getfield 154, 3) := by decide +kernel
theorem d_S_date_65 : decode b_S_date 65 = .ok (.ifCond .eq 7, 3) := by decide +kernel
theorem d_S_date_68 : decode b_S_date 68 = .ok (.iconst 2, 1) := by decide +kernel
theorem d_S_date_69 : decode b_S_date 69 = .ok (.goto 4, 3) := by decide +kernel
theorem d_S_date_72 : decode b_S_date 72 = .ok (.iconst 1, 1) := by decide +kernel
theorem d_S_date_73 : decode b_S_date 73 = .ok (.ireturn, 1) := by decide +kernel
theorem d_S_take_0 : decode b_S_take 0 = .ok (.aload_n 0, 1) := by decide +kernel
theorem d_S_take_1 : decode b_S_take 1 = .ok (.iload_n 1, 1) := by decide +kernel
theorem d_S_take_2 : decode b_S_take 2 = .ok (.invokevirtual 113, 3) := by decide +kernel
theorem d_S_take_5 : decode b_S_take 5 = .ok (.astore_n 3, 1) := by decide +kernel
theorem d_S_take_6 : decode b_S_take 6 = .ok (.iload_n 2, 1) := by decide +kernel
theorem d_S_take_7 : decode b_S_take 7 = .ok (.iconst 0, 1) := by decide +kernel
theorem d_S_take_8 : decode b_S_take 8 = .ok (.bipush 7, 2) := by decide +kernel
theorem d_S_take_10 : decode b_S_take 10 = .ok (.invokestatic 27, 3) := by decide +kernel
theorem d_S_take_13 : decode b_S_take 13 = .ok (.aload_n 3, 1) := by decide +kernel
theorem d_S_take_14 : decode b_S_take 14 = .ok (.invokevirtual 157, 3) := by decide +kernel
theorem d_S_take_17 : decode b_S_take 17 = .ok (.iconst 3, 1) := by decide +kernel
theorem d_S_take_18 : decode b_S_take 18 = .ok (.if_icmp .ne 15, 3) := by decide +kernel
theorem d_S_take_21 : decode b_S_take 21 = .ok (.aload_n 0, 1) := by decide +kernel
theorem d_S_take_22 : decode b_S_take 22 = .ok (.iload_n 2, 1) := by decide +kernel
theorem d_S_take_23 : decode b_S_take 23 = .ok (.invokevirtual 70, 3) := by decide +kernel
theorem d_S_take_26 : decode b_S_take 26 = .ok (.ifCond .eq 7, 3) := by decide +kernel
theorem d_S_take_29 : decode b_S_take 29 = .ok (.iconst 1, 1) := by decide +kernel
theorem d_S_take_30 : decode b_S_take 30 = .ok (.goto 4, 3) := by decide +kernel
theorem d_S_take_33 : decode b_S_take 33 = .ok (.iconst 0, 1) := by decide +kernel
theorem d_S_take_34 : decode b_S_take 34 = .ok (.invokestatic 55, 3) := by decide +kernel
theorem d_S_take_37 : decode b_S_take 37 = .ok (.aload_n 3, 1) := by decide +kernel
theorem d_S_take_38 : decode b_S_take 38 = .ok (.iconst 0, 1) := by decide +kernel
theorem d_S_take_39 : decode b_S_take 39 = .ok (.putfield 154, 3) := by decide +kernel
theorem d_S_take_42 : decode b_S_take 42 = .ok (.aload_n 3, 1) := by decide +kernel
theorem d_S_take_43 : decode b_S_take 43 = .ok (.invokevirtual 157, 3) := by decide +kernel
theorem d_S_take_46 : decode b_S_take 46 = .ok (.ireturn, 1) := by decide +kernel
theorem d_S_label_0 : decode b_S_label 0 = .ok (.aload_n 0, 1) := by decide +kernel
theorem d_S_label_1 : decode b_S_label 1 = .ok (.iload_n 1, 1) := by decide +kernel
theorem d_S_label_2 : decode b_S_label 2 = .ok (.invokevirtual 113, 3) := by decide +kernel
theorem d_S_label_5 : decode b_S_label 5 = .ok (.astore_n 2, 1) := by decide +kernel
theorem d_S_label_6 : decode b_S_label 6 = .ok (.aload_n 2, 1) := by decide +kernel
theorem d_S_label_7 : decode b_S_label 7 = .ok (.invokevirtual 160, 3) := by decide +kernel
theorem d_S_label_10 : decode b_S_label 10 = .ok (.ifCond .ne 34, 3) := by decide +kernel
theorem d_S_label_13 : decode b_S_label 13 = .ok (.aload_n 0, 1) := by decide +kernel
theorem d_S_label_14 : decode b_S_label 14 = .ok (.dup, 1) := by decide +kernel
theorem d_S_label_15 : decode b_S_label 15 = .ok (.getfield 163, 3) := by decide +kernel
theorem d_S_label_18 : decode b_S_label 18 = .ok (.iconst 1, 1) := by decide +kernel
theorem d_S_label_19 : decode b_S_label 19 = .ok (.iadd, 1) := by decide +kernel
theorem d_S_label_20 : decode b_S_label 20 = .ok (.putfield 163, 3) := by decide +kernel
theorem d_S_label_23 : decode b_S_label 23 = .ok (.aload_n 2, 1) := by decide +kernel
theorem d_S_label_24 : decode b_S_label 24 = .ok (.aload_n 2, 1) := by decide +kernel
theorem d_S_label_25 : decode b_S_label 25 = .ok (.getfield 120, 3) := by decide +kernel
theorem d_S_label_28 : decode b_S_label 28 = .ok (.getfield 131, 3) := by decide +kernel
theorem d_S_label_31 : decode b_S_label 31 = .ok (.getfield 166, 3) := by decide +kernel
theorem d_S_label_34 : decode b_S_label 34 = .ok (.aload_n 0, 1) := by decide +kernel
theorem d_S_label_35 : decode b_S_label 35 = .ok (.getfield 163, 3) := by decide +kernel
theorem d_S_label_38 : decode b_S_label 38 = .ok (.invokestatic 169, 3) := by decide +kernel
theorem d_S_label_41 : decode b_S_label 41 = .ok (.putfield 172, 3) := by decide +kernel
theorem d_S_label_44 : decode b_S_label 44 = .ok (.aload_n 2, 1) := by decide +kernel
theorem d_S_label_45 : decode b_S_label 45 = .ok (.dup, 1) := by decide +kernel
theorem d_S_label_46 : decode b_S_label 46 = .ok (.getfield 175, 3) := by decide +kernel
theorem d_S_label_49 : decode b_S_label 49 = .ok (.iconst 1, 1) := by decide +kernel
theorem d_S_label_50 : decode b_S_label 50 = .ok (.iadd, 1) := by decide +kernel
theorem d_S_label_51 : decode b_S_label 51 = .ok (.putfield 175, 3) := by decide +kernel
theorem d_S_label_54 : decode b_S_label 54 = .ok (.aload_n 2, 1) := by decide +kernel
theorem d_S_label_55 : decode b_S_label 55 = .ok (.getfield 172, 3) := by decide +kernel
theorem d_S_label_58 : decode b_S_label 58 = .ok (.ireturn, 1) := by decide +kernel
theorem d_U_hasLabel_0 : decode b_U_hasLabel 0 = .ok (.aload_n 0, 1) := by decide +kernel
theorem d_U_hasLabel_1 : decode b_U_hasLabel 1 = .ok (.getfield 28, 3) := by decide +kernel
theorem d_U_hasLabel_4 : decode b_U_hasLabel 4 = .ok (.ifCond .eq 7, 3) := by decide +kernel
theorem d_U_hasLabel_7 : decode b_U_hasLabel 7 = .ok (.iconst 1, 1) := by decide +kernel
theorem d_U_hasLabel_8 : decode b_U_hasLabel 8 = .ok (.goto 4, 3) := by decide +kernel
theorem d_U_hasLabel_11 : decode b_U_hasLabel 11 = .ok (.iconst 0, 1) := by decide +kernel
theorem d_U_hasLabel_12 : decode b_U_hasLabel 12 = .ok (.ireturn, 1) := by decide +kernel
theorem d_S_labelFor_0 : decode b_S_labelFor 0 = .ok (.iload_n 0, 1) := by decide +kernel
theorem d_S_labelFor_1 : decode b_S_labelFor 1 = .ok (.ldc_w 265, 3) := by decide +kernel
theorem d_S_labelFor_4 : decode b_S_labelFor 4 = .ok (.imul, 1) := by decide +kernel
theorem d_S_labelFor_5 : decode b_S_labelFor 5 = .ok (.iload_n 1, 1) := by decide +kernel
theorem d_S_labelFor_6 : decode b_S_labelFor 6 = .ok (.iadd, 1) := by decide +kernel
theorem d_S_labelFor_7 : decode b_S_labelFor 7 = .ok (.istore_n 2, 1) := by decide +kernel
theorem d_S_labelFor_8 : decode b_S_labelFor 8 = .ok (.iload_n 2, 1) := by decide +kernel
theorem d_S_labelFor_9 : decode b_S_labelFor 9 = .ok (.bipush 10, 2) := by decide +kernel
theorem d_S_labelFor_11 : decode b_S_labelFor 11 = .ok (.imul, 1) := by decide +kernel
theorem d_S_labelFor_12 : decode b_S_labelFor 12 = .ok (.iload_n 2, 1) := by decide +kernel
theorem d_S_labelFor_13 : decode b_S_labelFor 13 = .ok (.invokestatic 266, 3) := by decide +kernel
theorem d_S_labelFor_16 : decode b_S_labelFor 16 = .ok (.iadd, 1) := by decide +kernel
theorem d_S_labelFor_17 : decode b_S_labelFor 17 = .ok (.ireturn, 1) := by decide +kernel
theorem d_S_checkDigit_0 : decode b_S_checkDigit 0 = .ok (.iconst 0, 1) := by decide +kernel
theorem d_S_checkDigit_1 : decode b_S_checkDigit 1 = .ok (.istore_n 1, 1) := by decide +kernel
theorem d_S_checkDigit_2 : decode b_S_checkDigit 2 = .ok (.iconst 1, 1) := by decide +kernel
theorem d_S_checkDigit_3 : decode b_S_checkDigit 3 = .ok (.istore_n 2, 1) := by decide +kernel
theorem d_S_checkDigit_4 : decode b_S_checkDigit 4 = .ok (.iload_n 0, 1) := by decide +kernel
theorem d_S_checkDigit_5 : decode b_S_checkDigit 5 = .ok (.istore_n 3, 1) := by decide +kernel
theorem d_S_checkDigit_6 : decode b_S_checkDigit 6 = .ok (.iconst 0, 1) := by decide +kernel
theorem d_S_checkDigit_7 : decode b_S_checkDigit 7 = .ok (.istore 4, 2) := by decide +kernel
theorem d_S_checkDigit_9 : decode b_S_checkDigit 9 = .ok (.iload 4, 2) := by decide +kernel
theorem d_S_checkDigit_11 : decode b_S_checkDigit 11 = .ok (.bipush 6, 2) := by decide +kernel
theorem d_S_checkDigit_13 : decode b_S_checkDigit 13 = .ok (.if_icmp .ge 27, 3) := by decide +kernel
theorem d_S_checkDigit_16 : decode b_S_checkDigit 16 = .ok (.iload_n 1, 1) := by decide +kernel
theorem d_S_checkDigit_17 : decode b_S_checkDigit 17 = .ok (.iload_n 2, 1) := by decide +kernel
theorem d_S_checkDigit_18 : decode b_S_checkDigit 18 = .ok (.iload_n 3, 1) := by decide +kernel
theorem d_S_checkDigit_19 : decode b_S_checkDigit 19 = .ok (.bipush 10, 2) := by decide +kernel
theorem d_S_checkDigit_21 : decode b_S_checkDigit 21 = .ok (.irem, 1) := by decide +kernel
theorem d_S_checkDigit_22 : decode b_S_checkDigit 22 = .ok (.imul, 1) := by decide +kernel
theorem d_S_checkDigit_23 : decode b_S_checkDigit 23 = .ok (.iadd, 1) := by decide +kernel
theorem d_S_checkDigit_24 : decode b_S_checkDigit 24 = .ok (.istore_n 1, 1) := by decide +kernel
theorem d_S_checkDigit_25 : decode b_S_checkDigit 25 = .ok (.iload_n 3, 1) := by decide +kernel
theorem d_S_checkDigit_26 : decode b_S_checkDigit 26 = .ok (.bipush 10, 2) := by decide +kernel
theorem d_S_checkDigit_28 : decode b_S_checkDigit 28 = .ok (.idiv, 1) := by decide +kernel
theorem d_S_checkDigit_29 : decode b_S_checkDigit 29 = .ok (.istore_n 3, 1) := by decide +kernel
theorem d_S_checkDigit_30 : decode b_S_checkDigit 30 = .ok (.iconst 4, 1) := by decide +kernel
theorem d_S_checkDigit_31 : decode b_S_checkDigit 31 = .ok (.iload_n 2, 1) := by decide +kernel
theorem d_S_checkDigit_32 : decode b_S_checkDigit 32 = .ok (.isub, 1) := by decide +kernel
theorem d_S_checkDigit_33 : decode b_S_checkDigit 33 = .ok (.istore_n 2, 1) := by decide +kernel
theorem d_S_checkDigit_34 : decode b_S_checkDigit 34 = .ok (.iinc 4 1, 3) := by decide +kernel
theorem d_S_checkDigit_37 : decode b_S_checkDigit 37 = .ok (.goto (-28), 3) := by decide +kernel
theorem d_S_checkDigit_40 : decode b_S_checkDigit 40 = .ok (.bipush 10, 2) := by decide +kernel
theorem d_S_checkDigit_42 : decode b_S_checkDigit 42 = .ok (.iload_n 1, 1) := by decide +kernel
theorem d_S_checkDigit_43 : decode b_S_checkDigit 43 = .ok (.bipush 10, 2) := by decide +kernel
theorem d_S_checkDigit_45 : decode b_S_checkDigit 45 = .ok (.irem, 1) := by decide +kernel
theorem d_S_checkDigit_46 : decode b_S_checkDigit 46 = .ok (.isub, 1) := by decide +kernel
theorem d_S_checkDigit_47 : decode b_S_checkDigit 47 = .ok (.bipush 10, 2) := by decide +kernel
theorem d_S_checkDigit_49 : decode b_S_checkDigit 49 = .ok (.irem, 1) := by decide +kernel
theorem d_S_checkDigit_50 : decode b_S_checkDigit 50 = .ok (.ireturn, 1) := by decide +kernel
theorem d_S_again_0 : decode b_S_again 0 = .ok (.aload_n 0, 1) := by decide +kernel
theorem d_S_again_1 : decode b_S_again 1 = .ok (.iload_n 1, 1) := by decide +kernel
theorem d_S_again_2 : decode b_S_again 2 = .ok (.invokevirtual 113, 3) := by decide +kernel
theorem d_S_again_5 : decode b_S_again 5 = .ok (.astore_n 2, 1) := by decide +kernel
theorem d_S_again_6 : decode b_S_again 6 = .ok (.aload_n 2, 1) := by decide +kernel
theorem d_S_again_7 : decode b_S_again 7 = .ok (.invokevirtual 160, 3) := by decide +kernel
theorem d_S_again_10 : decode b_S_again 10 = .ok (.invokestatic 55, 3) := by decide +kernel
theorem d_S_again_13 : decode b_S_again 13 = .ok (.aload_n 2, 1) := by decide +kernel
theorem d_S_again_14 : decode b_S_again 14 = .ok (.dup, 1) := by decide +kernel
theorem d_S_again_15 : decode b_S_again 15 = .ok (.getfield 175, 3) := by decide +kernel
theorem d_S_again_18 : decode b_S_again 18 = .ok (.iconst 1, 1) := by decide +kernel
theorem d_S_again_19 : decode b_S_again 19 = .ok (.iadd, 1) := by decide +kernel
theorem d_S_again_20 : decode b_S_again 20 = .ok (.putfield 175, 3) := by decide +kernel
theorem d_S_again_23 : decode b_S_again 23 = .ok (.aload_n 2, 1) := by decide +kernel
theorem d_S_again_24 : decode b_S_again 24 = .ok (.getfield 175, 3) := by decide +kernel
theorem d_S_again_27 : decode b_S_again 27 = .ok (.ireturn, 1) := by decide +kernel
theorem d_S_close_0 : decode b_S_close 0 = .ok (.aload_n 0, 1) := by decide +kernel
theorem d_S_close_1 : decode b_S_close 1 = .ok (.iload_n 1, 1) := by decide +kernel
theorem d_S_close_2 : decode b_S_close 2 = .ok (.iload_n 2, 1) := by decide +kernel
theorem d_S_close_3 : decode b_S_close 3 = .ok (.invokevirtual 80, 3) := by decide +kernel
theorem d_S_close_6 : decode b_S_close 6 = .ok (.astore_n 3, 1) := by decide +kernel
theorem d_S_close_7 : decode b_S_close 7 = .ok (.aload_n 3, 1) := by decide +kernel
theorem d_S_close_8 : decode b_S_close 8 = .ok (.getfield 131, 3) := by decide +kernel
theorem d_S_close_11 : decode b_S_close 11 = .ok (.invokevirtual 135, 3) := by decide +kernel
theorem d_S_close_14 : decode b_S_close 14 = .ok (.ifCond .eq 14, 3) := by decide +kernel
theorem d_S_close_17 : decode b_S_close 17 = .ok (.aload_n 3, 1) := by decide +kernel
theorem d_S_close_18 : decode b_S_close 18 = .ok (.getfield 84, 3) := by decide +kernel
theorem d_S_close_21 : decode b_S_close 21 = .ok (.ifCond .ne 7, 3) := by decide +kernel
theorem d_S_close_24 : decode b_S_close 24 = .ok (.iconst 1, 1) := by decide +kernel
theorem d_S_close_25 : decode b_S_close 25 = .ok (.goto 4, 3) := by decide +kernel
theorem d_S_close_28 : decode b_S_close 28 = .ok (.iconst 0, 1) := by decide +kernel
theorem d_S_close_29 : decode b_S_close 29 = .ok (.invokestatic 55, 3) := by decide +kernel
theorem d_S_close_32 : decode b_S_close 32 = .ok (.aload_n 3, 1) := by decide +kernel
theorem d_S_close_33 : decode b_S_close 33 = .ok (.invokevirtual 138, 3) := by decide +kernel
theorem d_S_close_36 : decode b_S_close 36 = .ok (.ifCond .le 5, 3) := by decide +kernel
theorem d_S_close_39 : decode b_S_close 39 = .ok (.iconst 2, 1) := by decide +kernel
theorem d_S_close_40 : decode b_S_close 40 = .ok (.ireturn, 1) := by decide +kernel
theorem d_S_close_41 : decode b_S_close 41 = .ok (.aload_n 0, 1) := by decide +kernel
theorem d_S_close_42 : decode b_S_close 42 = .ok (.aload_n 3, 1) := by decide +kernel
theorem d_S_close_43 : decode b_S_close 43 = .ok (.iconst 3, 1) := by decide +kernel
theorem d_S_close_44 : decode b_S_close 44 = .ok (.invokevirtual 127, 3) := by decide +kernel
theorem d_S_close_47 : decode b_S_close 47 = .ok (.ifCond .le 5, 3) := by decide +kernel
theorem d_S_close_50 : decode b_S_close 50 = .ok (.iconst 3, 1) := by decide +kernel
theorem d_S_close_51 : decode b_S_close 51 = .ok (.ireturn, 1) := by decide +kernel
theorem d_S_close_52 : decode b_S_close 52 = .ok (.aload_n 0, 1) := by decide +kernel
theorem d_S_close_53 : decode b_S_close 53 = .ok (.aload_n 3, 1) := by decide +kernel
theorem d_S_close_54 : decode b_S_close 54 = .ok (.invokevirtual 178, 3) := by decide +kernel
theorem d_S_close_57 : decode b_S_close 57 = .ok (.ifCond .eq 5, 3) := by decide +kernel
theorem d_S_close_60 : decode b_S_close 60 = .ok (.iconst 4, 1) := by decide +kernel
theorem d_S_close_61 : decode b_S_close 61 = .ok (.ireturn, 1) := by decide +kernel
theorem d_S_close_62 : decode b_S_close 62 = .ok (.aload_n 3, 1) := by decide +kernel
theorem d_S_close_63 : decode b_S_close 63 = .ok (.iconst 1, 1) := by decide +kernel
theorem d_S_close_64 : decode b_S_close 64 = .ok (.putfield 84, 3) := by decide +kernel
theorem d_S_close_67 : decode b_S_close 67 = .ok (.aload_n 0, 1) := by decide +kernel
theorem d_S_close_68 : decode b_S_close 68 = .ok (.dup, 1) := by decide +kernel
theorem d_S_close_69 : decode b_S_close 69 = .ok (.getfield 182, 3) := by decide +kernel
theorem d_S_close_72 : decode b_S_close 72 = .ok (.iconst 1, 1) := by decide +kernel
theorem d_S_close_73 : decode b_S_close 73 = .ok (.iadd, 1) := by decide +kernel
theorem d_S_close_74 : decode b_S_close 74 = .ok (.putfield 182, 3) := by decide +kernel
theorem d_S_close_77 : decode b_S_close 77 = .ok (.aload_n 0, 1) := by decide +kernel
theorem d_S_close_78 : decode b_S_close 78 = .ok (.aload_n 3, 1) := by decide +kernel
theorem d_S_close_79 : decode b_S_close 79 = .ok (.invokevirtual 185, 3) := by decide +kernel
theorem d_S_close_82 : decode b_S_close 82 = .ok (.iconst 1, 1) := by decide +kernel
theorem d_S_close_83 : decode b_S_close 83 = .ok (.ireturn, 1) := by decide +kernel
theorem d_S_lacksLabel_0 : decode b_S_lacksLabel 0 = .ok (.iconst 0, 1) := by decide +kernel
theorem d_S_lacksLabel_1 : decode b_S_lacksLabel 1 = .ok (.istore_n 2, 1) := by decide +kernel
theorem d_S_lacksLabel_2 : decode b_S_lacksLabel 2 = .ok (.iload_n 2, 1) := by decide +kernel
theorem d_S_lacksLabel_3 : decode b_S_lacksLabel 3 = .ok (.aload_n 0, 1) := by decide +kernel
theorem d_S_lacksLabel_4 : decode b_S_lacksLabel 4 = .ok (.getfield 98, 3) := by decide +kernel
theorem d_S_lacksLabel_7 : decode b_S_lacksLabel 7 = .ok (.if_icmp .ge 53, 3) := by decide +kernel
theorem d_S_lacksLabel_10 : decode b_S_lacksLabel 10 = .ok (.iload_n 2, 1) := by decide +kernel
theorem d_S_lacksLabel_11 : decode b_S_lacksLabel 11 = .ok (.aload_n 0, 1) := by decide +kernel
theorem d_S_lacksLabel_12 : decode b_S_lacksLabel 12 = .ok (.getfield 17, 3) := by decide +kernel
theorem d_S_lacksLabel_15 : decode b_S_lacksLabel 15 = .ok (.arraylength, 1) := by decide +kernel
theorem d_S_lacksLabel_16 : decode b_S_lacksLabel 16 = .ok (.if_icmp .ge 44, 3) := by decide +kernel
theorem d_S_lacksLabel_19 : decode b_S_lacksLabel 19 = .ok (.aload_n 0, 1) := by decide +kernel
theorem d_S_lacksLabel_20 : decode b_S_lacksLabel 20 = .ok (.getfield 17, 3) := by decide +kernel
theorem d_S_lacksLabel_23 : decode b_S_lacksLabel 23 = .ok (.iload_n 2, 1) := by decide +kernel
theorem d_S_lacksLabel_24 : decode b_S_lacksLabel 24 = .ok (.aaload, 1) := by decide +kernel
theorem d_S_lacksLabel_25 : decode b_S_lacksLabel 25 = .ok (.astore_n 3, 1) := by decide +kernel
theorem d_S_lacksLabel_26 : decode b_S_lacksLabel 26 = .ok (.aload_n 3, 1) := by decide +kernel
theorem d_S_lacksLabel_27 : decode b_S_lacksLabel 27 = .ok (.ifnull 27, 3) := by decide +kernel
theorem d_S_lacksLabel_30 : decode b_S_lacksLabel 30 = .ok (.aload_n 3, 1) := by decide +kernel
theorem d_S_lacksLabel_31 : decode b_S_lacksLabel 31 = .ok (.getfield 120, 3) := by decide +kernel
theorem d_S_lacksLabel_34 : decode b_S_lacksLabel 34 = .ok (.aload_n 1, 1) := by decide +kernel
theorem d_S_lacksLabel_35 : decode b_S_lacksLabel 35 = .ok (.if_acmp .ne 19, 3) := by decide +kernel
theorem d_S_lacksLabel_38 : decode b_S_lacksLabel 38 = .ok (.aload_n 3, 1) := by decide +kernel
theorem d_S_lacksLabel_39 : decode b_S_lacksLabel 39 = .ok (.invokevirtual 160, 3) := by decide +kernel
theorem d_S_lacksLabel_42 : decode b_S_lacksLabel 42 = .ok (.ifCond .ne 12, 3) := by decide +kernel
theorem d_S_lacksLabel_45 : decode b_S_lacksLabel 45 = .ok (.aload_n 3, 1) := by decide +kernel
theorem d_S_lacksLabel_46 : decode b_S_lacksLabel 46 = .ok (.invokevirtual 117, 3) := by decide +kernel
theorem d_S_lacksLabel_49 : decode b_S_lacksLabel 49 = .ok (.ifCond .ne 5, 3) := by decide +kernel
theorem d_S_lacksLabel_52 : decode b_S_lacksLabel 52 = .ok (.iconst 1, 1) := by decide +kernel
theorem d_S_lacksLabel_53 : decode b_S_lacksLabel 53 = .ok (.ireturn, 1) := by decide +kernel
theorem d_S_lacksLabel_54 : decode b_S_lacksLabel 54 = .ok (.iinc 2 1, 3) := by decide +kernel
theorem d_S_lacksLabel_57 : decode b_S_lacksLabel 57 = .ok (.goto (-55), 3) := by decide +kernel
theorem d_S_lacksLabel_60 : decode b_S_lacksLabel 60 = .ok (.iconst 0, 1) := by decide +kernel
theorem d_S_lacksLabel_61 : decode b_S_lacksLabel 61 = .ok (.ireturn, 1) := by decide +kernel
theorem d_S_noteDifference_0 : decode b_S_noteDifference 0 = .ok (.aload_n 1, 1) := by decide +kernel
theorem d_S_noteDifference_1 : decode b_S_noteDifference 1 = .ok (.getfield 107, 3) := by decide +kernel
theorem d_S_noteDifference_4 : decode b_S_noteDifference 4 = .ok (.aload_n 1, 1) := by decide +kernel
theorem d_S_noteDifference_5 : decode b_S_noteDifference 5 = .ok (.getfield 200, 3) := by decide +kernel
theorem d_S_noteDifference_8 : decode b_S_noteDifference 8 = .ok (.if_icmp .eq 35, 3) := by decide +kernel
theorem d_S_noteDifference_11 : decode b_S_noteDifference 11 = .ok (.aload_n 0, 1) := by decide +kernel
theorem d_S_noteDifference_12 : decode b_S_noteDifference 12 = .ok (.getfield 250, 3) := by decide +kernel
theorem d_S_noteDifference_15 : decode b_S_noteDifference 15 = .ok (.aload_n 0, 1) := by decide +kernel
theorem d_S_noteDifference_16 : decode b_S_noteDifference 16 = .ok (.getfield 23, 3) := by decide +kernel
theorem d_S_noteDifference_19 : decode b_S_noteDifference 19 = .ok (.arraylength, 1) := by decide +kernel
theorem d_S_noteDifference_20 : decode b_S_noteDifference 20 = .ok (.if_icmp .ge 23, 3) := by decide +kernel
theorem d_S_noteDifference_23 : decode b_S_noteDifference 23 = .ok (.aload_n 0, 1) := by decide +kernel
theorem d_S_noteDifference_24 : decode b_S_noteDifference 24 = .ok (.getfield 23, 3) := by decide +kernel
theorem d_S_noteDifference_27 : decode b_S_noteDifference 27 = .ok (.aload_n 0, 1) := by decide +kernel
theorem d_S_noteDifference_28 : decode b_S_noteDifference 28 = .ok (.getfield 250, 3) := by decide +kernel
theorem d_S_noteDifference_31 : decode b_S_noteDifference 31 = .ok (.aload_n 1, 1) := by decide +kernel
theorem d_S_noteDifference_32 : decode b_S_noteDifference 32 = .ok (.aastore, 1) := by decide +kernel
theorem d_S_noteDifference_33 : decode b_S_noteDifference 33 = .ok (.aload_n 0, 1) := by decide +kernel
theorem d_S_noteDifference_34 : decode b_S_noteDifference 34 = .ok (.dup, 1) := by decide +kernel
theorem d_S_noteDifference_35 : decode b_S_noteDifference 35 = .ok (.getfield 250, 3) := by decide +kernel
theorem d_S_noteDifference_38 : decode b_S_noteDifference 38 = .ok (.iconst 1, 1) := by decide +kernel
theorem d_S_noteDifference_39 : decode b_S_noteDifference 39 = .ok (.iadd, 1) := by decide +kernel
theorem d_S_noteDifference_40 : decode b_S_noteDifference 40 = .ok (.putfield 250, 3) := by decide +kernel
theorem d_S_noteDifference_43 : decode b_S_noteDifference 43 = .ok (.return_, 1) := by decide +kernel
theorem d_S_closeAll_0 : decode b_S_closeAll 0 = .ok (.aload_n 0, 1) := by decide +kernel
theorem d_S_closeAll_1 : decode b_S_closeAll 1 = .ok (.iload_n 1, 1) := by decide +kernel
theorem d_S_closeAll_2 : decode b_S_closeAll 2 = .ok (.invokevirtual 44, 3) := by decide +kernel
theorem d_S_closeAll_5 : decode b_S_closeAll 5 = .ok (.astore_n 2, 1) := by decide +kernel
theorem d_S_closeAll_6 : decode b_S_closeAll 6 = .ok (.aload_n 2, 1) := by decide +kernel
theorem d_S_closeAll_7 : decode b_S_closeAll 7 = .ok (.invokevirtual 135, 3) := by decide +kernel
theorem d_S_closeAll_10 : decode b_S_closeAll 10 = .ok (.invokestatic 55, 3) := by decide +kernel
theorem d_S_closeAll_13 : decode b_S_closeAll 13 = .ok (.aload_n 2, 1) := by decide +kernel
theorem d_S_closeAll_14 : decode b_S_closeAll 14 = .ok (.invokevirtual 189, 3) := by decide +kernel
theorem d_S_closeAll_17 : decode b_S_closeAll 17 = .ok (.istore_n 3, 1) := by decide +kernel
theorem d_S_closeAll_18 : decode b_S_closeAll 18 = .ok (.iload_n 3, 1) := by decide +kernel
theorem d_S_closeAll_19 : decode b_S_closeAll 19 = .ok (.iconst (-1), 1) := by decide +kernel
theorem d_S_closeAll_20 : decode b_S_closeAll 20 = .ok (.if_icmp .eq 8, 3) := by decide +kernel
theorem d_S_closeAll_23 : decode b_S_closeAll 23 = .ok (.iload_n 3, 1) := by decide +kernel
theorem d_S_closeAll_24 : decode b_S_closeAll 24 = .ok (.ineg, 1) := by decide +kernel
theorem d_S_closeAll_25 : decode b_S_closeAll 25 = .ok (.iconst 1, 1) := by decide +kernel
theorem d_S_closeAll_26 : decode b_S_closeAll 26 = .ok (.isub, 1) := by decide +kernel
theorem d_S_closeAll_27 : decode b_S_closeAll 27 = .ok (.ireturn, 1) := by decide +kernel
theorem d_S_closeAll_28 : decode b_S_closeAll 28 = .ok (.aload_n 2, 1) := by decide +kernel
theorem d_S_closeAll_29 : decode b_S_closeAll 29 = .ok (.iconst 3, 1) := by decide +kernel
theorem d_S_closeAll_30 : decode b_S_closeAll 30 = .ok (.putfield 48, 3) := by decide +kernel
theorem d_S_closeAll_33 : decode b_S_closeAll 33 = .ok (.iconst 1, 1) := by decide +kernel
theorem d_S_closeAll_34 : decode b_S_closeAll 34 = .ok (.ireturn, 1) := by decide +kernel
theorem d_A_firstOpenLine_0 : decode b_A_firstOpenLine 0 = .ok (.iconst 0, 1) := by decide +kernel
theorem d_A_firstOpenLine_1 : decode b_A_firstOpenLine 1 = .ok (.istore_n 1, 1) := by decide +kernel
theorem d_A_firstOpenLine_2 : decode b_A_firstOpenLine 2 = .ok (.iload_n 1, 1) := by decide +kernel
theorem d_A_firstOpenLine_3 : decode b_A_firstOpenLine 3 = .ok (.aload_n 0, 1) := by decide +kernel
theorem d_A_firstOpenLine_4 : decode b_A_firstOpenLine 4 = .ok (.getfield 33, 3) := by decide +kernel
theorem d_A_firstOpenLine_7 : decode b_A_firstOpenLine 7 = .ok (.if_icmp .ge 38, 3) := by decide +kernel
theorem d_A_firstOpenLine_10 : decode b_A_firstOpenLine 10 = .ok (.iload_n 1, 1) := by decide +kernel
theorem d_A_firstOpenLine_11 : decode b_A_firstOpenLine 11 = .ok (.aload_n 0, 1) := by decide +kernel
theorem d_A_firstOpenLine_12 : decode b_A_firstOpenLine 12 = .ok (.getfield 23, 3) := by decide +kernel
theorem d_A_firstOpenLine_15 : decode b_A_firstOpenLine 15 = .ok (.arraylength, 1) := by decide +kernel
theorem d_A_firstOpenLine_16 : decode b_A_firstOpenLine 16 = .ok (.if_icmp .ge 29, 3) := by decide +kernel
theorem d_A_firstOpenLine_19 : decode b_A_firstOpenLine 19 = .ok (.aload_n 0, 1) := by decide +kernel
theorem d_A_firstOpenLine_20 : decode b_A_firstOpenLine 20 = .ok (.getfield 23, 3) := by decide +kernel
theorem d_A_firstOpenLine_23 : decode b_A_firstOpenLine 23 = .ok (.iload_n 1, 1) := by decide +kernel
theorem d_A_firstOpenLine_24 : decode b_A_firstOpenLine 24 = .ok (.aaload, 1) := by decide +kernel
theorem d_A_firstOpenLine_25 : decode b_A_firstOpenLine 25 = .ok (.astore_n 2, 1) := by decide +kernel
theorem d_A_firstOpenLine_26 : decode b_A_firstOpenLine 26 = .ok (.aload_n 2, 1) := by decide +kernel
theorem d_A_firstOpenLine_27 : decode b_A_firstOpenLine 27 = .ok (.ifnull 12, 3) := by decide +kernel
theorem d_A_firstOpenLine_30 : decode b_A_firstOpenLine 30 = .ok (.aload_n 2, 1) := by decide +kernel
theorem d_A_firstOpenLine_31 : decode b_A_firstOpenLine 31 = .ok (.getfield 39, 3) := by decide +kernel
theorem d_A_firstOpenLine_34 : decode b_A_firstOpenLine 34 = .ok (.ifCond .ne 5, 3) := by decide +kernel
theorem d_A_firstOpenLine_37 : decode b_A_firstOpenLine 37 = .ok (.iload_n 1, 1) := by decide +kernel
theorem d_A_firstOpenLine_38 : decode b_A_firstOpenLine 38 = .ok (.ireturn, 1) := by decide +kernel
theorem d_A_firstOpenLine_39 : decode b_A_firstOpenLine 39 = .ok (.iinc 1 1, 3) := by decide +kernel
theorem d_A_firstOpenLine_42 : decode b_A_firstOpenLine 42 = .ok (.goto (-40), 3) := by decide +kernel
theorem d_A_firstOpenLine_45 : decode b_A_firstOpenLine 45 = .ok (.iconst (-1), 1) := by decide +kernel
theorem d_A_firstOpenLine_46 : decode b_A_firstOpenLine 46 = .ok (.ireturn, 1) := by decide +kernel
theorem d_S_day_0 : decode b_S_day 0 = .ok (.iload_n 1, 1) := by decide +kernel
theorem d_S_day_1 : decode b_S_day 1 = .ok (.iconst 0, 1) := by decide +kernel
theorem d_S_day_2 : decode b_S_day 2 = .ok (.sipush 10000, 3) := by decide +kernel
theorem d_S_day_5 : decode b_S_day 5 = .ok (.invokestatic 27, 3) := by decide +kernel
theorem d_S_day_8 : decode b_S_day 8 = .ok (.iload_n 1, 1) := by decide +kernel
theorem d_S_day_9 : decode b_S_day 9 = .ok (.aload_n 0, 1) := by decide +kernel
theorem d_S_day_10 : decode b_S_day 10 = .ok (.getfield 151, 3) := by decide +kernel
theorem d_S_day_13 : decode b_S_day 13 = .ok (.if_icmp .lt 7, 3) := by decide +kernel
theorem d_S_day_16 : decode b_S_day 16 = .ok (.iconst 1, 1) := by decide +kernel
theorem d_S_day_17 : decode b_S_day 17 = .ok (.goto 4, 3) := by decide +kernel
theorem d_S_day_20 : decode b_S_day 20 = .ok (.iconst 0, 1) := by decide +kernel
theorem d_S_day_21 : decode b_S_day 21 = .ok (.invokestatic 55, 3) := by decide +kernel
theorem d_S_day_24 : decode b_S_day 24 = .ok (.aload_n 0, 1) := by decide +kernel
theorem d_S_day_25 : decode b_S_day 25 = .ok (.iload_n 1, 1) := by decide +kernel
theorem d_S_day_26 : decode b_S_day 26 = .ok (.putfield 151, 3) := by decide +kernel
theorem d_S_day_29 : decode b_S_day 29 = .ok (.return_, 1) := by decide +kernel
theorem d_S_differ_0 : decode b_S_differ 0 = .ok (.aload_n 0, 1) := by decide +kernel
theorem d_S_differ_1 : decode b_S_differ 1 = .ok (.iload_n 1, 1) := by decide +kernel
theorem d_S_differ_2 : decode b_S_differ 2 = .ok (.invokevirtual 192, 3) := by decide +kernel
theorem d_S_differ_5 : decode b_S_differ 5 = .ok (.astore_n 3, 1) := by decide +kernel
theorem d_S_differ_6 : decode b_S_differ 6 = .ok (.iload_n 2, 1) := by decide +kernel
theorem d_S_differ_7 : decode b_S_differ 7 = .ok (.tableswitch 48 0 2 #[25, 33, 38], 25) := by decide +kernel
theorem d_S_differ_32 : decode b_S_differ 32 = .ok (.aload_n 3, 1) := by decide +kernel
theorem d_S_differ_33 : decode b_S_differ 33 = .ok (.getfield 131, 3) := by decide +kernel
theorem d_S_differ_36 : decode b_S_differ 36 = .ok (.getfield 196, 3) := by decide +kernel
theorem d_S_differ_39 : decode b_S_differ 39 = .ok (.ireturn, 1) := by decide +kernel
theorem d_S_differ_40 : decode b_S_differ 40 = .ok (.aload_n 3, 1) := by decide +kernel
theorem d_S_differ_41 : decode b_S_differ 41 = .ok (.getfield 199, 3) := by decide +kernel
theorem d_S_differ_44 : decode b_S_differ 44 = .ok (.ireturn, 1) := by decide +kernel
theorem d_S_differ_45 : decode b_S_differ 45 = .ok (.aload_n 3, 1) := by decide +kernel
theorem d_S_differ_46 : decode b_S_differ 46 = .ok (.getfield 107, 3) := by decide +kernel
theorem d_S_differ_49 : decode b_S_differ 49 = .ok (.aload_n 3, 1) := by decide +kernel
theorem d_S_differ_50 : decode b_S_differ 50 = .ok (.getfield 200, 3) := by decide +kernel
theorem d_S_differ_53 : decode b_S_differ 53 = .ok (.isub, 1) := by decide +kernel
theorem d_S_differ_54 : decode b_S_differ 54 = .ok (.ireturn, 1) := by decide +kernel
theorem d_S_differ_55 : decode b_S_differ 55 = .ok (.new 203, 3) := by decide +kernel
theorem d_S_differ_58 : decode b_S_differ 58 = .ok (.dup, 1) := by decide +kernel
theorem d_S_differ_59 : decode b_S_differ 59 = .ok (.ldc 205, 2) := by decide +kernel
theorem d_S_differ_61 : decode b_S_differ 61 = .ok (.invokespecial 207, 3) := by decide +kernel
theorem d_S_differ_64 : decode b_S_differ 64 = .ok (.athrow, 1) := by decide +kernel
theorem d_S_differenceOf_0 : decode b_S_differenceOf 0 = .ok (.iload_n 1, 1) := by decide +kernel
theorem d_S_differenceOf_1 : decode b_S_differenceOf 1 = .ok (.ifCond .lt 20, 3) := by decide +kernel
theorem d_S_differenceOf_4 : decode b_S_differenceOf 4 = .ok (.iload_n 1, 1) := by decide +kernel
theorem d_S_differenceOf_5 : decode b_S_differenceOf 5 = .ok (.aload_n 0, 1) := by decide +kernel
theorem d_S_differenceOf_6 : decode b_S_differenceOf 6 = .ok (.getfield 250, 3) := by decide +kernel
theorem d_S_differenceOf_9 : decode b_S_differenceOf 9 = .ok (.if_icmp .ge 12, 3) := by decide +kernel
theorem d_S_differenceOf_12 : decode b_S_differenceOf 12 = .ok (.iload_n 1, 1) := by decide +kernel
theorem d_S_differenceOf_13 : decode b_S_differenceOf 13 = .ok (.aload_n 0, 1) := by decide +kernel
theorem d_S_differenceOf_14 : decode b_S_differenceOf 14 = .ok (.getfield 23, 3) := by decide +kernel
theorem d_S_differenceOf_17 : decode b_S_differenceOf 17 = .ok (.arraylength, 1) := by decide +kernel
theorem d_S_differenceOf_18 : decode b_S_differenceOf 18 = .ok (.if_icmp .lt 13, 3) := by decide +kernel
theorem d_S_differenceOf_21 : decode b_S_differenceOf 21 = .ok (.new 238, 3) := by decide +kernel
theorem d_S_differenceOf_24 : decode b_S_differenceOf 24 = .ok (.dup, 1) := by decide +kernel
theorem d_S_differenceOf_25 : decode b_S_differenceOf 25 = .ok (.ldc 253, 2) := by decide +kernel
theorem d_S_differenceOf_27 : decode b_S_differenceOf 27 = .ok (.invokespecial 242, 3) := by decide +kernel
theorem d_S_differenceOf_30 : decode b_S_differenceOf 30 = .ok (.athrow, 1) := by decide +kernel
theorem d_S_differenceOf_31 : decode b_S_differenceOf 31 = .ok (.aload_n 0, 1) := by decide +kernel
theorem d_S_differenceOf_32 : decode b_S_differenceOf 32 = .ok (.getfield 23, 3) := by decide +kernel
theorem d_S_differenceOf_35 : decode b_S_differenceOf 35 = .ok (.iload_n 1, 1) := by decide +kernel
theorem d_S_differenceOf_36 : decode b_S_differenceOf 36 = .ok (.aaload, 1) := by decide +kernel
theorem d_S_differenceOf_37 : decode b_S_differenceOf 37 = .ok (.astore_n 2, 1) := by decide +kernel
theorem d_S_differenceOf_38 : decode b_S_differenceOf 38 = .ok (.aload_n 2, 1) := by decide +kernel
theorem d_S_differenceOf_39 : decode b_S_differenceOf 39 = .ok (.ifnonnull 13, 3) := by decide +kernel
theorem d_S_differenceOf_42 : decode b_S_differenceOf 42 = .ok (.new 238, 3) := by decide +kernel
theorem d_S_differenceOf_45 : decode b_S_differenceOf 45 = .ok (.dup, 1) := by decide +kernel
theorem d_S_differenceOf_46 : decode b_S_differenceOf 46 = .ok (.ldc 253, 2) := by decide +kernel
theorem d_S_differenceOf_48 : decode b_S_differenceOf 48 = .ok (.invokespecial 242, 3) := by decide +kernel
theorem d_S_differenceOf_51 : decode b_S_differenceOf 51 = .ok (.athrow, 1) := by decide +kernel
theorem d_S_differenceOf_52 : decode b_S_differenceOf 52 = .ok (.aload_n 2, 1) := by decide +kernel
theorem d_S_differenceOf_53 : decode b_S_differenceOf 53 = .ok (.areturn, 1) := by decide +kernel
theorem d_S_claim_0 : decode b_S_claim 0 = .ok (.aload_n 0, 1) := by decide +kernel
theorem d_S_claim_1 : decode b_S_claim 1 = .ok (.iload_n 1, 1) := by decide +kernel
theorem d_S_claim_2 : decode b_S_claim 2 = .ok (.invokevirtual 44, 3) := by decide +kernel
theorem d_S_claim_5 : decode b_S_claim 5 = .ok (.astore_n 3, 1) := by decide +kernel
theorem d_S_claim_6 : decode b_S_claim 6 = .ok (.iload_n 2, 1) := by decide +kernel
theorem d_S_claim_7 : decode b_S_claim 7 = .ok (.ifCond .ge 13, 3) := by decide +kernel
theorem d_S_claim_10 : decode b_S_claim 10 = .ok (.new 203, 3) := by decide +kernel
theorem d_S_claim_13 : decode b_S_claim 13 = .ok (.dup, 1) := by decide +kernel
theorem d_S_claim_14 : decode b_S_claim 14 = .ok (.ldc 208, 2) := by decide +kernel
theorem d_S_claim_16 : decode b_S_claim 16 = .ok (.invokespecial 207, 3) := by decide +kernel
theorem d_S_claim_19 : decode b_S_claim 19 = .ok (.athrow, 1) := by decide +kernel
theorem d_S_claim_20 : decode b_S_claim 20 = .ok (.iconst 0, 1) := by decide +kernel
theorem d_S_claim_21 : decode b_S_claim 21 = .ok (.istore 4, 2) := by decide +kernel
theorem d_S_claim_23 : decode b_S_claim 23 = .ok (.iconst 0, 1) := by decide +kernel
theorem d_S_claim_24 : decode b_S_claim 24 = .ok (.istore 5, 2) := by decide +kernel
theorem d_S_claim_26 : decode b_S_claim 26 = .ok (.iload 5, 2) := by decide +kernel
theorem d_S_claim_28 : decode b_S_claim 28 = .ok (.aload_n 0, 1) := by decide +kernel
theorem d_S_claim_29 : decode b_S_claim 29 = .ok (.getfield 98, 3) := by decide +kernel
theorem d_S_claim_32 : decode b_S_claim 32 = .ok (.if_icmp .ge 67, 3) := by decide +kernel
theorem d_S_claim_35 : decode b_S_claim 35 = .ok (.iload 5, 2) := by decide +kernel
theorem d_S_claim_37 : decode b_S_claim 37 = .ok (.aload_n 0, 1) := by decide +kernel
theorem d_S_claim_38 : decode b_S_claim 38 = .ok (.getfield 17, 3) := by decide +kernel
theorem d_S_claim_41 : decode b_S_claim 41 = .ok (.arraylength, 1) := by decide +kernel
theorem d_S_claim_42 : decode b_S_claim 42 = .ok (.if_icmp .ge 57, 3) := by decide +kernel
theorem d_S_claim_45 : decode b_S_claim 45 = .ok (.aload_n 0, 1) := by decide +kernel
theorem d_S_claim_46 : decode b_S_claim 46 = .ok (.getfield 17, 3) := by decide +kernel
theorem d_S_claim_49 : decode b_S_claim 49 = .ok (.iload 5, 2) := by decide +kernel
theorem d_S_claim_51 : decode b_S_claim 51 = .ok (.aaload, 1) := by decide +kernel
theorem d_S_claim_52 : decode b_S_claim 52 = .ok (.astore 6, 2) := by decide +kernel
theorem d_S_claim_54 : decode b_S_claim 54 = .ok (.aload 6, 2) := by decide +kernel
theorem d_S_claim_56 : decode b_S_claim 56 = .ok (.ifnull 37, 3) := by decide +kernel
theorem d_S_claim_59 : decode b_S_claim 59 = .ok (.aload 6, 2) := by decide +kernel
theorem d_S_claim_61 : decode b_S_claim 61 = .ok (.getfield 120, 3) := by decide +kernel
theorem d_S_claim_64 : decode b_S_claim 64 = .ok (.getfield 131, 3) := by decide +kernel
theorem d_S_claim_67 : decode b_S_claim 67 = .ok (.aload_n 3, 1) := by decide +kernel
theorem d_S_claim_68 : decode b_S_claim 68 = .ok (.if_acmp .ne 25, 3) := by decide +kernel
theorem d_S_claim_71 : decode b_S_claim 71 = .ok (.aload 6, 2) := by decide +kernel
theorem d_S_claim_73 : decode b_S_claim 73 = .ok (.invokevirtual 117, 3) := by decide +kernel
theorem d_S_claim_76 : decode b_S_claim 76 = .ok (.ifCond .eq 17, 3) := by decide +kernel
theorem d_S_claim_79 : decode b_S_claim 79 = .ok (.iload 4, 2) := by decide +kernel
theorem d_S_claim_81 : decode b_S_claim 81 = .ok (.iload_n 2, 1) := by decide +kernel
theorem d_S_claim_82 : decode b_S_claim 82 = .ok (.if_icmp .ne 8, 3) := by decide +kernel
theorem d_S_claim_85 : decode b_S_claim 85 = .ok (.iload 5, 2) := by decide +kernel
theorem d_S_claim_87 : decode b_S_claim 87 = .ok (.iconst 1, 1) := by decide +kernel
theorem d_S_claim_88 : decode b_S_claim 88 = .ok (.iadd, 1) := by decide +kernel
theorem d_S_claim_89 : decode b_S_claim 89 = .ok (.ireturn, 1) := by decide +kernel
theorem d_S_claim_90 : decode b_S_claim 90 = .ok (.iinc 4 1, 3) := by decide +kernel
theorem d_S_claim_93 : decode b_S_claim 93 = .ok (.iinc 5 1, 3) := by decide +kernel
theorem d_S_claim_96 : decode b_S_claim 96 = .ok (.goto (-70), 3) := by decide +kernel
theorem d_S_claim_99 : decode b_S_claim 99 = .ok (.iconst (-1), 1) := by decide +kernel
theorem d_S_claim_100 : decode b_S_claim 100 = .ok (.ireturn, 1) := by decide +kernel
theorem d_S_unit_0 : decode b_S_unit 0 = .ok (.aload_n 0, 1) := by decide +kernel
theorem d_S_unit_1 : decode b_S_unit 1 = .ok (.iload_n 1, 1) := by decide +kernel
theorem d_S_unit_2 : decode b_S_unit 2 = .ok (.invokevirtual 113, 3) := by decide +kernel
theorem d_S_unit_5 : decode b_S_unit 5 = .ok (.astore_n 3, 1) := by decide +kernel
theorem d_S_unit_6 : decode b_S_unit 6 = .ok (.iload_n 2, 1) := by decide +kernel
theorem d_S_unit_7 : decode b_S_unit 7 = .ok (.tableswitch 94 0 7 #[45, 50, 61, 69, 74, 79, 84, 89], 45) := by decide +kernel
theorem d_S_unit_52 : decode b_S_unit 52 = .ok (.aload_n 3, 1) := by decide +kernel
theorem d_S_unit_53 : decode b_S_unit 53 = .ok (.invokevirtual 157, 3) := by decide +kernel
theorem d_S_unit_56 : decode b_S_unit 56 = .ok (.ireturn, 1) := by decide +kernel
theorem d_S_unit_57 : decode b_S_unit 57 = .ok (.aload_n 3, 1) := by decide +kernel
theorem d_S_unit_58 : decode b_S_unit 58 = .ok (.getfield 120, 3) := by decide +kernel
theorem d_S_unit_61 : decode b_S_unit 61 = .ok (.getfield 131, 3) := by decide +kernel
theorem d_S_unit_64 : decode b_S_unit 64 = .ok (.getfield 196, 3) := by decide +kernel
theorem d_S_unit_67 : decode b_S_unit 67 = .ok (.ireturn, 1) := by decide +kernel
theorem d_S_unit_68 : decode b_S_unit 68 = .ok (.aload_n 3, 1) := by decide +kernel
theorem d_S_unit_69 : decode b_S_unit 69 = .ok (.getfield 120, 3) := by decide +kernel
theorem d_S_unit_72 : decode b_S_unit 72 = .ok (.getfield 199, 3) := by decide +kernel
theorem d_S_unit_75 : decode b_S_unit 75 = .ok (.ireturn, 1) := by decide +kernel
theorem d_S_unit_76 : decode b_S_unit 76 = .ok (.aload_n 3, 1) := by decide +kernel
theorem d_S_unit_77 : decode b_S_unit 77 = .ok (.getfield 210, 3) := by decide +kernel
theorem d_S_unit_80 : decode b_S_unit 80 = .ok (.ireturn, 1) := by decide +kernel
theorem d_S_unit_81 : decode b_S_unit 81 = .ok (.aload_n 3, 1) := by decide +kernel
theorem d_S_unit_82 : decode b_S_unit 82 = .ok (.getfield 213, 3) := by decide +kernel
theorem d_S_unit_85 : decode b_S_unit 85 = .ok (.ireturn, 1) := by decide +kernel
theorem d_S_unit_86 : decode b_S_unit 86 = .ok (.aload_n 3, 1) := by decide +kernel
theorem d_S_unit_87 : decode b_S_unit 87 = .ok (.getfield 148, 3) := by decide +kernel
theorem d_S_unit_90 : decode b_S_unit 90 = .ok (.ireturn, 1) := by decide +kernel
theorem d_S_unit_91 : decode b_S_unit 91 = .ok (.aload_n 3, 1) := by decide +kernel
theorem d_S_unit_92 : decode b_S_unit 92 = .ok (.getfield 124, 3) := by decide +kernel
theorem d_S_unit_95 : decode b_S_unit 95 = .ok (.ireturn, 1) := by decide +kernel
theorem d_S_unit_96 : decode b_S_unit 96 = .ok (.aload_n 3, 1) := by decide +kernel
theorem d_S_unit_97 : decode b_S_unit 97 = .ok (.getfield 172, 3) := by decide +kernel
theorem d_S_unit_100 : decode b_S_unit 100 = .ok (.ireturn, 1) := by decide +kernel
theorem d_S_unit_101 : decode b_S_unit 101 = .ok (.new 203, 3) := by decide +kernel
theorem d_S_unit_104 : decode b_S_unit 104 = .ok (.dup, 1) := by decide +kernel
theorem d_S_unit_105 : decode b_S_unit 105 = .ok (.ldc 216, 2) := by decide +kernel
theorem d_S_unit_107 : decode b_S_unit 107 = .ok (.invokespecial 207, 3) := by decide +kernel
theorem d_S_unit_110 : decode b_S_unit 110 = .ok (.athrow, 1) := by decide +kernel
theorem d_S_told_0 : decode b_S_told 0 = .ok (.aload_n 0, 1) := by decide +kernel
theorem d_S_told_1 : decode b_S_told 1 = .ok (.iload_n 1, 1) := by decide +kernel
theorem d_S_told_2 : decode b_S_told 2 = .ok (.iload_n 2, 1) := by decide +kernel
theorem d_S_told_3 : decode b_S_told 3 = .ok (.invokevirtual 80, 3) := by decide +kernel
theorem d_S_told_6 : decode b_S_told 6 = .ok (.astore 4, 2) := by decide +kernel
theorem d_S_told_8 : decode b_S_told 8 = .ok (.iload_n 3, 1) := by decide +kernel
theorem d_S_told_9 : decode b_S_told 9 = .ok (.tableswitch 101 0 6 #[43, 49, 55, 61, 75, 81, 95], 43) := by decide +kernel
theorem d_S_told_52 : decode b_S_told 52 = .ok (.aload 4, 2) := by decide +kernel
theorem d_S_told_54 : decode b_S_told 54 = .ok (.getfield 218, 3) := by decide +kernel
theorem d_S_told_57 : decode b_S_told 57 = .ok (.ireturn, 1) := by decide +kernel
theorem d_S_told_58 : decode b_S_told 58 = .ok (.aload 4, 2) := by decide +kernel
theorem d_S_told_60 : decode b_S_told 60 = .ok (.getfield 200, 3) := by decide +kernel
theorem d_S_told_63 : decode b_S_told 63 = .ok (.ireturn, 1) := by decide +kernel
theorem d_S_told_64 : decode b_S_told 64 = .ok (.aload 4, 2) := by decide +kernel
theorem d_S_told_66 : decode b_S_told 66 = .ok (.getfield 107, 3) := by decide +kernel
theorem d_S_told_69 : decode b_S_told 69 = .ok (.ireturn, 1) := by decide +kernel
theorem d_S_told_70 : decode b_S_told 70 = .ok (.aload 4, 2) := by decide +kernel
theorem d_S_told_72 : decode b_S_told 72 = .ok (.getfield 84, 3) := by decide +kernel
theorem d_S_told_75 : decode b_S_told 75 = .ok (.ifCond .eq 7, 3) := by decide +kernel
theorem d_S_told_78 : decode b_S_told 78 = .ok (.iconst 1, 1) := by decide +kernel
theorem d_S_told_79 : decode b_S_told 79 = .ok (.goto 4, 3) := by decide +kernel
theorem d_S_told_82 : decode b_S_told 82 = .ok (.iconst 0, 1) := by decide +kernel
theorem d_S_told_83 : decode b_S_told 83 = .ok (.ireturn, 1) := by decide +kernel
theorem d_S_told_84 : decode b_S_told 84 = .ok (.aload 4, 2) := by decide +kernel
theorem d_S_told_86 : decode b_S_told 86 = .ok (.invokevirtual 138, 3) := by decide +kernel
theorem d_S_told_89 : decode b_S_told 89 = .ok (.ireturn, 1) := by decide +kernel
theorem d_S_told_90 : decode b_S_told 90 = .ok (.aload 4, 2) := by decide +kernel
theorem d_S_told_92 : decode b_S_told 92 = .ok (.getfield 145, 3) := by decide +kernel
theorem d_S_told_95 : decode b_S_told 95 = .ok (.ifCond .eq 7, 3) := by decide +kernel
theorem d_S_told_98 : decode b_S_told 98 = .ok (.iconst 1, 1) := by decide +kernel
theorem d_S_told_99 : decode b_S_told 99 = .ok (.goto 4, 3) := by decide +kernel
theorem d_S_told_102 : decode b_S_told 102 = .ok (.iconst 0, 1) := by decide +kernel
theorem d_S_told_103 : decode b_S_told 103 = .ok (.ireturn, 1) := by decide +kernel
theorem d_S_told_104 : decode b_S_told 104 = .ok (.aload 4, 2) := by decide +kernel
theorem d_S_told_106 : decode b_S_told 106 = .ok (.invokevirtual 221, 3) := by decide +kernel
theorem d_S_told_109 : decode b_S_told 109 = .ok (.ireturn, 1) := by decide +kernel
theorem d_S_told_110 : decode b_S_told 110 = .ok (.new 203, 3) := by decide +kernel
theorem d_S_told_113 : decode b_S_told 113 = .ok (.dup, 1) := by decide +kernel
theorem d_S_told_114 : decode b_S_told 114 = .ok (.ldc 224, 2) := by decide +kernel
theorem d_S_told_116 : decode b_S_told 116 = .ok (.invokespecial 207, 3) := by decide +kernel
theorem d_S_told_119 : decode b_S_told 119 = .ok (.athrow, 1) := by decide +kernel
theorem d_S_state_0 : decode b_S_state 0 = .ok (.aload_n 0, 1) := by decide +kernel
theorem d_S_state_1 : decode b_S_state 1 = .ok (.iload_n 1, 1) := by decide +kernel
theorem d_S_state_2 : decode b_S_state 2 = .ok (.invokevirtual 44, 3) := by decide +kernel
theorem d_S_state_5 : decode b_S_state 5 = .ok (.astore_n 3, 1) := by decide +kernel
theorem d_S_state_6 : decode b_S_state 6 = .ok (.iload_n 2, 1) := by decide +kernel
theorem d_S_state_7 : decode b_S_state 7 = .ok (.tableswitch 49 0 3 #[29, 34, 39, 44], 29) := by decide +kernel
theorem d_S_state_36 : decode b_S_state 36 = .ok (.aload_n 3, 1) := by decide +kernel
theorem d_S_state_37 : decode b_S_state 37 = .ok (.getfield 48, 3) := by decide +kernel
theorem d_S_state_40 : decode b_S_state 40 = .ok (.ireturn, 1) := by decide +kernel
theorem d_S_state_41 : decode b_S_state 41 = .ok (.aload_n 3, 1) := by decide +kernel
theorem d_S_state_42 : decode b_S_state 42 = .ok (.getfield 166, 3) := by decide +kernel
theorem d_S_state_45 : decode b_S_state 45 = .ok (.ireturn, 1) := by decide +kernel
theorem d_S_state_46 : decode b_S_state 46 = .ok (.aload_n 3, 1) := by decide +kernel
theorem d_S_state_47 : decode b_S_state 47 = .ok (.getfield 226, 3) := by decide +kernel
theorem d_S_state_50 : decode b_S_state 50 = .ok (.ireturn, 1) := by decide +kernel
theorem d_S_state_51 : decode b_S_state 51 = .ok (.aload_n 3, 1) := by decide +kernel
theorem d_S_state_52 : decode b_S_state 52 = .ok (.getfield 67, 3) := by decide +kernel
theorem d_S_state_55 : decode b_S_state 55 = .ok (.ireturn, 1) := by decide +kernel
theorem d_S_state_56 : decode b_S_state 56 = .ok (.new 203, 3) := by decide +kernel
theorem d_S_state_59 : decode b_S_state 59 = .ok (.dup, 1) := by decide +kernel
theorem d_S_state_60 : decode b_S_state 60 = .ok (.ldc 229, 2) := by decide +kernel
theorem d_S_state_62 : decode b_S_state 62 = .ok (.invokespecial 207, 3) := by decide +kernel
theorem d_S_state_65 : decode b_S_state 65 = .ok (.athrow, 1) := by decide +kernel
