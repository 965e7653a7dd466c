theorem d_M_init_0 : decode b_M_init 0 = .ok (.aload_n 0, 1) := by decide +kernel
theorem d_M_init_1 : decode b_M_init 1 = .ok (.invokespecial 1, 3) := by decide +kernel
theorem d_M_init_4 : decode b_M_init 4 = .ok (.aload_n 0, 1) := by decide +kernel
theorem d_M_init_5 : decode b_M_init 5 = .ok (.bipush 8, 2) := by decide +kernel
theorem d_M_init_7 : decode b_M_init 7 = .ok (.newarray .boolean, 2) := by decide +kernel
theorem d_M_init_9 : decode b_M_init 9 = .ok (.putfield 7, 3) := by decide +kernel
theorem d_M_init_12 : decode b_M_init 12 = .ok (.aload_n 0, 1) := by decide +kernel
theorem d_M_init_13 : decode b_M_init 13 = .ok (.bipush 17, 2) := by decide +kernel
theorem d_M_init_15 : decode b_M_init 15 = .ok (.newarray .int, 2) := by decide +kernel
theorem d_M_init_17 : decode b_M_init 17 = .ok (.putfield 13, 3) := by decide +kernel
theorem d_M_init_20 : decode b_M_init 20 = .ok (.aload_n 0, 1) := by decide +kernel
theorem d_M_init_21 : decode b_M_init 21 = .ok (.bipush 17, 2) := by decide +kernel
theorem d_M_init_23 : decode b_M_init 23 = .ok (.newarray .int, 2) := by decide +kernel
theorem d_M_init_25 : decode b_M_init 25 = .ok (.putfield 17, 3) := by decide +kernel
theorem d_M_init_28 : decode b_M_init 28 = .ok (.aload_n 0, 1) := by decide +kernel
theorem d_M_init_29 : decode b_M_init 29 = .ok (.bipush 17, 2) := by decide +kernel
theorem d_M_init_31 : decode b_M_init 31 = .ok (.newarray .int, 2) := by decide +kernel
theorem d_M_init_33 : decode b_M_init 33 = .ok (.putfield 20, 3) := by decide +kernel
theorem d_M_init_36 : decode b_M_init 36 = .ok (.aload_n 0, 1) := by decide +kernel
theorem d_M_init_37 : decode b_M_init 37 = .ok (.bipush 17, 2) := by decide +kernel
theorem d_M_init_39 : decode b_M_init 39 = .ok (.newarray .int, 2) := by decide +kernel
theorem d_M_init_41 : decode b_M_init 41 = .ok (.putfield 23, 3) := by decide +kernel
theorem d_M_init_44 : decode b_M_init 44 = .ok (.aload_n 0, 1) := by decide +kernel
theorem d_M_init_45 : decode b_M_init 45 = .ok (.bipush 17, 2) := by decide +kernel
theorem d_M_init_47 : decode b_M_init 47 = .ok (.newarray .int, 2) := by decide +kernel
theorem d_M_init_49 : decode b_M_init 49 = .ok (.putfield 26, 3) := by decide +kernel
theorem d_M_init_52 : decode b_M_init 52 = .ok (.aload_n 0, 1) := by decide +kernel
theorem d_M_init_53 : decode b_M_init 53 = .ok (.bipush 68, 2) := by decide +kernel
theorem d_M_init_55 : decode b_M_init 55 = .ok (.newarray .int, 2) := by decide +kernel
theorem d_M_init_57 : decode b_M_init 57 = .ok (.putfield 29, 3) := by decide +kernel
theorem d_M_init_60 : decode b_M_init 60 = .ok (.aload_n 0, 1) := by decide +kernel
theorem d_M_init_61 : decode b_M_init 61 = .ok (.bipush 68, 2) := by decide +kernel
theorem d_M_init_63 : decode b_M_init 63 = .ok (.newarray .int, 2) := by decide +kernel
theorem d_M_init_65 : decode b_M_init 65 = .ok (.putfield 32, 3) := by decide +kernel
theorem d_M_init_68 : decode b_M_init 68 = .ok (.aload_n 0, 1) := by decide +kernel
theorem d_M_init_69 : decode b_M_init 69 = .ok (.bipush 68, 2) := by decide +kernel
theorem d_M_init_71 : decode b_M_init 71 = .ok (.newarray .int, 2) := by decide +kernel
theorem d_M_init_73 : decode b_M_init 73 = .ok (.putfield 35, 3) := by decide +kernel
theorem d_M_init_76 : decode b_M_init 76 = .ok (.aload_n 0, 1) := by decide +kernel
theorem d_M_init_77 : decode b_M_init 77 = .ok (.bipush 68, 2) := by decide +kernel
theorem d_M_init_79 : decode b_M_init 79 = .ok (.newarray .int, 2) := by decide +kernel
theorem d_M_init_81 : decode b_M_init 81 = .ok (.putfield 38, 3) := by decide +kernel
theorem d_M_init_84 : decode b_M_init 84 = .ok (.aload_n 0, 1) := by decide +kernel
theorem d_M_init_85 : decode b_M_init 85 = .ok (.bipush 68, 2) := by decide +kernel
theorem d_M_init_87 : decode b_M_init 87 = .ok (.newarray .int, 2) := by decide +kernel
theorem d_M_init_89 : decode b_M_init 89 = .ok (.putfield 41, 3) := by decide +kernel
theorem d_M_init_92 : decode b_M_init 92 = .ok (.aload_n 0, 1) := by decide +kernel
theorem d_M_init_93 : decode b_M_init 93 = .ok (.bipush 68, 2) := by decide +kernel
theorem d_M_init_95 : decode b_M_init 95 = .ok (.newarray .int, 2) := by decide +kernel
theorem d_M_init_97 : decode b_M_init 97 = .ok (.putfield 44, 3) := by decide +kernel
theorem d_M_init_100 : decode b_M_init 100 = .ok (.aload_n 0, 1) := by decide +kernel
theorem d_M_init_101 : decode b_M_init 101 = .ok (.bipush 68, 2) := by decide +kernel
theorem d_M_init_103 : decode b_M_init 103 = .ok (.newarray .boolean, 2) := by decide +kernel
theorem d_M_init_105 : decode b_M_init 105 = .ok (.putfield 47, 3) := by decide +kernel
theorem d_M_init_108 : decode b_M_init 108 = .ok (.aload_n 0, 1) := by decide +kernel
theorem d_M_init_109 : decode b_M_init 109 = .ok (.bipush 68, 2) := by decide +kernel
theorem d_M_init_111 : decode b_M_init 111 = .ok (.newarray .boolean, 2) := by decide +kernel
theorem d_M_init_113 : decode b_M_init 113 = .ok (.putfield 50, 3) := by decide +kernel
theorem d_M_init_116 : decode b_M_init 116 = .ok (.aload_n 0, 1) := by decide +kernel
theorem d_M_init_117 : decode b_M_init 117 = .ok (.sipush 544, 3) := by decide +kernel
theorem d_M_init_120 : decode b_M_init 120 = .ok (.newarray .boolean, 2) := by decide +kernel
theorem d_M_init_122 : decode b_M_init 122 = .ok (.putfield 53, 3) := by decide +kernel
theorem d_M_init_125 : decode b_M_init 125 = .ok (.aload_n 0, 1) := by decide +kernel
theorem d_M_init_126 : decode b_M_init 126 = .ok (.bipush 121, 2) := by decide +kernel
theorem d_M_init_128 : decode b_M_init 128 = .ok (.newarray .int, 2) := by decide +kernel
theorem d_M_init_130 : decode b_M_init 130 = .ok (.putfield 56, 3) := by decide +kernel
theorem d_M_init_133 : decode b_M_init 133 = .ok (.aload_n 0, 1) := by decide +kernel
theorem d_M_init_134 : decode b_M_init 134 = .ok (.bipush 121, 2) := by decide +kernel
theorem d_M_init_136 : decode b_M_init 136 = .ok (.newarray .int, 2) := by decide +kernel
theorem d_M_init_138 : decode b_M_init 138 = .ok (.putfield 59, 3) := by decide +kernel
theorem d_M_init_141 : decode b_M_init 141 = .ok (.aload_n 0, 1) := by decide +kernel
theorem d_M_init_142 : decode b_M_init 142 = .ok (.bipush 121, 2) := by decide +kernel
theorem d_M_init_144 : decode b_M_init 144 = .ok (.newarray .int, 2) := by decide +kernel
theorem d_M_init_146 : decode b_M_init 146 = .ok (.putfield 62, 3) := by decide +kernel
theorem d_M_init_149 : decode b_M_init 149 = .ok (.aload_n 0, 1) := by decide +kernel
theorem d_M_init_150 : decode b_M_init 150 = .ok (.bipush 121, 2) := by decide +kernel
theorem d_M_init_152 : decode b_M_init 152 = .ok (.newarray .int, 2) := by decide +kernel
theorem d_M_init_154 : decode b_M_init 154 = .ok (.putfield 65, 3) := by decide +kernel
theorem d_M_init_157 : decode b_M_init 157 = .ok (.aload_n 0, 1) := by decide +kernel
theorem d_M_init_158 : decode b_M_init 158 = .ok (.bipush 121, 2) := by decide +kernel
theorem d_M_init_160 : decode b_M_init 160 = .ok (.newarray .int, 2) := by decide +kernel
theorem d_M_init_162 : decode b_M_init 162 = .ok (.putfield 68, 3) := by decide +kernel
theorem d_M_init_165 : decode b_M_init 165 = .ok (.aload_n 0, 1) := by decide +kernel
theorem d_M_init_166 : decode b_M_init 166 = .ok (.bipush 121, 2) := by decide +kernel
theorem d_M_init_168 : decode b_M_init 168 = .ok (.newarray .int, 2) := by decide +kernel
theorem d_M_init_170 : decode b_M_init 170 = .ok (.putfield 71, 3) := by decide +kernel
theorem d_M_init_173 : decode b_M_init 173 = .ok (.aload_n 0, 1) := by decide +kernel
theorem d_M_init_174 : decode b_M_init 174 = .ok (.bipush 121, 2) := by decide +kernel
theorem d_M_init_176 : decode b_M_init 176 = .ok (.newarray .int, 2) := by decide +kernel
theorem d_M_init_178 : decode b_M_init 178 = .ok (.putfield 74, 3) := by decide +kernel
theorem d_M_init_181 : decode b_M_init 181 = .ok (.aload_n 0, 1) := by decide +kernel
theorem d_M_init_182 : decode b_M_init 182 = .ok (.bipush 121, 2) := by decide +kernel
theorem d_M_init_184 : decode b_M_init 184 = .ok (.newarray .int, 2) := by decide +kernel
theorem d_M_init_186 : decode b_M_init 186 = .ok (.putfield 77, 3) := by decide +kernel
theorem d_M_init_189 : decode b_M_init 189 = .ok (.aload_n 0, 1) := by decide +kernel
theorem d_M_init_190 : decode b_M_init 190 = .ok (.bipush 64, 2) := by decide +kernel
theorem d_M_init_192 : decode b_M_init 192 = .ok (.newarray .int, 2) := by decide +kernel
theorem d_M_init_194 : decode b_M_init 194 = .ok (.putfield 80, 3) := by decide +kernel
theorem d_M_init_197 : decode b_M_init 197 = .ok (.return_, 1) := by decide +kernel
theorem d_M_thrown_0 : decode b_M_thrown 0 = .ok (.aload_n 0, 1) := by decide +kernel
theorem d_M_thrown_1 : decode b_M_thrown 1 = .ok (.getfield 83, 3) := by decide +kernel
theorem d_M_thrown_4 : decode b_M_thrown 4 = .ok (.ireturn, 1) := by decide +kernel
theorem d_M_announce_0 : decode b_M_announce 0 = .ok (.aload_n 0, 1) := by decide +kernel
theorem d_M_announce_1 : decode b_M_announce 1 = .ok (.iload_n 1, 1) := by decide +kernel
theorem d_M_announce_2 : decode b_M_announce 2 = .ok (.iconst 0, 1) := by decide +kernel
theorem d_M_announce_3 : decode b_M_announce 3 = .ok (.bipush 7, 2) := by decide +kernel
theorem d_M_announce_5 : decode b_M_announce 5 = .ok (.invokestatic 90, 3) := by decide +kernel
theorem d_M_announce_8 : decode b_M_announce 8 = .ok (.ifCond .eq 12, 3) := by decide +kernel
theorem d_M_announce_11 : decode b_M_announce 11 = .ok (.iload_n 2, 1) := by decide +kernel
theorem d_M_announce_12 : decode b_M_announce 12 = .ok (.iconst 1, 1) := by decide +kernel
theorem d_M_announce_13 : decode b_M_announce 13 = .ok (.iconst 4, 1) := by decide +kernel
theorem d_M_announce_14 : decode b_M_announce 14 = .ok (.invokestatic 90, 3) := by decide +kernel
theorem d_M_announce_17 : decode b_M_announce 17 = .ok (.ifCond .ne 7, 3) := by decide +kernel
theorem d_M_announce_20 : decode b_M_announce 20 = .ok (.iconst 1, 1) := by decide +kernel
theorem d_M_announce_21 : decode b_M_announce 21 = .ok (.goto 17, 3) := by decide +kernel
theorem d_M_announce_24 : decode b_M_announce 24 = .ok (.aload_n 0, 1) := by decide +kernel
theorem d_M_announce_25 : decode b_M_announce 25 = .ok (.getfield 87, 3) := by decide +kernel
theorem d_M_announce_28 : decode b_M_announce 28 = .ok (.bipush 16, 2) := by decide +kernel
theorem d_M_announce_30 : decode b_M_announce 30 = .ok (.if_icmp .ne 7, 3) := by decide +kernel
theorem d_M_announce_33 : decode b_M_announce 33 = .ok (.iconst 2, 1) := by decide +kernel
theorem d_M_announce_34 : decode b_M_announce 34 = .ok (.goto 4, 3) := by decide +kernel
theorem d_M_announce_37 : decode b_M_announce 37 = .ok (.iconst 0, 1) := by decide +kernel
theorem d_M_announce_38 : decode b_M_announce 38 = .ok (.putfield 83, 3) := by decide +kernel
theorem d_M_announce_41 : decode b_M_announce 41 = .ok (.aload_n 0, 1) := by decide +kernel
theorem d_M_announce_42 : decode b_M_announce 42 = .ok (.getfield 83, 3) := by decide +kernel
theorem d_M_announce_45 : decode b_M_announce 45 = .ok (.ifCond .le 5, 3) := by decide +kernel
theorem d_M_announce_48 : decode b_M_announce 48 = .ok (.iconst 0, 1) := by decide +kernel
theorem d_M_announce_49 : decode b_M_announce 49 = .ok (.ireturn, 1) := by decide +kernel
theorem d_M_announce_50 : decode b_M_announce 50 = .ok (.aload_n 0, 1) := by decide +kernel
theorem d_M_announce_51 : decode b_M_announce 51 = .ok (.dup, 1) := by decide +kernel
theorem d_M_announce_52 : decode b_M_announce 52 = .ok (.getfield 87, 3) := by decide +kernel
theorem d_M_announce_55 : decode b_M_announce 55 = .ok (.iconst 1, 1) := by decide +kernel
theorem d_M_announce_56 : decode b_M_announce 56 = .ok (.iadd, 1) := by decide +kernel
theorem d_M_announce_57 : decode b_M_announce 57 = .ok (.putfield 87, 3) := by decide +kernel
theorem d_M_announce_60 : decode b_M_announce 60 = .ok (.aload_n 0, 1) := by decide +kernel
theorem d_M_announce_61 : decode b_M_announce 61 = .ok (.getfield 13, 3) := by decide +kernel
theorem d_M_announce_64 : decode b_M_announce 64 = .ok (.aload_n 0, 1) := by decide +kernel
theorem d_M_announce_65 : decode b_M_announce 65 = .ok (.getfield 87, 3) := by decide +kernel
theorem d_M_announce_68 : decode b_M_announce 68 = .ok (.iload_n 1, 1) := by decide +kernel
theorem d_M_announce_69 : decode b_M_announce 69 = .ok (.iastore, 1) := by decide +kernel
theorem d_M_announce_70 : decode b_M_announce 70 = .ok (.aload_n 0, 1) := by decide +kernel
theorem d_M_announce_71 : decode b_M_announce 71 = .ok (.getfield 17, 3) := by decide +kernel
theorem d_M_announce_74 : decode b_M_announce 74 = .ok (.aload_n 0, 1) := by decide +kernel
theorem d_M_announce_75 : decode b_M_announce 75 = .ok (.getfield 87, 3) := by decide +kernel
theorem d_M_announce_78 : decode b_M_announce 78 = .ok (.iload_n 2, 1) := by decide +kernel
theorem d_M_announce_79 : decode b_M_announce 79 = .ok (.iastore, 1) := by decide +kernel
theorem d_M_announce_80 : decode b_M_announce 80 = .ok (.aload_n 0, 1) := by decide +kernel
theorem d_M_announce_81 : decode b_M_announce 81 = .ok (.getfield 26, 3) := by decide +kernel
theorem d_M_announce_84 : decode b_M_announce 84 = .ok (.aload_n 0, 1) := by decide +kernel
theorem d_M_announce_85 : decode b_M_announce 85 = .ok (.getfield 87, 3) := by decide +kernel
theorem d_M_announce_88 : decode b_M_announce 88 = .ok (.iconst (-1), 1) := by decide +kernel
theorem d_M_announce_89 : decode b_M_announce 89 = .ok (.iastore, 1) := by decide +kernel
theorem d_M_announce_90 : decode b_M_announce 90 = .ok (.aload_n 0, 1) := by decide +kernel
theorem d_M_announce_91 : decode b_M_announce 91 = .ok (.getfield 87, 3) := by decide +kernel
theorem d_M_announce_94 : decode b_M_announce 94 = .ok (.ireturn, 1) := by decide +kernel
theorem d_M_in_0 : decode b_M_in 0 = .ok (.iload_n 0, 1) := by decide +kernel
theorem d_M_in_1 : decode b_M_in 1 = .ok (.iload_n 1, 1) := by decide +kernel
theorem d_M_in_2 : decode b_M_in 2 = .ok (.if_icmp .lt 12, 3) := by decide +kernel
theorem d_M_in_5 : decode b_M_in 5 = .ok (.iload_n 0, 1) := by decide +kernel
theorem d_M_in_6 : decode b_M_in 6 = .ok (.iload_n 2, 1) := by decide +kernel
theorem d_M_in_7 : decode b_M_in 7 = .ok (.if_icmp .gt 7, 3) := by decide +kernel
theorem d_M_in_10 : decode b_M_in 10 = .ok (.iconst 1, 1) := by decide +kernel
theorem d_M_in_11 : decode b_M_in 11 = .ok (.goto 4, 3) := by decide +kernel
theorem d_M_in_14 : decode b_M_in 14 = .ok (.iconst 0, 1) := by decide +kernel
theorem d_M_in_15 : decode b_M_in 15 = .ok (.ireturn, 1) := by decide +kernel
theorem d_M_line_0 : decode b_M_line 0 = .ok (.aload_n 0, 1) := by decide +kernel
theorem d_M_line_1 : decode b_M_line 1 = .ok (.aload_n 0, 1) := by decide +kernel
theorem d_M_line_2 : decode b_M_line 2 = .ok (.iload_n 1, 1) := by decide +kernel
theorem d_M_line_3 : decode b_M_line 3 = .ok (.invokevirtual 94, 3) := by decide +kernel
theorem d_M_line_6 : decode b_M_line 6 = .ok (.ifCond .ne 7, 3) := by decide +kernel
theorem d_M_line_9 : decode b_M_line 9 = .ok (.iconst 1, 1) := by decide +kernel
theorem d_M_line_10 : decode b_M_line 10 = .ok (.goto 29, 3) := by decide +kernel
theorem d_M_line_13 : decode b_M_line 13 = .ok (.iload_n 2, 1) := by decide +kernel
theorem d_M_line_14 : decode b_M_line 14 = .ok (.iconst 0, 1) := by decide +kernel
theorem d_M_line_15 : decode b_M_line 15 = .ok (.bipush 9, 2) := by decide +kernel
theorem d_M_line_17 : decode b_M_line 17 = .ok (.invokestatic 90, 3) := by decide +kernel
theorem d_M_line_20 : decode b_M_line 20 = .ok (.ifCond .eq 14, 3) := by decide +kernel
theorem d_M_line_23 : decode b_M_line 23 = .ok (.iload_n 3, 1) := by decide +kernel
theorem d_M_line_24 : decode b_M_line 24 = .ok (.iconst 0, 1) := by decide +kernel
theorem d_M_line_25 : decode b_M_line 25 = .ok (.sipush 400, 3) := by decide +kernel
theorem d_M_line_28 : decode b_M_line 28 = .ok (.invokestatic 90, 3) := by decide +kernel
theorem d_M_line_31 : decode b_M_line 31 = .ok (.ifCond .ne 7, 3) := by decide +kernel
theorem d_M_line_34 : decode b_M_line 34 = .ok (.iconst 2, 1) := by decide +kernel
theorem d_M_line_35 : decode b_M_line 35 = .ok (.goto 4, 3) := by decide +kernel
theorem d_M_line_38 : decode b_M_line 38 = .ok (.iconst 0, 1) := by decide +kernel
theorem d_M_line_39 : decode b_M_line 39 = .ok (.putfield 83, 3) := by decide +kernel
theorem d_M_line_42 : decode b_M_line 42 = .ok (.aload_n 0, 1) := by decide +kernel
theorem d_M_line_43 : decode b_M_line 43 = .ok (.getfield 83, 3) := by decide +kernel
theorem d_M_line_46 : decode b_M_line 46 = .ok (.ifCond .ne 37, 3) := by decide +kernel
theorem d_M_line_49 : decode b_M_line 49 = .ok (.aload_n 0, 1) := by decide +kernel
theorem d_M_line_50 : decode b_M_line 50 = .ok (.aload_n 0, 1) := by decide +kernel
theorem d_M_line_51 : decode b_M_line 51 = .ok (.getfield 20, 3) := by decide +kernel
theorem d_M_line_54 : decode b_M_line 54 = .ok (.iload_n 1, 1) := by decide +kernel
theorem d_M_line_55 : decode b_M_line 55 = .ok (.iaload, 1) := by decide +kernel
theorem d_M_line_56 : decode b_M_line 56 = .ok (.aload_n 0, 1) := by decide +kernel
theorem d_M_line_57 : decode b_M_line 57 = .ok (.getfield 17, 3) := by decide +kernel
theorem d_M_line_60 : decode b_M_line 60 = .ok (.iload_n 1, 1) := by decide +kernel
theorem d_M_line_61 : decode b_M_line 61 = .ok (.iaload, 1) := by decide +kernel
theorem d_M_line_62 : decode b_M_line 62 = .ok (.if_icmp .eq 13, 3) := by decide +kernel
theorem d_M_line_65 : decode b_M_line 65 = .ok (.aload_n 0, 1) := by decide +kernel
theorem d_M_line_66 : decode b_M_line 66 = .ok (.getfield 23, 3) := by decide +kernel
theorem d_M_line_69 : decode b_M_line 69 = .ok (.iload_n 1, 1) := by decide +kernel
theorem d_M_line_70 : decode b_M_line 70 = .ok (.iaload, 1) := by decide +kernel
theorem d_M_line_71 : decode b_M_line 71 = .ok (.iconst 3, 1) := by decide +kernel
theorem d_M_line_72 : decode b_M_line 72 = .ok (.if_icmp .ne 7, 3) := by decide +kernel
theorem d_M_line_75 : decode b_M_line 75 = .ok (.iconst 3, 1) := by decide +kernel
theorem d_M_line_76 : decode b_M_line 76 = .ok (.goto 4, 3) := by decide +kernel
theorem d_M_line_79 : decode b_M_line 79 = .ok (.iconst 0, 1) := by decide +kernel
theorem d_M_line_80 : decode b_M_line 80 = .ok (.putfield 83, 3) := by decide +kernel
theorem d_M_line_83 : decode b_M_line 83 = .ok (.aload_n 0, 1) := by decide +kernel
theorem d_M_line_84 : decode b_M_line 84 = .ok (.getfield 83, 3) := by decide +kernel
theorem d_M_line_87 : decode b_M_line 87 = .ok (.ifCond .le 5, 3) := by decide +kernel
theorem d_M_line_90 : decode b_M_line 90 = .ok (.iconst 0, 1) := by decide +kernel
theorem d_M_line_91 : decode b_M_line 91 = .ok (.ireturn, 1) := by decide +kernel
theorem d_M_line_92 : decode b_M_line 92 = .ok (.iconst 4, 1) := by decide +kernel
theorem d_M_line_93 : decode b_M_line 93 = .ok (.iload_n 1, 1) := by decide +kernel
theorem d_M_line_94 : decode b_M_line 94 = .ok (.imul, 1) := by decide +kernel
theorem d_M_line_95 : decode b_M_line 95 = .ok (.aload_n 0, 1) := by decide +kernel
theorem d_M_line_96 : decode b_M_line 96 = .ok (.getfield 20, 3) := by decide +kernel
theorem d_M_line_99 : decode b_M_line 99 = .ok (.iload_n 1, 1) := by decide +kernel
theorem d_M_line_100 : decode b_M_line 100 = .ok (.iaload, 1) := by decide +kernel
theorem d_M_line_101 : decode b_M_line 101 = .ok (.iadd, 1) := by decide +kernel
theorem d_M_line_102 : decode b_M_line 102 = .ok (.istore 4, 2) := by decide +kernel
theorem d_M_line_104 : decode b_M_line 104 = .ok (.aload_n 0, 1) := by decide +kernel
theorem d_M_line_105 : decode b_M_line 105 = .ok (.getfield 29, 3) := by decide +kernel
theorem d_M_line_108 : decode b_M_line 108 = .ok (.iload 4, 2) := by decide +kernel
theorem d_M_line_110 : decode b_M_line 110 = .ok (.iload_n 2, 1) := by decide +kernel
theorem d_M_line_111 : decode b_M_line 111 = .ok (.iastore, 1) := by decide +kernel
theorem d_M_line_112 : decode b_M_line 112 = .ok (.aload_n 0, 1) := by decide +kernel
theorem d_M_line_113 : decode b_M_line 113 = .ok (.getfield 32, 3) := by decide +kernel
theorem d_M_line_116 : decode b_M_line 116 = .ok (.iload 4, 2) := by decide +kernel
theorem d_M_line_118 : decode b_M_line 118 = .ok (.iload_n 3, 1) := by decide +kernel
theorem d_M_line_119 : decode b_M_line 119 = .ok (.iastore, 1) := by decide +kernel
theorem d_M_line_120 : decode b_M_line 120 = .ok (.aload_n 0, 1) := by decide +kernel
theorem d_M_line_121 : decode b_M_line 121 = .ok (.getfield 20, 3) := by decide +kernel
theorem d_M_line_124 : decode b_M_line 124 = .ok (.iload_n 1, 1) := by decide +kernel
theorem d_M_line_125 : decode b_M_line 125 = .ok (.dup2, 1) := by decide +kernel
theorem d_M_line_126 : decode b_M_line 126 = .ok (.iaload, 1) := by decide +kernel
theorem d_M_line_127 : decode b_M_line 127 = .ok (.iconst 1, 1) := by decide +kernel
theorem d_M_line_128 : decode b_M_line 128 = .ok (.iadd, 1) := by decide +kernel
theorem d_M_line_129 : decode b_M_line 129 = .ok (.iastore, 1) := by decide +kernel
theorem d_M_line_130 : decode b_M_line 130 = .ok (.aload_n 0, 1) := by decide +kernel
theorem d_M_line_131 : decode b_M_line 131 = .ok (.getfield 20, 3) := by decide +kernel
theorem d_M_line_134 : decode b_M_line 134 = .ok (.iload_n 1, 1) := by decide +kernel
theorem d_M_line_135 : decode b_M_line 135 = .ok (.iaload, 1) := by decide +kernel
theorem d_M_line_136 : decode b_M_line 136 = .ok (.iconst 1, 1) := by decide +kernel
theorem d_M_line_137 : decode b_M_line 137 = .ok (.isub, 1) := by decide +kernel
theorem d_M_line_138 : decode b_M_line 138 = .ok (.ireturn, 1) := by decide +kernel
theorem d_M_isAnnouncement_0 : decode b_M_isAnnouncement 0 = .ok (.iload_n 1, 1) := by decide +kernel
theorem d_M_isAnnouncement_1 : decode b_M_isAnnouncement 1 = .ok (.iconst 1, 1) := by decide +kernel
theorem d_M_isAnnouncement_2 : decode b_M_isAnnouncement 2 = .ok (.aload_n 0, 1) := by decide +kernel
theorem d_M_isAnnouncement_3 : decode b_M_isAnnouncement 3 = .ok (.getfield 87, 3) := by decide +kernel
theorem d_M_isAnnouncement_6 : decode b_M_isAnnouncement 6 = .ok (.invokestatic 90, 3) := by decide +kernel
theorem d_M_isAnnouncement_9 : decode b_M_isAnnouncement 9 = .ok (.ireturn, 1) := by decide +kernel
theorem d_M_arrive_0 : decode b_M_arrive 0 = .ok (.aload_n 0, 1) := by decide +kernel
theorem d_M_arrive_1 : decode b_M_arrive 1 = .ok (.aload_n 0, 1) := by decide +kernel
theorem d_M_arrive_2 : decode b_M_arrive 2 = .ok (.iload_n 1, 1) := by decide +kernel
theorem d_M_arrive_3 : decode b_M_arrive 3 = .ok (.invokevirtual 94, 3) := by decide +kernel
theorem d_M_arrive_6 : decode b_M_arrive 6 = .ok (.ifCond .ne 7, 3) := by decide +kernel
theorem d_M_arrive_9 : decode b_M_arrive 9 = .ok (.iconst 1, 1) := by decide +kernel
theorem d_M_arrive_10 : decode b_M_arrive 10 = .ok (.goto 17, 3) := by decide +kernel
theorem d_M_arrive_13 : decode b_M_arrive 13 = .ok (.iload_n 2, 1) := by decide +kernel
theorem d_M_arrive_14 : decode b_M_arrive 14 = .ok (.iconst 0, 1) := by decide +kernel
theorem d_M_arrive_15 : decode b_M_arrive 15 = .ok (.iconst 3, 1) := by decide +kernel
theorem d_M_arrive_16 : decode b_M_arrive 16 = .ok (.invokestatic 90, 3) := by decide +kernel
theorem d_M_arrive_19 : decode b_M_arrive 19 = .ok (.ifCond .ne 7, 3) := by decide +kernel
theorem d_M_arrive_22 : decode b_M_arrive 22 = .ok (.iconst 2, 1) := by decide +kernel
theorem d_M_arrive_23 : decode b_M_arrive 23 = .ok (.goto 4, 3) := by decide +kernel
theorem d_M_arrive_26 : decode b_M_arrive 26 = .ok (.iconst 0, 1) := by decide +kernel
theorem d_M_arrive_27 : decode b_M_arrive 27 = .ok (.putfield 83, 3) := by decide +kernel
theorem d_M_arrive_30 : decode b_M_arrive 30 = .ok (.aload_n 0, 1) := by decide +kernel
theorem d_M_arrive_31 : decode b_M_arrive 31 = .ok (.getfield 83, 3) := by decide +kernel
theorem d_M_arrive_34 : decode b_M_arrive 34 = .ok (.ifCond .ne 44, 3) := by decide +kernel
theorem d_M_arrive_37 : decode b_M_arrive 37 = .ok (.aload_n 0, 1) := by decide +kernel
theorem d_M_arrive_38 : decode b_M_arrive 38 = .ok (.aload_n 0, 1) := by decide +kernel
theorem d_M_arrive_39 : decode b_M_arrive 39 = .ok (.getfield 23, 3) := by decide +kernel
theorem d_M_arrive_42 : decode b_M_arrive 42 = .ok (.iload_n 1, 1) := by decide +kernel
theorem d_M_arrive_43 : decode b_M_arrive 43 = .ok (.iaload, 1) := by decide +kernel
theorem d_M_arrive_44 : decode b_M_arrive 44 = .ok (.ifCond .ne 26, 3) := by decide +kernel
theorem d_M_arrive_47 : decode b_M_arrive 47 = .ok (.aload_n 0, 1) := by decide +kernel
theorem d_M_arrive_48 : decode b_M_arrive 48 = .ok (.getfield 20, 3) := by decide +kernel
theorem d_M_arrive_51 : decode b_M_arrive 51 = .ok (.iload_n 1, 1) := by decide +kernel
theorem d_M_arrive_52 : decode b_M_arrive 52 = .ok (.iaload, 1) := by decide +kernel
theorem d_M_arrive_53 : decode b_M_arrive 53 = .ok (.aload_n 0, 1) := by decide +kernel
theorem d_M_arrive_54 : decode b_M_arrive 54 = .ok (.getfield 17, 3) := by decide +kernel
theorem d_M_arrive_57 : decode b_M_arrive 57 = .ok (.iload_n 1, 1) := by decide +kernel
theorem d_M_arrive_58 : decode b_M_arrive 58 = .ok (.iaload, 1) := by decide +kernel
theorem d_M_arrive_59 : decode b_M_arrive 59 = .ok (.if_icmp .lt 11, 3) := by decide +kernel
theorem d_M_arrive_62 : decode b_M_arrive 62 = .ok (.aload_n 0, 1) := by decide +kernel
theorem d_M_arrive_63 : decode b_M_arrive 63 = .ok (.iload_n 2, 1) := by decide +kernel
theorem d_M_arrive_64 : decode b_M_arrive 64 = .ok (.invokevirtual 101, 3) := by decide +kernel
theorem d_M_arrive_67 : decode b_M_arrive 67 = .ok (.ifCond .eq 7, 3) := by decide +kernel
theorem d_M_arrive_70 : decode b_M_arrive 70 = .ok (.iconst 3, 1) := by decide +kernel
theorem d_M_arrive_71 : decode b_M_arrive 71 = .ok (.goto 4, 3) := by decide +kernel
theorem d_M_arrive_74 : decode b_M_arrive 74 = .ok (.iconst 0, 1) := by decide +kernel
theorem d_M_arrive_75 : decode b_M_arrive 75 = .ok (.putfield 83, 3) := by decide +kernel
theorem d_M_arrive_78 : decode b_M_arrive 78 = .ok (.aload_n 0, 1) := by decide +kernel
theorem d_M_arrive_79 : decode b_M_arrive 79 = .ok (.getfield 83, 3) := by decide +kernel
theorem d_M_arrive_82 : decode b_M_arrive 82 = .ok (.ifCond .le 5, 3) := by decide +kernel
theorem d_M_arrive_85 : decode b_M_arrive 85 = .ok (.iconst 0, 1) := by decide +kernel
theorem d_M_arrive_86 : decode b_M_arrive 86 = .ok (.ireturn, 1) := by decide +kernel
theorem d_M_arrive_87 : decode b_M_arrive 87 = .ok (.aload_n 0, 1) := by decide +kernel
theorem d_M_arrive_88 : decode b_M_arrive 88 = .ok (.getfield 26, 3) := by decide +kernel
theorem d_M_arrive_91 : decode b_M_arrive 91 = .ok (.iload_n 1, 1) := by decide +kernel
theorem d_M_arrive_92 : decode b_M_arrive 92 = .ok (.iload_n 2, 1) := by decide +kernel
theorem d_M_arrive_93 : decode b_M_arrive 93 = .ok (.iastore, 1) := by decide +kernel
theorem d_M_arrive_94 : decode b_M_arrive 94 = .ok (.aload_n 0, 1) := by decide +kernel
theorem d_M_arrive_95 : decode b_M_arrive 95 = .ok (.getfield 23, 3) := by decide +kernel
theorem d_M_arrive_98 : decode b_M_arrive 98 = .ok (.iload_n 1, 1) := by decide +kernel
theorem d_M_arrive_99 : decode b_M_arrive 99 = .ok (.iload_n 3, 1) := by decide +kernel
theorem d_M_arrive_100 : decode b_M_arrive 100 = .ok (.ifCond .eq 7, 3) := by decide +kernel
theorem d_M_arrive_103 : decode b_M_arrive 103 = .ok (.iconst 1, 1) := by decide +kernel
theorem d_M_arrive_104 : decode b_M_arrive 104 = .ok (.goto 4, 3) := by decide +kernel
theorem d_M_arrive_107 : decode b_M_arrive 107 = .ok (.iconst 2, 1) := by decide +kernel
theorem d_M_arrive_108 : decode b_M_arrive 108 = .ok (.iastore, 1) := by decide +kernel
theorem d_M_arrive_109 : decode b_M_arrive 109 = .ok (.aload_n 0, 1) := by decide +kernel
theorem d_M_arrive_110 : decode b_M_arrive 110 = .ok (.getfield 23, 3) := by decide +kernel
theorem d_M_arrive_113 : decode b_M_arrive 113 = .ok (.iload_n 1, 1) := by decide +kernel
theorem d_M_arrive_114 : decode b_M_arrive 114 = .ok (.iaload, 1) := by decide +kernel
theorem d_M_arrive_115 : decode b_M_arrive 115 = .ok (.ireturn, 1) := by decide +kernel
theorem d_M_isTaken_0 : decode b_M_isTaken 0 = .ok (.iconst 1, 1) := by decide +kernel
theorem d_M_isTaken_1 : decode b_M_isTaken 1 = .ok (.istore_n 2, 1) := by decide +kernel
theorem d_M_isTaken_2 : decode b_M_isTaken 2 = .ok (.iload_n 2, 1) := by decide +kernel
theorem d_M_isTaken_3 : decode b_M_isTaken 3 = .ok (.aload_n 0, 1) := by decide +kernel
theorem d_M_isTaken_4 : decode b_M_isTaken 4 = .ok (.getfield 87, 3) := by decide +kernel
theorem d_M_isTaken_7 : decode b_M_isTaken 7 = .ok (.if_icmp .gt 41, 3) := by decide +kernel
theorem d_M_isTaken_10 : decode b_M_isTaken 10 = .ok (.aload_n 0, 1) := by decide +kernel
theorem d_M_isTaken_11 : decode b_M_isTaken 11 = .ok (.getfield 26, 3) := by decide +kernel
theorem d_M_isTaken_14 : decode b_M_isTaken 14 = .ok (.iload_n 2, 1) := by decide +kernel
theorem d_M_isTaken_15 : decode b_M_isTaken 15 = .ok (.iaload, 1) := by decide +kernel
theorem d_M_isTaken_16 : decode b_M_isTaken 16 = .ok (.iload_n 1, 1) := by decide +kernel
theorem d_M_isTaken_17 : decode b_M_isTaken 17 = .ok (.if_icmp .ne 25, 3) := by decide +kernel
theorem d_M_isTaken_20 : decode b_M_isTaken 20 = .ok (.aload_n 0, 1) := by decide +kernel
theorem d_M_isTaken_21 : decode b_M_isTaken 21 = .ok (.getfield 23, 3) := by decide +kernel
theorem d_M_isTaken_24 : decode b_M_isTaken 24 = .ok (.iload_n 2, 1) := by decide +kernel
theorem d_M_isTaken_25 : decode b_M_isTaken 25 = .ok (.iaload, 1) := by decide +kernel
theorem d_M_isTaken_26 : decode b_M_isTaken 26 = .ok (.iconst 1, 1) := by decide +kernel
theorem d_M_isTaken_27 : decode b_M_isTaken 27 = .ok (.if_icmp .eq 13, 3) := by decide +kernel
theorem d_M_isTaken_30 : decode b_M_isTaken 30 = .ok (.aload_n 0, 1) := by decide +kernel
theorem d_M_isTaken_31 : decode b_M_isTaken 31 = .ok (.getfield 23, 3) := by decide +kernel
theorem d_M_isTaken_34 : decode b_M_isTaken 34 = .ok (.iload_n 2, 1) := by decide +kernel
theorem d_M_isTaken_35 : decode b_M_isTaken 35 = .ok (.iaload, 1) := by decide +kernel
theorem d_M_isTaken_36 : decode b_M_isTaken 36 = .ok (.iconst 2, 1) := by decide +kernel
theorem d_M_isTaken_37 : decode b_M_isTaken 37 = .ok (.if_icmp .ne 5, 3) := by decide +kernel
theorem d_M_isTaken_40 : decode b_M_isTaken 40 = .ok (.iconst 1, 1) := by decide +kernel
theorem d_M_isTaken_41 : decode b_M_isTaken 41 = .ok (.ireturn, 1) := by decide +kernel
theorem d_M_isTaken_42 : decode b_M_isTaken 42 = .ok (.iinc 2 1, 3) := by decide +kernel
theorem d_M_isTaken_45 : decode b_M_isTaken 45 = .ok (.goto (-43), 3) := by decide +kernel
theorem d_M_isTaken_48 : decode b_M_isTaken 48 = .ok (.iconst 0, 1) := by decide +kernel
theorem d_M_isTaken_49 : decode b_M_isTaken 49 = .ok (.ireturn, 1) := by decide +kernel
theorem d_M_accept_0 : decode b_M_accept 0 = .ok (.aload_n 0, 1) := by decide +kernel
theorem d_M_accept_1 : decode b_M_accept 1 = .ok (.aload_n 0, 1) := by decide +kernel
theorem d_M_accept_2 : decode b_M_accept 2 = .ok (.iload_n 1, 1) := by decide +kernel
theorem d_M_accept_3 : decode b_M_accept 3 = .ok (.invokevirtual 94, 3) := by decide +kernel
theorem d_M_accept_6 : decode b_M_accept 6 = .ok (.ifCond .ne 7, 3) := by decide +kernel
theorem d_M_accept_9 : decode b_M_accept 9 = .ok (.iconst 1, 1) := by decide +kernel
theorem d_M_accept_10 : decode b_M_accept 10 = .ok (.goto 15, 3) := by decide +kernel
theorem d_M_accept_13 : decode b_M_accept 13 = .ok (.iload_n 2, 1) := by decide +kernel
theorem d_M_accept_14 : decode b_M_accept 14 = .ok (.invokestatic 104, 3) := by decide +kernel
theorem d_M_accept_17 : decode b_M_accept 17 = .ok (.ifCond .ne 7, 3) := by decide +kernel
theorem d_M_accept_20 : decode b_M_accept 20 = .ok (.iconst 2, 1) := by decide +kernel
theorem d_M_accept_21 : decode b_M_accept 21 = .ok (.goto 4, 3) := by decide +kernel
theorem d_M_accept_24 : decode b_M_accept 24 = .ok (.iconst 0, 1) := by decide +kernel
theorem d_M_accept_25 : decode b_M_accept 25 = .ok (.putfield 83, 3) := by decide +kernel
theorem d_M_accept_28 : decode b_M_accept 28 = .ok (.aload_n 0, 1) := by decide +kernel
theorem d_M_accept_29 : decode b_M_accept 29 = .ok (.getfield 83, 3) := by decide +kernel
theorem d_M_accept_32 : decode b_M_accept 32 = .ok (.ifCond .ne 31, 3) := by decide +kernel
theorem d_M_accept_35 : decode b_M_accept 35 = .ok (.aload_n 0, 1) := by decide +kernel
theorem d_M_accept_36 : decode b_M_accept 36 = .ok (.aload_n 0, 1) := by decide +kernel
theorem d_M_accept_37 : decode b_M_accept 37 = .ok (.getfield 23, 3) := by decide +kernel
theorem d_M_accept_40 : decode b_M_accept 40 = .ok (.iload_n 1, 1) := by decide +kernel
theorem d_M_accept_41 : decode b_M_accept 41 = .ok (.iaload, 1) := by decide +kernel
theorem d_M_accept_42 : decode b_M_accept 42 = .ok (.iconst 2, 1) := by decide +kernel
theorem d_M_accept_43 : decode b_M_accept 43 = .ok (.if_icmp .ne 12, 3) := by decide +kernel
theorem d_M_accept_46 : decode b_M_accept 46 = .ok (.aload_n 0, 1) := by decide +kernel
theorem d_M_accept_47 : decode b_M_accept 47 = .ok (.getfield 7, 3) := by decide +kernel
theorem d_M_accept_50 : decode b_M_accept 50 = .ok (.iload_n 2, 1) := by decide +kernel
theorem d_M_accept_51 : decode b_M_accept 51 = .ok (.baload, 1) := by decide +kernel
theorem d_M_accept_52 : decode b_M_accept 52 = .ok (.ifCond .ne 7, 3) := by decide +kernel
theorem d_M_accept_55 : decode b_M_accept 55 = .ok (.iconst 3, 1) := by decide +kernel
theorem d_M_accept_56 : decode b_M_accept 56 = .ok (.goto 4, 3) := by decide +kernel
theorem d_M_accept_59 : decode b_M_accept 59 = .ok (.iconst 0, 1) := by decide +kernel
theorem d_M_accept_60 : decode b_M_accept 60 = .ok (.putfield 83, 3) := by decide +kernel
theorem d_M_accept_63 : decode b_M_accept 63 = .ok (.aload_n 0, 1) := by decide +kernel
theorem d_M_accept_64 : decode b_M_accept 64 = .ok (.getfield 83, 3) := by decide +kernel
theorem d_M_accept_67 : decode b_M_accept 67 = .ok (.ifCond .ne 10, 3) := by decide +kernel
theorem d_M_accept_70 : decode b_M_accept 70 = .ok (.aload_n 0, 1) := by decide +kernel
theorem d_M_accept_71 : decode b_M_accept 71 = .ok (.getfield 23, 3) := by decide +kernel
theorem d_M_accept_74 : decode b_M_accept 74 = .ok (.iload_n 1, 1) := by decide +kernel
theorem d_M_accept_75 : decode b_M_accept 75 = .ok (.iconst 1, 1) := by decide +kernel
theorem d_M_accept_76 : decode b_M_accept 76 = .ok (.iastore, 1) := by decide +kernel
theorem d_M_accept_77 : decode b_M_accept 77 = .ok (.return_, 1) := by decide +kernel
theorem d_M_isPerson_0 : decode b_M_isPerson 0 = .ok (.iload_n 0, 1) := by decide +kernel
theorem d_M_isPerson_1 : decode b_M_isPerson 1 = .ok (.iconst 0, 1) := by decide +kernel
theorem d_M_isPerson_2 : decode b_M_isPerson 2 = .ok (.bipush 7, 2) := by decide +kernel
theorem d_M_isPerson_4 : decode b_M_isPerson 4 = .ok (.invokestatic 90, 3) := by decide +kernel
theorem d_M_isPerson_7 : decode b_M_isPerson 7 = .ok (.ireturn, 1) := by decide +kernel
theorem d_M_right_0 : decode b_M_right 0 = .ok (.aload_n 0, 1) := by decide +kernel
theorem d_M_right_1 : decode b_M_right 1 = .ok (.iload_n 1, 1) := by decide +kernel
theorem d_M_right_2 : decode b_M_right 2 = .ok (.invokestatic 104, 3) := by decide +kernel
theorem d_M_right_5 : decode b_M_right 5 = .ok (.ifCond .eq 7, 3) := by decide +kernel
theorem d_M_right_8 : decode b_M_right 8 = .ok (.iconst 0, 1) := by decide +kernel
theorem d_M_right_9 : decode b_M_right 9 = .ok (.goto 4, 3) := by decide +kernel
theorem d_M_right_12 : decode b_M_right 12 = .ok (.iconst 1, 1) := by decide +kernel
theorem d_M_right_13 : decode b_M_right 13 = .ok (.putfield 83, 3) := by decide +kernel
theorem d_M_right_16 : decode b_M_right 16 = .ok (.aload_n 0, 1) := by decide +kernel
theorem d_M_right_17 : decode b_M_right 17 = .ok (.getfield 83, 3) := by decide +kernel
theorem d_M_right_20 : decode b_M_right 20 = .ok (.ifCond .ne 10, 3) := by decide +kernel
theorem d_M_right_23 : decode b_M_right 23 = .ok (.aload_n 0, 1) := by decide +kernel
theorem d_M_right_24 : decode b_M_right 24 = .ok (.getfield 7, 3) := by decide +kernel
theorem d_M_right_27 : decode b_M_right 27 = .ok (.iload_n 1, 1) := by decide +kernel
theorem d_M_right_28 : decode b_M_right 28 = .ok (.iload_n 2, 1) := by decide +kernel
theorem d_M_right_29 : decode b_M_right 29 = .ok (.bastore, 1) := by decide +kernel
theorem d_M_right_30 : decode b_M_right 30 = .ok (.return_, 1) := by decide +kernel
theorem d_M_tolerance_0 : decode b_M_tolerance 0 = .ok (.aload_n 0, 1) := by decide +kernel
theorem d_M_tolerance_1 : decode b_M_tolerance 1 = .ok (.aload_n 0, 1) := by decide +kernel
theorem d_M_tolerance_2 : decode b_M_tolerance 2 = .ok (.iload_n 1, 1) := by decide +kernel
theorem d_M_tolerance_3 : decode b_M_tolerance 3 = .ok (.iload_n 2, 1) := by decide +kernel
theorem d_M_tolerance_4 : decode b_M_tolerance 4 = .ok (.invokevirtual 107, 3) := by decide +kernel
theorem d_M_tolerance_7 : decode b_M_tolerance 7 = .ok (.ifCond .ne 7, 3) := by decide +kernel
theorem d_M_tolerance_10 : decode b_M_tolerance 10 = .ok (.iconst 1, 1) := by decide +kernel
theorem d_M_tolerance_11 : decode b_M_tolerance 11 = .ok (.goto 18, 3) := by decide +kernel
theorem d_M_tolerance_14 : decode b_M_tolerance 14 = .ok (.iload_n 3, 1) := by decide +kernel
theorem d_M_tolerance_15 : decode b_M_tolerance 15 = .ok (.iconst 0, 1) := by decide +kernel
theorem d_M_tolerance_16 : decode b_M_tolerance 16 = .ok (.bipush 50, 2) := by decide +kernel
theorem d_M_tolerance_18 : decode b_M_tolerance 18 = .ok (.invokestatic 90, 3) := by decide +kernel
theorem d_M_tolerance_21 : decode b_M_tolerance 21 = .ok (.ifCond .ne 7, 3) := by decide +kernel
theorem d_M_tolerance_24 : decode b_M_tolerance 24 = .ok (.iconst 2, 1) := by decide +kernel
theorem d_M_tolerance_25 : decode b_M_tolerance 25 = .ok (.goto 4, 3) := by decide +kernel
theorem d_M_tolerance_28 : decode b_M_tolerance 28 = .ok (.iconst 0, 1) := by decide +kernel
theorem d_M_tolerance_29 : decode b_M_tolerance 29 = .ok (.putfield 83, 3) := by decide +kernel
theorem d_M_tolerance_32 : decode b_M_tolerance 32 = .ok (.aload_n 0, 1) := by decide +kernel
theorem d_M_tolerance_33 : decode b_M_tolerance 33 = .ok (.getfield 83, 3) := by decide +kernel
theorem d_M_tolerance_36 : decode b_M_tolerance 36 = .ok (.ifCond .ne 25, 3) := by decide +kernel
theorem d_M_tolerance_39 : decode b_M_tolerance 39 = .ok (.aload_n 0, 1) := by decide +kernel
theorem d_M_tolerance_40 : decode b_M_tolerance 40 = .ok (.aload_n 0, 1) := by decide +kernel
theorem d_M_tolerance_41 : decode b_M_tolerance 41 = .ok (.getfield 50, 3) := by decide +kernel
theorem d_M_tolerance_44 : decode b_M_tolerance 44 = .ok (.iconst 4, 1) := by decide +kernel
theorem d_M_tolerance_45 : decode b_M_tolerance 45 = .ok (.iload_n 1, 1) := by decide +kernel
theorem d_M_tolerance_46 : decode b_M_tolerance 46 = .ok (.imul, 1) := by decide +kernel
theorem d_M_tolerance_47 : decode b_M_tolerance 47 = .ok (.iload_n 2, 1) := by decide +kernel
theorem d_M_tolerance_48 : decode b_M_tolerance 48 = .ok (.iadd, 1) := by decide +kernel
theorem d_M_tolerance_49 : decode b_M_tolerance 49 = .ok (.baload, 1) := by decide +kernel
theorem d_M_tolerance_50 : decode b_M_tolerance 50 = .ok (.ifCond .eq 7, 3) := by decide +kernel
theorem d_M_tolerance_53 : decode b_M_tolerance 53 = .ok (.iconst 3, 1) := by decide +kernel
theorem d_M_tolerance_54 : decode b_M_tolerance 54 = .ok (.goto 4, 3) := by decide +kernel
theorem d_M_tolerance_57 : decode b_M_tolerance 57 = .ok (.iconst 0, 1) := by decide +kernel
theorem d_M_tolerance_58 : decode b_M_tolerance 58 = .ok (.putfield 83, 3) := by decide +kernel
theorem d_M_tolerance_61 : decode b_M_tolerance 61 = .ok (.aload_n 0, 1) := by decide +kernel
theorem d_M_tolerance_62 : decode b_M_tolerance 62 = .ok (.getfield 83, 3) := by decide +kernel
theorem d_M_tolerance_65 : decode b_M_tolerance 65 = .ok (.ifCond .ne 14, 3) := by decide +kernel
theorem d_M_tolerance_68 : decode b_M_tolerance 68 = .ok (.aload_n 0, 1) := by decide +kernel
theorem d_M_tolerance_69 : decode b_M_tolerance 69 = .ok (.getfield 35, 3) := by decide +kernel
theorem d_M_tolerance_72 : decode b_M_tolerance 72 = .ok (.iconst 4, 1) := by decide +kernel
theorem d_M_tolerance_73 : decode b_M_tolerance 73 = .ok (.iload_n 1, 1) := by decide +kernel
theorem d_M_tolerance_74 : decode b_M_tolerance 74 = .ok (.imul, 1) := by decide +kernel
theorem d_M_tolerance_75 : decode b_M_tolerance 75 = .ok (.iload_n 2, 1) := by decide +kernel
theorem d_M_tolerance_76 : decode b_M_tolerance 76 = .ok (.iadd, 1) := by decide +kernel
theorem d_M_tolerance_77 : decode b_M_tolerance 77 = .ok (.iload_n 3, 1) := by decide +kernel
theorem d_M_tolerance_78 : decode b_M_tolerance 78 = .ok (.iastore, 1) := by decide +kernel
theorem d_M_tolerance_79 : decode b_M_tolerance 79 = .ok (.return_, 1) := by decide +kernel
theorem d_M_isLine_0 : decode b_M_isLine 0 = .ok (.aload_n 0, 1) := by decide +kernel
theorem d_M_isLine_1 : decode b_M_isLine 1 = .ok (.iload_n 1, 1) := by decide +kernel
theorem d_M_isLine_2 : decode b_M_isLine 2 = .ok (.invokevirtual 94, 3) := by decide +kernel
theorem d_M_isLine_5 : decode b_M_isLine 5 = .ok (.ifCond .eq 39, 3) := by decide +kernel
theorem d_M_isLine_8 : decode b_M_isLine 8 = .ok (.iload_n 2, 1) := by decide +kernel
theorem d_M_isLine_9 : decode b_M_isLine 9 = .ok (.iconst 0, 1) := by decide +kernel
theorem d_M_isLine_10 : decode b_M_isLine 10 = .ok (.aload_n 0, 1) := by decide +kernel
theorem d_M_isLine_11 : decode b_M_isLine 11 = .ok (.getfield 20, 3) := by decide +kernel
theorem d_M_isLine_14 : decode b_M_isLine 14 = .ok (.iload_n 1, 1) := by decide +kernel
theorem d_M_isLine_15 : decode b_M_isLine 15 = .ok (.iconst 1, 1) := by decide +kernel
theorem d_M_isLine_16 : decode b_M_isLine 16 = .ok (.aload_n 0, 1) := by decide +kernel
theorem d_M_isLine_17 : decode b_M_isLine 17 = .ok (.getfield 87, 3) := by decide +kernel
theorem d_M_isLine_20 : decode b_M_isLine 20 = .ok (.invokestatic 90, 3) := by decide +kernel
theorem d_M_isLine_23 : decode b_M_isLine 23 = .ok (.ifCond .eq 7, 3) := by decide +kernel
theorem d_M_isLine_26 : decode b_M_isLine 26 = .ok (.iload_n 1, 1) := by decide +kernel
theorem d_M_isLine_27 : decode b_M_isLine 27 = .ok (.goto 4, 3) := by decide +kernel
theorem d_M_isLine_30 : decode b_M_isLine 30 = .ok (.iconst 0, 1) := by decide +kernel
theorem d_M_isLine_31 : decode b_M_isLine 31 = .ok (.iaload, 1) := by decide +kernel
theorem d_M_isLine_32 : decode b_M_isLine 32 = .ok (.iconst 1, 1) := by decide +kernel
theorem d_M_isLine_33 : decode b_M_isLine 33 = .ok (.isub, 1) := by decide +kernel
theorem d_M_isLine_34 : decode b_M_isLine 34 = .ok (.invokestatic 90, 3) := by decide +kernel
theorem d_M_isLine_37 : decode b_M_isLine 37 = .ok (.ifCond .eq 7, 3) := by decide +kernel
theorem d_M_isLine_40 : decode b_M_isLine 40 = .ok (.iconst 1, 1) := by decide +kernel
theorem d_M_isLine_41 : decode b_M_isLine 41 = .ok (.goto 4, 3) := by decide +kernel
theorem d_M_isLine_44 : decode b_M_isLine 44 = .ok (.iconst 0, 1) := by decide +kernel
theorem d_M_isLine_45 : decode b_M_isLine 45 = .ok (.ireturn, 1) := by decide +kernel
theorem d_M_wanted_0 : decode b_M_wanted 0 = .ok (.aload_n 0, 1) := by decide +kernel
theorem d_M_wanted_1 : decode b_M_wanted 1 = .ok (.aload_n 0, 1) := by decide +kernel
theorem d_M_wanted_2 : decode b_M_wanted 2 = .ok (.iload_n 1, 1) := by decide +kernel
theorem d_M_wanted_3 : decode b_M_wanted 3 = .ok (.iload_n 2, 1) := by decide +kernel
theorem d_M_wanted_4 : decode b_M_wanted 4 = .ok (.invokevirtual 107, 3) := by decide +kernel
theorem d_M_wanted_7 : decode b_M_wanted 7 = .ok (.ifCond .ne 7, 3) := by decide +kernel
theorem d_M_wanted_10 : decode b_M_wanted 10 = .ok (.iconst 1, 1) := by decide +kernel
theorem d_M_wanted_11 : decode b_M_wanted 11 = .ok (.goto 17, 3) := by decide +kernel
theorem d_M_wanted_14 : decode b_M_wanted 14 = .ok (.iload_n 3, 1) := by decide +kernel
theorem d_M_wanted_15 : decode b_M_wanted 15 = .ok (.iconst 0, 1) := by decide +kernel
theorem d_M_wanted_16 : decode b_M_wanted 16 = .ok (.iconst 5, 1) := by decide +kernel
theorem d_M_wanted_17 : decode b_M_wanted 17 = .ok (.invokestatic 90, 3) := by decide +kernel
theorem d_M_wanted_20 : decode b_M_wanted 20 = .ok (.ifCond .ne 7, 3) := by decide +kernel
theorem d_M_wanted_23 : decode b_M_wanted 23 = .ok (.iconst 2, 1) := by decide +kernel
theorem d_M_wanted_24 : decode b_M_wanted 24 = .ok (.goto 4, 3) := by decide +kernel
theorem d_M_wanted_27 : decode b_M_wanted 27 = .ok (.iconst 0, 1) := by decide +kernel
theorem d_M_wanted_28 : decode b_M_wanted 28 = .ok (.putfield 83, 3) := by decide +kernel
theorem d_M_wanted_31 : decode b_M_wanted 31 = .ok (.aload_n 0, 1) := by decide +kernel
theorem d_M_wanted_32 : decode b_M_wanted 32 = .ok (.getfield 83, 3) := by decide +kernel
theorem d_M_wanted_35 : decode b_M_wanted 35 = .ok (.ifCond .ne 25, 3) := by decide +kernel
theorem d_M_wanted_38 : decode b_M_wanted 38 = .ok (.aload_n 0, 1) := by decide +kernel
theorem d_M_wanted_39 : decode b_M_wanted 39 = .ok (.aload_n 0, 1) := by decide +kernel
theorem d_M_wanted_40 : decode b_M_wanted 40 = .ok (.getfield 50, 3) := by decide +kernel
theorem d_M_wanted_43 : decode b_M_wanted 43 = .ok (.iconst 4, 1) := by decide +kernel
theorem d_M_wanted_44 : decode b_M_wanted 44 = .ok (.iload_n 1, 1) := by decide +kernel
theorem d_M_wanted_45 : decode b_M_wanted 45 = .ok (.imul, 1) := by decide +kernel
theorem d_M_wanted_46 : decode b_M_wanted 46 = .ok (.iload_n 2, 1) := by decide +kernel
theorem d_M_wanted_47 : decode b_M_wanted 47 = .ok (.iadd, 1) := by decide +kernel
theorem d_M_wanted_48 : decode b_M_wanted 48 = .ok (.baload, 1) := by decide +kernel
theorem d_M_wanted_49 : decode b_M_wanted 49 = .ok (.ifCond .eq 7, 3) := by decide +kernel
theorem d_M_wanted_52 : decode b_M_wanted 52 = .ok (.iconst 3, 1) := by decide +kernel
theorem d_M_wanted_53 : decode b_M_wanted 53 = .ok (.goto 4, 3) := by decide +kernel
theorem d_M_wanted_56 : decode b_M_wanted 56 = .ok (.iconst 0, 1) := by decide +kernel
theorem d_M_wanted_57 : decode b_M_wanted 57 = .ok (.putfield 83, 3) := by decide +kernel
theorem d_M_wanted_60 : decode b_M_wanted 60 = .ok (.aload_n 0, 1) := by decide +kernel
theorem d_M_wanted_61 : decode b_M_wanted 61 = .ok (.getfield 83, 3) := by decide +kernel
theorem d_M_wanted_64 : decode b_M_wanted 64 = .ok (.ifCond .ne 14, 3) := by decide +kernel
theorem d_M_wanted_67 : decode b_M_wanted 67 = .ok (.aload_n 0, 1) := by decide +kernel
theorem d_M_wanted_68 : decode b_M_wanted 68 = .ok (.getfield 41, 3) := by decide +kernel
theorem d_M_wanted_71 : decode b_M_wanted 71 = .ok (.iconst 4, 1) := by decide +kernel
theorem d_M_wanted_72 : decode b_M_wanted 72 = .ok (.iload_n 1, 1) := by decide +kernel
theorem d_M_wanted_73 : decode b_M_wanted 73 = .ok (.imul, 1) := by decide +kernel
theorem d_M_wanted_74 : decode b_M_wanted 74 = .ok (.iload_n 2, 1) := by decide +kernel
theorem d_M_wanted_75 : decode b_M_wanted 75 = .ok (.iadd, 1) := by decide +kernel
theorem d_M_wanted_76 : decode b_M_wanted 76 = .ok (.iload_n 3, 1) := by decide +kernel
theorem d_M_wanted_77 : decode b_M_wanted 77 = .ok (.iastore, 1) := by decide +kernel
theorem d_M_wanted_78 : decode b_M_wanted 78 = .ok (.return_, 1) := by decide +kernel
theorem d_M_count_0 : decode b_M_count 0 = .ok (.aload_n 0, 1) := by decide +kernel
theorem d_M_count_1 : decode b_M_count 1 = .ok (.aload_n 0, 1) := by decide +kernel
theorem d_M_count_2 : decode b_M_count 2 = .ok (.iload_n 1, 1) := by decide +kernel
theorem d_M_count_3 : decode b_M_count 3 = .ok (.iload_n 2, 1) := by decide +kernel
theorem d_M_count_4 : decode b_M_count 4 = .ok (.invokevirtual 107, 3) := by decide +kernel
theorem d_M_count_7 : decode b_M_count 7 = .ok (.ifCond .ne 7, 3) := by decide +kernel
theorem d_M_count_10 : decode b_M_count 10 = .ok (.iconst 1, 1) := by decide +kernel
theorem d_M_count_11 : decode b_M_count 11 = .ok (.goto 38, 3) := by decide +kernel
theorem d_M_count_14 : decode b_M_count 14 = .ok (.iload_n 3, 1) := by decide +kernel
theorem d_M_count_15 : decode b_M_count 15 = .ok (.iconst 1, 1) := by decide +kernel
theorem d_M_count_16 : decode b_M_count 16 = .ok (.sipush 400, 3) := by decide +kernel
theorem d_M_count_19 : decode b_M_count 19 = .ok (.invokestatic 90, 3) := by decide +kernel
theorem d_M_count_22 : decode b_M_count 22 = .ok (.ifCond .eq 22, 3) := by decide +kernel
theorem d_M_count_25 : decode b_M_count 25 = .ok (.iload 4, 2) := by decide +kernel
theorem d_M_count_27 : decode b_M_count 27 = .ok (.iconst 0, 1) := by decide +kernel
theorem d_M_count_28 : decode b_M_count 28 = .ok (.bipush 99, 2) := by decide +kernel
theorem d_M_count_30 : decode b_M_count 30 = .ok (.invokestatic 90, 3) := by decide +kernel
theorem d_M_count_33 : decode b_M_count 33 = .ok (.ifCond .eq 11, 3) := by decide +kernel
theorem d_M_count_36 : decode b_M_count 36 = .ok (.iload 5, 2) := by decide +kernel
theorem d_M_count_38 : decode b_M_count 38 = .ok (.invokestatic 104, 3) := by decide +kernel
theorem d_M_count_41 : decode b_M_count 41 = .ok (.ifCond .ne 7, 3) := by decide +kernel
theorem d_M_count_44 : decode b_M_count 44 = .ok (.iconst 2, 1) := by decide +kernel
theorem d_M_count_45 : decode b_M_count 45 = .ok (.goto 4, 3) := by decide +kernel
theorem d_M_count_48 : decode b_M_count 48 = .ok (.iconst 0, 1) := by decide +kernel
theorem d_M_count_49 : decode b_M_count 49 = .ok (.putfield 83, 3) := by decide +kernel
theorem d_M_count_52 : decode b_M_count 52 = .ok (.aload_n 0, 1) := by decide +kernel
theorem d_M_count_53 : decode b_M_count 53 = .ok (.getfield 83, 3) := by decide +kernel
theorem d_M_count_56 : decode b_M_count 56 = .ok (.ifCond .le 5, 3) := by decide +kernel
theorem d_M_count_59 : decode b_M_count 59 = .ok (.iconst 0, 1) := by decide +kernel
theorem d_M_count_60 : decode b_M_count 60 = .ok (.ireturn, 1) := by decide +kernel
theorem d_M_count_61 : decode b_M_count 61 = .ok (.iconst 4, 1) := by decide +kernel
theorem d_M_count_62 : decode b_M_count 62 = .ok (.iload_n 1, 1) := by decide +kernel
theorem d_M_count_63 : decode b_M_count 63 = .ok (.imul, 1) := by decide +kernel
theorem d_M_count_64 : decode b_M_count 64 = .ok (.iload_n 2, 1) := by decide +kernel
theorem d_M_count_65 : decode b_M_count 65 = .ok (.iadd, 1) := by decide +kernel
theorem d_M_count_66 : decode b_M_count 66 = .ok (.istore 6, 2) := by decide +kernel
theorem d_M_count_68 : decode b_M_count 68 = .ok (.aload_n 0, 1) := by decide +kernel
theorem d_M_count_69 : decode b_M_count 69 = .ok (.getfield 23, 3) := by decide +kernel
theorem d_M_count_72 : decode b_M_count 72 = .ok (.iload_n 1, 1) := by decide +kernel
theorem d_M_count_73 : decode b_M_count 73 = .ok (.iaload, 1) := by decide +kernel
theorem d_M_count_74 : decode b_M_count 74 = .ok (.iconst 1, 1) := by decide +kernel
theorem d_M_count_75 : decode b_M_count 75 = .ok (.if_icmp .eq 5, 3) := by decide +kernel
theorem d_M_count_78 : decode b_M_count 78 = .ok (.iconst (-1), 1) := by decide +kernel
theorem d_M_count_79 : decode b_M_count 79 = .ok (.ireturn, 1) := by decide +kernel
theorem d_M_count_80 : decode b_M_count 80 = .ok (.aload_n 0, 1) := by decide +kernel
theorem d_M_count_81 : decode b_M_count 81 = .ok (.getfield 50, 3) := by decide +kernel
theorem d_M_count_84 : decode b_M_count 84 = .ok (.iload 6, 2) := by decide +kernel
theorem d_M_count_86 : decode b_M_count 86 = .ok (.baload, 1) := by decide +kernel
theorem d_M_count_87 : decode b_M_count 87 = .ok (.ifCond .eq 6, 3) := by decide +kernel
theorem d_M_count_90 : decode b_M_count 90 = .ok (.bipush (-2), 2) := by decide +kernel
theorem d_M_count_92 : decode b_M_count 92 = .ok (.ireturn, 1) := by decide +kernel
theorem d_M_count_93 : decode b_M_count 93 = .ok (.aload_n 0, 1) := by decide +kernel
theorem d_M_count_94 : decode b_M_count 94 = .ok (.getfield 53, 3) := by decide +kernel
theorem d_M_count_97 : decode b_M_count 97 = .ok (.bipush 8, 2) := by decide +kernel
theorem d_M_count_99 : decode b_M_count 99 = .ok (.iload 6, 2) := by decide +kernel
theorem d_M_count_101 : decode b_M_count 101 = .ok (.imul, 1) := by decide +kernel
theorem d_M_count_102 : decode b_M_count 102 = .ok (.iload 5, 2) := by decide +kernel
theorem d_M_count_104 : decode b_M_count 104 = .ok (.iadd, 1) := by decide +kernel
theorem d_M_count_105 : decode b_M_count 105 = .ok (.baload, 1) := by decide +kernel
theorem d_M_count_106 : decode b_M_count 106 = .ok (.ifCond .eq 6, 3) := by decide +kernel
theorem d_M_count_109 : decode b_M_count 109 = .ok (.bipush (-3), 2) := by decide +kernel
theorem d_M_count_111 : decode b_M_count 111 = .ok (.ireturn, 1) := by decide +kernel
theorem d_M_count_112 : decode b_M_count 112 = .ok (.aload_n 0, 1) := by decide +kernel
theorem d_M_count_113 : decode b_M_count 113 = .ok (.getfield 38, 3) := by decide +kernel
theorem d_M_count_116 : decode b_M_count 116 = .ok (.iload 6, 2) := by decide +kernel
theorem d_M_count_118 : decode b_M_count 118 = .ok (.iaload, 1) := by decide +kernel
theorem d_M_count_119 : decode b_M_count 119 = .ok (.iload_n 3, 1) := by decide +kernel
theorem d_M_count_120 : decode b_M_count 120 = .ok (.iadd, 1) := by decide +kernel
theorem d_M_count_121 : decode b_M_count 121 = .ok (.aload_n 0, 1) := by decide +kernel
theorem d_M_count_122 : decode b_M_count 122 = .ok (.iload 6, 2) := by decide +kernel
theorem d_M_count_124 : decode b_M_count 124 = .ok (.invokevirtual 111, 3) := by decide +kernel
theorem d_M_count_127 : decode b_M_count 127 = .ok (.if_icmp .le 6, 3) := by decide +kernel
theorem d_M_count_130 : decode b_M_count 130 = .ok (.bipush (-4), 2) := by decide +kernel
theorem d_M_count_132 : decode b_M_count 132 = .ok (.ireturn, 1) := by decide +kernel
theorem d_M_count_133 : decode b_M_count 133 = .ok (.iload_n 3, 1) := by decide +kernel
theorem d_M_count_134 : decode b_M_count 134 = .ok (.bipush 50, 2) := by decide +kernel
theorem d_M_count_136 : decode b_M_count 136 = .ok (.iadd, 1) := by decide +kernel
theorem d_M_count_137 : decode b_M_count 137 = .ok (.iconst 1, 1) := by decide +kernel
theorem d_M_count_138 : decode b_M_count 138 = .ok (.isub, 1) := by decide +kernel
theorem d_M_count_139 : decode b_M_count 139 = .ok (.bipush 50, 2) := by decide +kernel
theorem d_M_count_141 : decode b_M_count 141 = .ok (.idiv, 1) := by decide +kernel
theorem d_M_count_142 : decode b_M_count 142 = .ok (.istore 7, 2) := by decide +kernel
theorem d_M_count_144 : decode b_M_count 144 = .ok (.aload_n 0, 1) := by decide +kernel
theorem d_M_count_145 : decode b_M_count 145 = .ok (.aload_n 0, 1) := by decide +kernel
theorem d_M_count_146 : decode b_M_count 146 = .ok (.getfield 98, 3) := by decide +kernel
theorem d_M_count_149 : decode b_M_count 149 = .ok (.iload 7, 2) := by decide +kernel
theorem d_M_count_151 : decode b_M_count 151 = .ok (.iadd, 1) := by decide +kernel
theorem d_M_count_152 : decode b_M_count 152 = .ok (.bipush 120, 2) := by decide +kernel
theorem d_M_count_154 : decode b_M_count 154 = .ok (.if_icmp .le 7, 3) := by decide +kernel
theorem d_M_count_157 : decode b_M_count 157 = .ok (.iconst 3, 1) := by decide +kernel
theorem d_M_count_158 : decode b_M_count 158 = .ok (.goto 4, 3) := by decide +kernel
theorem d_M_count_161 : decode b_M_count 161 = .ok (.iconst 0, 1) := by decide +kernel
theorem d_M_count_162 : decode b_M_count 162 = .ok (.putfield 83, 3) := by decide +kernel
theorem d_M_count_165 : decode b_M_count 165 = .ok (.aload_n 0, 1) := by decide +kernel
theorem d_M_count_166 : decode b_M_count 166 = .ok (.getfield 83, 3) := by decide +kernel
theorem d_M_count_169 : decode b_M_count 169 = .ok (.ifCond .le 5, 3) := by decide +kernel
theorem d_M_count_172 : decode b_M_count 172 = .ok (.iconst 0, 1) := by decide +kernel
theorem d_M_count_173 : decode b_M_count 173 = .ok (.ireturn, 1) := by decide +kernel
theorem d_M_count_174 : decode b_M_count 174 = .ok (.aload_n 0, 1) := by decide +kernel
theorem d_M_count_175 : decode b_M_count 175 = .ok (.getfield 53, 3) := by decide +kernel
theorem d_M_count_178 : decode b_M_count 178 = .ok (.bipush 8, 2) := by decide +kernel
theorem d_M_count_180 : decode b_M_count 180 = .ok (.iload 6, 2) := by decide +kernel
theorem d_M_count_182 : decode b_M_count 182 = .ok (.imul, 1) := by decide +kernel
theorem d_M_count_183 : decode b_M_count 183 = .ok (.iload 5, 2) := by decide +kernel
theorem d_M_count_185 : decode b_M_count 185 = .ok (.iadd, 1) := by decide +kernel
theorem d_M_count_186 : decode b_M_count 186 = .ok (.iconst 1, 1) := by decide +kernel
theorem d_M_count_187 : decode b_M_count 187 = .ok (.bastore, 1) := by decide +kernel
theorem d_M_count_188 : decode b_M_count 188 = .ok (.aload_n 0, 1) := by decide +kernel
theorem d_M_count_189 : decode b_M_count 189 = .ok (.getfield 38, 3) := by decide +kernel
theorem d_M_count_192 : decode b_M_count 192 = .ok (.iload 6, 2) := by decide +kernel
theorem d_M_count_194 : decode b_M_count 194 = .ok (.dup2, 1) := by decide +kernel
theorem d_M_count_195 : decode b_M_count 195 = .ok (.iaload, 1) := by decide +kernel
theorem d_M_count_196 : decode b_M_count 196 = .ok (.iload_n 3, 1) := by decide +kernel
theorem d_M_count_197 : decode b_M_count 197 = .ok (.iadd, 1) := by decide +kernel
theorem d_M_count_198 : decode b_M_count 198 = .ok (.iastore, 1) := by decide +kernel
theorem d_M_count_199 : decode b_M_count 199 = .ok (.iload_n 3, 1) := by decide +kernel
theorem d_M_count_200 : decode b_M_count 200 = .ok (.istore 8, 2) := by decide +kernel
theorem d_M_count_202 : decode b_M_count 202 = .ok (.iload 8, 2) := by decide +kernel
theorem d_M_count_204 : decode b_M_count 204 = .ok (.ifCond .le 98, 3) := by decide +kernel
theorem d_M_count_207 : decode b_M_count 207 = .ok (.aload_n 0, 1) := by decide +kernel
theorem d_M_count_208 : decode b_M_count 208 = .ok (.dup, 1) := by decide +kernel
theorem d_M_count_209 : decode b_M_count 209 = .ok (.getfield 98, 3) := by decide +kernel
theorem d_M_count_212 : decode b_M_count 212 = .ok (.iconst 1, 1) := by decide +kernel
theorem d_M_count_213 : decode b_M_count 213 = .ok (.iadd, 1) := by decide +kernel
theorem d_M_count_214 : decode b_M_count 214 = .ok (.putfield 98, 3) := by decide +kernel
theorem d_M_count_217 : decode b_M_count 217 = .ok (.aload_n 0, 1) := by decide +kernel
theorem d_M_count_218 : decode b_M_count 218 = .ok (.getfield 56, 3) := by decide +kernel
theorem d_M_count_221 : decode b_M_count 221 = .ok (.aload_n 0, 1) := by decide +kernel
theorem d_M_count_222 : decode b_M_count 222 = .ok (.getfield 98, 3) := by decide +kernel
theorem d_M_count_225 : decode b_M_count 225 = .ok (.iload 6, 2) := by decide +kernel
theorem d_M_count_227 : decode b_M_count 227 = .ok (.iastore, 1) := by decide +kernel
theorem d_M_count_228 : decode b_M_count 228 = .ok (.aload_n 0, 1) := by decide +kernel
theorem d_M_count_229 : decode b_M_count 229 = .ok (.getfield 59, 3) := by decide +kernel
theorem d_M_count_232 : decode b_M_count 232 = .ok (.aload_n 0, 1) := by decide +kernel
theorem d_M_count_233 : decode b_M_count 233 = .ok (.getfield 98, 3) := by decide +kernel
theorem d_M_count_236 : decode b_M_count 236 = .ok (.aload_n 0, 1) := by decide +kernel
theorem d_M_count_237 : decode b_M_count 237 = .ok (.getfield 47, 3) := by decide +kernel
theorem d_M_count_240 : decode b_M_count 240 = .ok (.iload 6, 2) := by decide +kernel
theorem d_M_count_242 : decode b_M_count 242 = .ok (.baload, 1) := by decide +kernel
theorem d_M_count_243 : decode b_M_count 243 = .ok (.ifCond .eq 7, 3) := by decide +kernel
theorem d_M_count_246 : decode b_M_count 246 = .ok (.iconst 2, 1) := by decide +kernel
theorem d_M_count_247 : decode b_M_count 247 = .ok (.goto 4, 3) := by decide +kernel
theorem d_M_count_250 : decode b_M_count 250 = .ok (.iconst 0, 1) := by decide +kernel
theorem d_M_count_251 : decode b_M_count 251 = .ok (.iastore, 1) := by decide +kernel
theorem d_M_count_252 : decode b_M_count 252 = .ok (.aload_n 0, 1) := by decide +kernel
theorem d_M_count_253 : decode b_M_count 253 = .ok (.getfield 62, 3) := by decide +kernel
theorem d_M_count_256 : decode b_M_count 256 = .ok (.aload_n 0, 1) := by decide +kernel
theorem d_M_count_257 : decode b_M_count 257 = .ok (.getfield 98, 3) := by decide +kernel
theorem d_M_count_260 : decode b_M_count 260 = .ok (.iload 8, 2) := by decide +kernel
theorem d_M_count_262 : decode b_M_count 262 = .ok (.bipush 50, 2) := by decide +kernel
theorem d_M_count_264 : decode b_M_count 264 = .ok (.if_icmp .ge 8, 3) := by decide +kernel
theorem d_M_count_267 : decode b_M_count 267 = .ok (.iload 8, 2) := by decide +kernel
theorem d_M_count_269 : decode b_M_count 269 = .ok (.goto 5, 3) := by decide +kernel
theorem d_M_count_272 : decode b_M_count 272 = .ok (.bipush 50, 2) := by decide +kernel
theorem d_M_count_274 : decode b_M_count 274 = .ok (.iastore, 1) := by decide +kernel
theorem d_M_count_275 : decode b_M_count 275 = .ok (.aload_n 0, 1) := by decide +kernel
theorem d_M_count_276 : decode b_M_count 276 = .ok (.getfield 65, 3) := by decide +kernel
theorem d_M_count_279 : decode b_M_count 279 = .ok (.aload_n 0, 1) := by decide +kernel
theorem d_M_count_280 : decode b_M_count 280 = .ok (.getfield 98, 3) := by decide +kernel
theorem d_M_count_283 : decode b_M_count 283 = .ok (.iload 4, 2) := by decide +kernel
theorem d_M_count_285 : decode b_M_count 285 = .ok (.iastore, 1) := by decide +kernel
theorem d_M_count_286 : decode b_M_count 286 = .ok (.aload_n 0, 1) := by decide +kernel
theorem d_M_count_287 : decode b_M_count 287 = .ok (.getfield 68, 3) := by decide +kernel
theorem d_M_count_290 : decode b_M_count 290 = .ok (.aload_n 0, 1) := by decide +kernel
theorem d_M_count_291 : decode b_M_count 291 = .ok (.getfield 98, 3) := by decide +kernel
theorem d_M_count_294 : decode b_M_count 294 = .ok (.iconst (-1), 1) := by decide +kernel
theorem d_M_count_295 : decode b_M_count 295 = .ok (.iastore, 1) := by decide +kernel
theorem d_M_count_296 : decode b_M_count 296 = .ok (.iinc 8 (-50), 3) := by decide +kernel
theorem d_M_count_299 : decode b_M_count 299 = .ok (.goto (-97), 3) := by decide +kernel
theorem d_M_count_302 : decode b_M_count 302 = .ok (.iload 7, 2) := by decide +kernel
theorem d_M_count_304 : decode b_M_count 304 = .ok (.ireturn, 1) := by decide +kernel
theorem d_M_takes_0 : decode b_M_takes 0 = .ok (.aload_n 0, 1) := by decide +kernel
theorem d_M_takes_1 : decode b_M_takes 1 = .ok (.getfield 32, 3) := by decide +kernel
theorem d_M_takes_4 : decode b_M_takes 4 = .ok (.iload_n 1, 1) := by decide +kernel
theorem d_M_takes_5 : decode b_M_takes 5 = .ok (.iaload, 1) := by decide +kernel
theorem d_M_takes_6 : decode b_M_takes 6 = .ok (.aload_n 0, 1) := by decide +kernel
theorem d_M_takes_7 : decode b_M_takes 7 = .ok (.getfield 32, 3) := by decide +kernel
theorem d_M_takes_10 : decode b_M_takes 10 = .ok (.iload_n 1, 1) := by decide +kernel
theorem d_M_takes_11 : decode b_M_takes 11 = .ok (.iaload, 1) := by decide +kernel
theorem d_M_takes_12 : decode b_M_takes 12 = .ok (.aload_n 0, 1) := by decide +kernel
theorem d_M_takes_13 : decode b_M_takes 13 = .ok (.getfield 35, 3) := by decide +kernel
theorem d_M_takes_16 : decode b_M_takes 16 = .ok (.iload_n 1, 1) := by decide +kernel
theorem d_M_takes_17 : decode b_M_takes 17 = .ok (.iaload, 1) := by decide +kernel
theorem d_M_takes_18 : decode b_M_takes 18 = .ok (.imul, 1) := by decide +kernel
theorem d_M_takes_19 : decode b_M_takes 19 = .ok (.bipush 100, 2) := by decide +kernel
theorem d_M_takes_21 : decode b_M_takes 21 = .ok (.idiv, 1) := by decide +kernel
theorem d_M_takes_22 : decode b_M_takes 22 = .ok (.iadd, 1) := by decide +kernel
theorem d_M_takes_23 : decode b_M_takes 23 = .ok (.ireturn, 1) := by decide +kernel
theorem d_M_damaged_0 : decode b_M_damaged 0 = .ok (.aload_n 0, 1) := by decide +kernel
theorem d_M_damaged_1 : decode b_M_damaged 1 = .ok (.aload_n 0, 1) := by decide +kernel
theorem d_M_damaged_2 : decode b_M_damaged 2 = .ok (.iload_n 1, 1) := by decide +kernel
theorem d_M_damaged_3 : decode b_M_damaged 3 = .ok (.invokevirtual 115, 3) := by decide +kernel
theorem d_M_damaged_6 : decode b_M_damaged 6 = .ok (.ifCond .ne 7, 3) := by decide +kernel
theorem d_M_damaged_9 : decode b_M_damaged 9 = .ok (.iconst 1, 1) := by decide +kernel
theorem d_M_damaged_10 : decode b_M_damaged 10 = .ok (.goto 18, 3) := by decide +kernel
theorem d_M_damaged_13 : decode b_M_damaged 13 = .ok (.iload_n 2, 1) := by decide +kernel
theorem d_M_damaged_14 : decode b_M_damaged 14 = .ok (.iconst 1, 1) := by decide +kernel
theorem d_M_damaged_15 : decode b_M_damaged 15 = .ok (.bipush 9, 2) := by decide +kernel
theorem d_M_damaged_17 : decode b_M_damaged 17 = .ok (.invokestatic 90, 3) := by decide +kernel
theorem d_M_damaged_20 : decode b_M_damaged 20 = .ok (.ifCond .ne 7, 3) := by decide +kernel
theorem d_M_damaged_23 : decode b_M_damaged 23 = .ok (.iconst 2, 1) := by decide +kernel
theorem d_M_damaged_24 : decode b_M_damaged 24 = .ok (.goto 4, 3) := by decide +kernel
theorem d_M_damaged_27 : decode b_M_damaged 27 = .ok (.iconst 0, 1) := by decide +kernel
theorem d_M_damaged_28 : decode b_M_damaged 28 = .ok (.putfield 83, 3) := by decide +kernel
theorem d_M_damaged_31 : decode b_M_damaged 31 = .ok (.aload_n 0, 1) := by decide +kernel
theorem d_M_damaged_32 : decode b_M_damaged 32 = .ok (.getfield 83, 3) := by decide +kernel
theorem d_M_damaged_35 : decode b_M_damaged 35 = .ok (.ifCond .ne 36, 3) := by decide +kernel
theorem d_M_damaged_38 : decode b_M_damaged 38 = .ok (.aload_n 0, 1) := by decide +kernel
theorem d_M_damaged_39 : decode b_M_damaged 39 = .ok (.aload_n 0, 1) := by decide +kernel
theorem d_M_damaged_40 : decode b_M_damaged 40 = .ok (.getfield 59, 3) := by decide +kernel
theorem d_M_damaged_43 : decode b_M_damaged 43 = .ok (.iload_n 1, 1) := by decide +kernel
theorem d_M_damaged_44 : decode b_M_damaged 44 = .ok (.iaload, 1) := by decide +kernel
theorem d_M_damaged_45 : decode b_M_damaged 45 = .ok (.iconst 1, 1) := by decide +kernel
theorem d_M_damaged_46 : decode b_M_damaged 46 = .ok (.if_icmp .eq 17, 3) := by decide +kernel
theorem d_M_damaged_49 : decode b_M_damaged 49 = .ok (.aload_n 0, 1) := by decide +kernel
theorem d_M_damaged_50 : decode b_M_damaged 50 = .ok (.getfield 50, 3) := by decide +kernel
theorem d_M_damaged_53 : decode b_M_damaged 53 = .ok (.aload_n 0, 1) := by decide +kernel
theorem d_M_damaged_54 : decode b_M_damaged 54 = .ok (.getfield 56, 3) := by decide +kernel
theorem d_M_damaged_57 : decode b_M_damaged 57 = .ok (.iload_n 1, 1) := by decide +kernel
theorem d_M_damaged_58 : decode b_M_damaged 58 = .ok (.iaload, 1) := by decide +kernel
theorem d_M_damaged_59 : decode b_M_damaged 59 = .ok (.baload, 1) := by decide +kernel
theorem d_M_damaged_60 : decode b_M_damaged 60 = .ok (.ifCond .eq 7, 3) := by decide +kernel
theorem d_M_damaged_63 : decode b_M_damaged 63 = .ok (.iconst 3, 1) := by decide +kernel
theorem d_M_damaged_64 : decode b_M_damaged 64 = .ok (.goto 4, 3) := by decide +kernel
theorem d_M_damaged_67 : decode b_M_damaged 67 = .ok (.iconst 0, 1) := by decide +kernel
theorem d_M_damaged_68 : decode b_M_damaged 68 = .ok (.putfield 83, 3) := by decide +kernel
theorem d_M_damaged_71 : decode b_M_damaged 71 = .ok (.aload_n 0, 1) := by decide +kernel
theorem d_M_damaged_72 : decode b_M_damaged 72 = .ok (.getfield 83, 3) := by decide +kernel
theorem d_M_damaged_75 : decode b_M_damaged 75 = .ok (.ifCond .le 5, 3) := by decide +kernel
theorem d_M_damaged_78 : decode b_M_damaged 78 = .ok (.iconst 0, 1) := by decide +kernel
theorem d_M_damaged_79 : decode b_M_damaged 79 = .ok (.ireturn, 1) := by decide +kernel
theorem d_M_damaged_80 : decode b_M_damaged 80 = .ok (.aload_n 0, 1) := by decide +kernel
theorem d_M_damaged_81 : decode b_M_damaged 81 = .ok (.getfield 59, 3) := by decide +kernel
theorem d_M_damaged_84 : decode b_M_damaged 84 = .ok (.iload_n 1, 1) := by decide +kernel
theorem d_M_damaged_85 : decode b_M_damaged 85 = .ok (.iconst 1, 1) := by decide +kernel
theorem d_M_damaged_86 : decode b_M_damaged 86 = .ok (.iastore, 1) := by decide +kernel
theorem d_M_damaged_87 : decode b_M_damaged 87 = .ok (.aload_n 0, 1) := by decide +kernel
theorem d_M_damaged_88 : decode b_M_damaged 88 = .ok (.getfield 71, 3) := by decide +kernel
theorem d_M_damaged_91 : decode b_M_damaged 91 = .ok (.iload_n 1, 1) := by decide +kernel
theorem d_M_damaged_92 : decode b_M_damaged 92 = .ok (.iload_n 2, 1) := by decide +kernel
theorem d_M_damaged_93 : decode b_M_damaged 93 = .ok (.iastore, 1) := by decide +kernel
theorem d_M_damaged_94 : decode b_M_damaged 94 = .ok (.iconst 0, 1) := by decide +kernel
theorem d_M_damaged_95 : decode b_M_damaged 95 = .ok (.istore_n 3, 1) := by decide +kernel
theorem d_M_damaged_96 : decode b_M_damaged 96 = .ok (.iconst 1, 1) := by decide +kernel
theorem d_M_damaged_97 : decode b_M_damaged 97 = .ok (.istore 4, 2) := by decide +kernel
theorem d_M_damaged_99 : decode b_M_damaged 99 = .ok (.iload 4, 2) := by decide +kernel
theorem d_M_damaged_101 : decode b_M_damaged 101 = .ok (.aload_n 0, 1) := by decide +kernel
theorem d_M_damaged_102 : decode b_M_damaged 102 = .ok (.getfield 98, 3) := by decide +kernel
theorem d_M_damaged_105 : decode b_M_damaged 105 = .ok (.if_icmp .gt 44, 3) := by decide +kernel
theorem d_M_damaged_108 : decode b_M_damaged 108 = .ok (.iload_n 3, 1) := by decide +kernel
theorem d_M_damaged_109 : decode b_M_damaged 109 = .ok (.aload_n 0, 1) := by decide +kernel
theorem d_M_damaged_110 : decode b_M_damaged 110 = .ok (.getfield 56, 3) := by decide +kernel
theorem d_M_damaged_113 : decode b_M_damaged 113 = .ok (.iload 4, 2) := by decide +kernel
theorem d_M_damaged_115 : decode b_M_damaged 115 = .ok (.iaload, 1) := by decide +kernel
theorem d_M_damaged_116 : decode b_M_damaged 116 = .ok (.aload_n 0, 1) := by decide +kernel
theorem d_M_damaged_117 : decode b_M_damaged 117 = .ok (.getfield 56, 3) := by decide +kernel
theorem d_M_damaged_120 : decode b_M_damaged 120 = .ok (.iload_n 1, 1) := by decide +kernel
theorem d_M_damaged_121 : decode b_M_damaged 121 = .ok (.iaload, 1) := by decide +kernel
theorem d_M_damaged_122 : decode b_M_damaged 122 = .ok (.if_icmp .ne 18, 3) := by decide +kernel
theorem d_M_damaged_125 : decode b_M_damaged 125 = .ok (.aload_n 0, 1) := by decide +kernel
theorem d_M_damaged_126 : decode b_M_damaged 126 = .ok (.getfield 59, 3) := by decide +kernel
theorem d_M_damaged_129 : decode b_M_damaged 129 = .ok (.iload 4, 2) := by decide +kernel
theorem d_M_damaged_131 : decode b_M_damaged 131 = .ok (.iaload, 1) := by decide +kernel
theorem d_M_damaged_132 : decode b_M_damaged 132 = .ok (.iconst 1, 1) := by decide +kernel
theorem d_M_damaged_133 : decode b_M_damaged 133 = .ok (.if_icmp .ne 7, 3) := by decide +kernel
theorem d_M_damaged_136 : decode b_M_damaged 136 = .ok (.iconst 1, 1) := by decide +kernel
theorem d_M_damaged_137 : decode b_M_damaged 137 = .ok (.goto 4, 3) := by decide +kernel
theorem d_M_damaged_140 : decode b_M_damaged 140 = .ok (.iconst 0, 1) := by decide +kernel
theorem d_M_damaged_141 : decode b_M_damaged 141 = .ok (.iadd, 1) := by decide +kernel
theorem d_M_damaged_142 : decode b_M_damaged 142 = .ok (.istore_n 3, 1) := by decide +kernel
theorem d_M_damaged_143 : decode b_M_damaged 143 = .ok (.iinc 4 1, 3) := by decide +kernel
theorem d_M_damaged_146 : decode b_M_damaged 146 = .ok (.goto (-47), 3) := by decide +kernel
theorem d_M_damaged_149 : decode b_M_damaged 149 = .ok (.iload_n 3, 1) := by decide +kernel
theorem d_M_damaged_150 : decode b_M_damaged 150 = .ok (.ireturn, 1) := by decide +kernel
theorem d_M_isUnit_0 : decode b_M_isUnit 0 = .ok (.iload_n 1, 1) := by decide +kernel
theorem d_M_isUnit_1 : decode b_M_isUnit 1 = .ok (.iconst 1, 1) := by decide +kernel
theorem d_M_isUnit_2 : decode b_M_isUnit 2 = .ok (.aload_n 0, 1) := by decide +kernel
theorem d_M_isUnit_3 : decode b_M_isUnit 3 = .ok (.getfield 98, 3) := by decide +kernel
theorem d_M_isUnit_6 : decode b_M_isUnit 6 = .ok (.invokestatic 90, 3) := by decide +kernel
theorem d_M_isUnit_9 : decode b_M_isUnit 9 = .ok (.ireturn, 1) := by decide +kernel
theorem d_M_sample_0 : decode b_M_sample 0 = .ok (.aload_n 0, 1) := by decide +kernel
theorem d_M_sample_1 : decode b_M_sample 1 = .ok (.aload_n 0, 1) := by decide +kernel
theorem d_M_sample_2 : decode b_M_sample 2 = .ok (.iload_n 1, 1) := by decide +kernel
theorem d_M_sample_3 : decode b_M_sample 3 = .ok (.iload_n 2, 1) := by decide +kernel
theorem d_M_sample_4 : decode b_M_sample 4 = .ok (.invokevirtual 107, 3) := by decide +kernel
theorem d_M_sample_7 : decode b_M_sample 7 = .ok (.ifCond .ne 7, 3) := by decide +kernel
theorem d_M_sample_10 : decode b_M_sample 10 = .ok (.iconst 1, 1) := by decide +kernel
theorem d_M_sample_11 : decode b_M_sample 11 = .ok (.goto 4, 3) := by decide +kernel
theorem d_M_sample_14 : decode b_M_sample 14 = .ok (.iconst 0, 1) := by decide +kernel
theorem d_M_sample_15 : decode b_M_sample 15 = .ok (.putfield 83, 3) := by decide +kernel
theorem d_M_sample_18 : decode b_M_sample 18 = .ok (.aload_n 0, 1) := by decide +kernel
theorem d_M_sample_19 : decode b_M_sample 19 = .ok (.getfield 83, 3) := by decide +kernel
theorem d_M_sample_22 : decode b_M_sample 22 = .ok (.ifCond .le 5, 3) := by decide +kernel
theorem d_M_sample_25 : decode b_M_sample 25 = .ok (.iconst 0, 1) := by decide +kernel
theorem d_M_sample_26 : decode b_M_sample 26 = .ok (.ireturn, 1) := by decide +kernel
theorem d_M_sample_27 : decode b_M_sample 27 = .ok (.iconst 4, 1) := by decide +kernel
theorem d_M_sample_28 : decode b_M_sample 28 = .ok (.iload_n 1, 1) := by decide +kernel
theorem d_M_sample_29 : decode b_M_sample 29 = .ok (.imul, 1) := by decide +kernel
theorem d_M_sample_30 : decode b_M_sample 30 = .ok (.iload_n 2, 1) := by decide +kernel
theorem d_M_sample_31 : decode b_M_sample 31 = .ok (.iadd, 1) := by decide +kernel
theorem d_M_sample_32 : decode b_M_sample 32 = .ok (.istore 4, 2) := by decide +kernel
theorem d_M_sample_34 : decode b_M_sample 34 = .ok (.aload_n 0, 1) := by decide +kernel
theorem d_M_sample_35 : decode b_M_sample 35 = .ok (.aload_n 0, 1) := by decide +kernel
theorem d_M_sample_36 : decode b_M_sample 36 = .ok (.getfield 23, 3) := by decide +kernel
theorem d_M_sample_39 : decode b_M_sample 39 = .ok (.iload_n 1, 1) := by decide +kernel
theorem d_M_sample_40 : decode b_M_sample 40 = .ok (.iaload, 1) := by decide +kernel
theorem d_M_sample_41 : decode b_M_sample 41 = .ok (.iconst 1, 1) := by decide +kernel
theorem d_M_sample_42 : decode b_M_sample 42 = .ok (.if_icmp .ne 22, 3) := by decide +kernel
theorem d_M_sample_45 : decode b_M_sample 45 = .ok (.aload_n 0, 1) := by decide +kernel
theorem d_M_sample_46 : decode b_M_sample 46 = .ok (.getfield 50, 3) := by decide +kernel
theorem d_M_sample_49 : decode b_M_sample 49 = .ok (.iload 4, 2) := by decide +kernel
theorem d_M_sample_51 : decode b_M_sample 51 = .ok (.baload, 1) := by decide +kernel
theorem d_M_sample_52 : decode b_M_sample 52 = .ok (.ifCond .ne 12, 3) := by decide +kernel
theorem d_M_sample_55 : decode b_M_sample 55 = .ok (.aload_n 0, 1) := by decide +kernel
theorem d_M_sample_56 : decode b_M_sample 56 = .ok (.iload 4, 2) := by decide +kernel
theorem d_M_sample_58 : decode b_M_sample 58 = .ok (.invokevirtual 118, 3) := by decide +kernel
theorem d_M_sample_61 : decode b_M_sample 61 = .ok (.ifCond .ne 7, 3) := by decide +kernel
theorem d_M_sample_64 : decode b_M_sample 64 = .ok (.iconst 2, 1) := by decide +kernel
theorem d_M_sample_65 : decode b_M_sample 65 = .ok (.goto 4, 3) := by decide +kernel
theorem d_M_sample_68 : decode b_M_sample 68 = .ok (.iconst 0, 1) := by decide +kernel
theorem d_M_sample_69 : decode b_M_sample 69 = .ok (.putfield 83, 3) := by decide +kernel
theorem d_M_sample_72 : decode b_M_sample 72 = .ok (.aload_n 0, 1) := by decide +kernel
theorem d_M_sample_73 : decode b_M_sample 73 = .ok (.getfield 83, 3) := by decide +kernel
theorem d_M_sample_76 : decode b_M_sample 76 = .ok (.ifCond .le 5, 3) := by decide +kernel
theorem d_M_sample_79 : decode b_M_sample 79 = .ok (.iconst 0, 1) := by decide +kernel
theorem d_M_sample_80 : decode b_M_sample 80 = .ok (.ireturn, 1) := by decide +kernel
theorem d_M_sample_81 : decode b_M_sample 81 = .ok (.aload_n 0, 1) := by decide +kernel
theorem d_M_sample_82 : decode b_M_sample 82 = .ok (.getfield 44, 3) := by decide +kernel
theorem d_M_sample_85 : decode b_M_sample 85 = .ok (.iload 4, 2) := by decide +kernel
theorem d_M_sample_87 : decode b_M_sample 87 = .ok (.dup2, 1) := by decide +kernel
theorem d_M_sample_88 : decode b_M_sample 88 = .ok (.iaload, 1) := by decide +kernel
theorem d_M_sample_89 : decode b_M_sample 89 = .ok (.iconst 1, 1) := by decide +kernel
theorem d_M_sample_90 : decode b_M_sample 90 = .ok (.iadd, 1) := by decide +kernel
theorem d_M_sample_91 : decode b_M_sample 91 = .ok (.iastore, 1) := by decide +kernel
theorem d_M_sample_92 : decode b_M_sample 92 = .ok (.iload_n 3, 1) := by decide +kernel
theorem d_M_sample_93 : decode b_M_sample 93 = .ok (.ifCond .ne 59, 3) := by decide +kernel
theorem d_M_sample_96 : decode b_M_sample 96 = .ok (.aload_n 0, 1) := by decide +kernel
theorem d_M_sample_97 : decode b_M_sample 97 = .ok (.getfield 47, 3) := by decide +kernel
theorem d_M_sample_100 : decode b_M_sample 100 = .ok (.iload 4, 2) := by decide +kernel
theorem d_M_sample_102 : decode b_M_sample 102 = .ok (.iconst 1, 1) := by decide +kernel
theorem d_M_sample_103 : decode b_M_sample 103 = .ok (.bastore, 1) := by decide +kernel
theorem d_M_sample_104 : decode b_M_sample 104 = .ok (.iconst 1, 1) := by decide +kernel
theorem d_M_sample_105 : decode b_M_sample 105 = .ok (.istore 5, 2) := by decide +kernel
theorem d_M_sample_107 : decode b_M_sample 107 = .ok (.iload 5, 2) := by decide +kernel
theorem d_M_sample_109 : decode b_M_sample 109 = .ok (.aload_n 0, 1) := by decide +kernel
theorem d_M_sample_110 : decode b_M_sample 110 = .ok (.getfield 98, 3) := by decide +kernel
theorem d_M_sample_113 : decode b_M_sample 113 = .ok (.if_icmp .gt 39, 3) := by decide +kernel
theorem d_M_sample_116 : decode b_M_sample 116 = .ok (.aload_n 0, 1) := by decide +kernel
theorem d_M_sample_117 : decode b_M_sample 117 = .ok (.getfield 56, 3) := by decide +kernel
theorem d_M_sample_120 : decode b_M_sample 120 = .ok (.iload 5, 2) := by decide +kernel
theorem d_M_sample_122 : decode b_M_sample 122 = .ok (.iaload, 1) := by decide +kernel
theorem d_M_sample_123 : decode b_M_sample 123 = .ok (.iload 4, 2) := by decide +kernel
theorem d_M_sample_125 : decode b_M_sample 125 = .ok (.if_icmp .ne 21, 3) := by decide +kernel
theorem d_M_sample_128 : decode b_M_sample 128 = .ok (.aload_n 0, 1) := by decide +kernel
theorem d_M_sample_129 : decode b_M_sample 129 = .ok (.getfield 59, 3) := by decide +kernel
theorem d_M_sample_132 : decode b_M_sample 132 = .ok (.iload 5, 2) := by decide +kernel
theorem d_M_sample_134 : decode b_M_sample 134 = .ok (.iaload, 1) := by decide +kernel
theorem d_M_sample_135 : decode b_M_sample 135 = .ok (.ifCond .ne 11, 3) := by decide +kernel
theorem d_M_sample_138 : decode b_M_sample 138 = .ok (.aload_n 0, 1) := by decide +kernel
theorem d_M_sample_139 : decode b_M_sample 139 = .ok (.getfield 59, 3) := by decide +kernel
theorem d_M_sample_142 : decode b_M_sample 142 = .ok (.iload 5, 2) := by decide +kernel
theorem d_M_sample_144 : decode b_M_sample 144 = .ok (.iconst 2, 1) := by decide +kernel
theorem d_M_sample_145 : decode b_M_sample 145 = .ok (.iastore, 1) := by decide +kernel
theorem d_M_sample_146 : decode b_M_sample 146 = .ok (.iinc 5 1, 3) := by decide +kernel
theorem d_M_sample_149 : decode b_M_sample 149 = .ok (.goto (-42), 3) := by decide +kernel
theorem d_M_sample_152 : decode b_M_sample 152 = .ok (.aload_n 0, 1) := by decide +kernel
theorem d_M_sample_153 : decode b_M_sample 153 = .ok (.iload 4, 2) := by decide +kernel
theorem d_M_sample_155 : decode b_M_sample 155 = .ok (.invokevirtual 118, 3) := by decide +kernel
theorem d_M_sample_158 : decode b_M_sample 158 = .ok (.ireturn, 1) := by decide +kernel
theorem d_M_openSamples_0 : decode b_M_openSamples 0 = .ok (.aload_n 0, 1) := by decide +kernel
theorem d_M_openSamples_1 : decode b_M_openSamples 1 = .ok (.getfield 41, 3) := by decide +kernel
theorem d_M_openSamples_4 : decode b_M_openSamples 4 = .ok (.iload_n 1, 1) := by decide +kernel
theorem d_M_openSamples_5 : decode b_M_openSamples 5 = .ok (.iaload, 1) := by decide +kernel
theorem d_M_openSamples_6 : decode b_M_openSamples 6 = .ok (.aload_n 0, 1) := by decide +kernel
theorem d_M_openSamples_7 : decode b_M_openSamples 7 = .ok (.getfield 44, 3) := by decide +kernel
theorem d_M_openSamples_10 : decode b_M_openSamples 10 = .ok (.iload_n 1, 1) := by decide +kernel
theorem d_M_openSamples_11 : decode b_M_openSamples 11 = .ok (.iaload, 1) := by decide +kernel
theorem d_M_openSamples_12 : decode b_M_openSamples 12 = .ok (.if_icmp .le 19, 3) := by decide +kernel
theorem d_M_openSamples_15 : decode b_M_openSamples 15 = .ok (.aload_n 0, 1) := by decide +kernel
theorem d_M_openSamples_16 : decode b_M_openSamples 16 = .ok (.getfield 41, 3) := by decide +kernel
theorem d_M_openSamples_19 : decode b_M_openSamples 19 = .ok (.iload_n 1, 1) := by decide +kernel
theorem d_M_openSamples_20 : decode b_M_openSamples 20 = .ok (.iaload, 1) := by decide +kernel
theorem d_M_openSamples_21 : decode b_M_openSamples 21 = .ok (.aload_n 0, 1) := by decide +kernel
theorem d_M_openSamples_22 : decode b_M_openSamples 22 = .ok (.getfield 44, 3) := by decide +kernel
theorem d_M_openSamples_25 : decode b_M_openSamples 25 = .ok (.iload_n 1, 1) := by decide +kernel
theorem d_M_openSamples_26 : decode b_M_openSamples 26 = .ok (.iaload, 1) := by decide +kernel
theorem d_M_openSamples_27 : decode b_M_openSamples 27 = .ok (.isub, 1) := by decide +kernel
theorem d_M_openSamples_28 : decode b_M_openSamples 28 = .ok (.goto 4, 3) := by decide +kernel
theorem d_M_openSamples_31 : decode b_M_openSamples 31 = .ok (.iconst 0, 1) := by decide +kernel
theorem d_M_openSamples_32 : decode b_M_openSamples 32 = .ok (.ireturn, 1) := by decide +kernel
theorem d_M_date_0 : decode b_M_date 0 = .ok (.aload_n 0, 1) := by decide +kernel
theorem d_M_date_1 : decode b_M_date 1 = .ok (.aload_n 0, 1) := by decide +kernel
theorem d_M_date_2 : decode b_M_date 2 = .ok (.iload_n 1, 1) := by decide +kernel
theorem d_M_date_3 : decode b_M_date 3 = .ok (.invokevirtual 115, 3) := by decide +kernel
theorem d_M_date_6 : decode b_M_date 6 = .ok (.ifCond .ne 7, 3) := by decide +kernel
theorem d_M_date_9 : decode b_M_date 9 = .ok (.iconst 1, 1) := by decide +kernel
theorem d_M_date_10 : decode b_M_date 10 = .ok (.goto 19, 3) := by decide +kernel
theorem d_M_date_13 : decode b_M_date 13 = .ok (.iload_n 2, 1) := by decide +kernel
theorem d_M_date_14 : decode b_M_date 14 = .ok (.iconst 0, 1) := by decide +kernel
theorem d_M_date_15 : decode b_M_date 15 = .ok (.sipush 10000, 3) := by decide +kernel
theorem d_M_date_18 : decode b_M_date 18 = .ok (.invokestatic 90, 3) := by decide +kernel
theorem d_M_date_21 : decode b_M_date 21 = .ok (.ifCond .ne 7, 3) := by decide +kernel
theorem d_M_date_24 : decode b_M_date 24 = .ok (.iconst 2, 1) := by decide +kernel
theorem d_M_date_25 : decode b_M_date 25 = .ok (.goto 4, 3) := by decide +kernel
theorem d_M_date_28 : decode b_M_date 28 = .ok (.iconst 0, 1) := by decide +kernel
theorem d_M_date_29 : decode b_M_date 29 = .ok (.putfield 83, 3) := by decide +kernel
theorem d_M_date_32 : decode b_M_date 32 = .ok (.aload_n 0, 1) := by decide +kernel
theorem d_M_date_33 : decode b_M_date 33 = .ok (.getfield 83, 3) := by decide +kernel
theorem d_M_date_36 : decode b_M_date 36 = .ok (.ifCond .ne 36, 3) := by decide +kernel
theorem d_M_date_39 : decode b_M_date 39 = .ok (.aload_n 0, 1) := by decide +kernel
theorem d_M_date_40 : decode b_M_date 40 = .ok (.aload_n 0, 1) := by decide +kernel
theorem d_M_date_41 : decode b_M_date 41 = .ok (.getfield 59, 3) := by decide +kernel
theorem d_M_date_44 : decode b_M_date 44 = .ok (.iload_n 1, 1) := by decide +kernel
theorem d_M_date_45 : decode b_M_date 45 = .ok (.iaload, 1) := by decide +kernel
theorem d_M_date_46 : decode b_M_date 46 = .ok (.iconst 1, 1) := by decide +kernel
theorem d_M_date_47 : decode b_M_date 47 = .ok (.if_icmp .eq 17, 3) := by decide +kernel
theorem d_M_date_50 : decode b_M_date 50 = .ok (.aload_n 0, 1) := by decide +kernel
theorem d_M_date_51 : decode b_M_date 51 = .ok (.getfield 50, 3) := by decide +kernel
theorem d_M_date_54 : decode b_M_date 54 = .ok (.aload_n 0, 1) := by decide +kernel
theorem d_M_date_55 : decode b_M_date 55 = .ok (.getfield 56, 3) := by decide +kernel
theorem d_M_date_58 : decode b_M_date 58 = .ok (.iload_n 1, 1) := by decide +kernel
theorem d_M_date_59 : decode b_M_date 59 = .ok (.iaload, 1) := by decide +kernel
theorem d_M_date_60 : decode b_M_date 60 = .ok (.baload, 1) := by decide +kernel
theorem d_M_date_61 : decode b_M_date 61 = .ok (.ifCond .eq 7, 3) := by decide +kernel
theorem d_M_date_64 : decode b_M_date 64 = .ok (.iconst 3, 1) := by decide +kernel
theorem d_M_date_65 : decode b_M_date 65 = .ok (.goto 4, 3) := by decide +kernel
theorem d_M_date_68 : decode b_M_date 68 = .ok (.iconst 0, 1) := by decide +kernel
theorem d_M_date_69 : decode b_M_date 69 = .ok (.putfield 83, 3) := by decide +kernel
theorem d_M_date_72 : decode b_M_date 72 = .ok (.aload_n 0, 1) := by decide +kernel
theorem d_M_date_73 : decode b_M_date 73 = .ok (.getfield 83, 3) := by decide +kernel
theorem d_M_date_76 : decode b_M_date 76 = .ok (.ifCond .le 5, 3) := by decide +kernel
theorem d_M_date_79 : decode b_M_date 79 = .ok (.iconst 0, 1) := by decide +kernel
theorem d_M_date_80 : decode b_M_date 80 = .ok (.ireturn, 1) := by decide +kernel
theorem d_M_date_81 : decode b_M_date 81 = .ok (.aload_n 0, 1) := by decide +kernel
theorem d_M_date_82 : decode b_M_date 82 = .ok (.getfield 68, 3) := by decide +kernel
theorem d_M_date_85 : decode b_M_date 85 = .ok (.iload_n 1, 1) := by decide +kernel
theorem d_M_date_86 : decode b_M_date 86 = .ok (.iload_n 2, 1) := by decide +kernel
theorem d_M_date_87 : decode b_M_date 87 = .ok (.iastore, 1) := by decide +kernel
theorem d_M_date_88 : decode b_M_date 88 = .ok (.aload_n 0, 1) := by decide +kernel
theorem d_M_date_89 : decode b_M_date 89 = .ok (.getfield 59, 3) := by decide +kernel
theorem d_M_date_92 : decode b_M_date 92 = .ok (.iload_n 1, 1) := by decide +kernel
theorem d_M_date_93 : decode b_M_date 93 = .ok (.iload_n 2, 1) := by decide +kernel
theorem d_M_date_94 : decode b_M_date 94 = .ok (.aload_n 0, 1) := by decide +kernel
theorem d_M_date_95 : decode b_M_date 95 = .ok (.getfield 121, 3) := by decide +kernel
theorem d_M_date_98 : decode b_M_date 98 = .ok (.if_icmp .ge 7, 3) := by decide +kernel
theorem d_M_date_101 : decode b_M_date 101 = .ok (.iconst 3, 1) := by decide +kernel
theorem d_M_date_102 : decode b_M_date 102 = .ok (.goto 8, 3) := by decide +kernel
theorem d_M_date_105 : decode b_M_date 105 = .ok (.aload_n 0, 1) := by decide +kernel
theorem d_M_date_106 : decode b_M_date 106 = .ok (.iload_n 1, 1) := by decide +kernel
theorem d_M_date_107 : decode b_M_date 107 = .ok (.invokevirtual 124, 3) := by decide +kernel
theorem d_M_date_110 : decode b_M_date 110 = .ok (.iastore, 1) := by decide +kernel
theorem d_M_date_111 : decode b_M_date 111 = .ok (.iload_n 2, 1) := by decide +kernel
theorem d_M_date_112 : decode b_M_date 112 = .ok (.aload_n 0, 1) := by decide +kernel
theorem d_M_date_113 : decode b_M_date 113 = .ok (.getfield 121, 3) := by decide +kernel
theorem d_M_date_116 : decode b_M_date 116 = .ok (.if_icmp .ge 7, 3) := by decide +kernel
theorem d_M_date_119 : decode b_M_date 119 = .ok (.iconst 2, 1) := by decide +kernel
theorem d_M_date_120 : decode b_M_date 120 = .ok (.goto 4, 3) := by decide +kernel
theorem d_M_date_123 : decode b_M_date 123 = .ok (.iconst 1, 1) := by decide +kernel
theorem d_M_date_124 : decode b_M_date 124 = .ok (.ireturn, 1) := by decide +kernel
theorem d_M_plainState_0 : decode b_M_plainState 0 = .ok (.aload_n 0, 1) := by decide +kernel
theorem d_M_plainState_1 : decode b_M_plainState 1 = .ok (.getfield 47, 3) := by decide +kernel
theorem d_M_plainState_4 : decode b_M_plainState 4 = .ok (.aload_n 0, 1) := by decide +kernel
theorem d_M_plainState_5 : decode b_M_plainState 5 = .ok (.getfield 56, 3) := by decide +kernel
theorem d_M_plainState_8 : decode b_M_plainState 8 = .ok (.iload_n 1, 1) := by decide +kernel
theorem d_M_plainState_9 : decode b_M_plainState 9 = .ok (.iaload, 1) := by decide +kernel
theorem d_M_plainState_10 : decode b_M_plainState 10 = .ok (.baload, 1) := by decide +kernel
theorem d_M_plainState_11 : decode b_M_plainState 11 = .ok (.ifCond .eq 7, 3) := by decide +kernel
theorem d_M_plainState_14 : decode b_M_plainState 14 = .ok (.iconst 2, 1) := by decide +kernel
theorem d_M_plainState_15 : decode b_M_plainState 15 = .ok (.goto 4, 3) := by decide +kernel
theorem d_M_plainState_18 : decode b_M_plainState 18 = .ok (.iconst 0, 1) := by decide +kernel
theorem d_M_plainState_19 : decode b_M_plainState 19 = .ok (.ireturn, 1) := by decide +kernel
theorem d_M_take_0 : decode b_M_take 0 = .ok (.aload_n 0, 1) := by decide +kernel
theorem d_M_take_1 : decode b_M_take 1 = .ok (.aload_n 0, 1) := by decide +kernel
theorem d_M_take_2 : decode b_M_take 2 = .ok (.iload_n 1, 1) := by decide +kernel
theorem d_M_take_3 : decode b_M_take 3 = .ok (.invokevirtual 115, 3) := by decide +kernel
theorem d_M_take_6 : decode b_M_take 6 = .ok (.ifCond .ne 7, 3) := by decide +kernel
theorem d_M_take_9 : decode b_M_take 9 = .ok (.iconst 1, 1) := by decide +kernel
theorem d_M_take_10 : decode b_M_take 10 = .ok (.goto 15, 3) := by decide +kernel
theorem d_M_take_13 : decode b_M_take 13 = .ok (.iload_n 2, 1) := by decide +kernel
theorem d_M_take_14 : decode b_M_take 14 = .ok (.invokestatic 104, 3) := by decide +kernel
theorem d_M_take_17 : decode b_M_take 17 = .ok (.ifCond .ne 7, 3) := by decide +kernel
theorem d_M_take_20 : decode b_M_take 20 = .ok (.iconst 2, 1) := by decide +kernel
theorem d_M_take_21 : decode b_M_take 21 = .ok (.goto 4, 3) := by decide +kernel
theorem d_M_take_24 : decode b_M_take 24 = .ok (.iconst 0, 1) := by decide +kernel
theorem d_M_take_25 : decode b_M_take 25 = .ok (.putfield 83, 3) := by decide +kernel
theorem d_M_take_28 : decode b_M_take 28 = .ok (.aload_n 0, 1) := by decide +kernel
theorem d_M_take_29 : decode b_M_take 29 = .ok (.getfield 83, 3) := by decide +kernel
theorem d_M_take_32 : decode b_M_take 32 = .ok (.ifCond .ne 31, 3) := by decide +kernel
theorem d_M_take_35 : decode b_M_take 35 = .ok (.aload_n 0, 1) := by decide +kernel
theorem d_M_take_36 : decode b_M_take 36 = .ok (.aload_n 0, 1) := by decide +kernel
theorem d_M_take_37 : decode b_M_take 37 = .ok (.getfield 59, 3) := by decide +kernel
theorem d_M_take_40 : decode b_M_take 40 = .ok (.iload_n 1, 1) := by decide +kernel
theorem d_M_take_41 : decode b_M_take 41 = .ok (.iaload, 1) := by decide +kernel
theorem d_M_take_42 : decode b_M_take 42 = .ok (.iconst 3, 1) := by decide +kernel
theorem d_M_take_43 : decode b_M_take 43 = .ok (.if_icmp .ne 12, 3) := by decide +kernel
theorem d_M_take_46 : decode b_M_take 46 = .ok (.aload_n 0, 1) := by decide +kernel
theorem d_M_take_47 : decode b_M_take 47 = .ok (.getfield 7, 3) := by decide +kernel
theorem d_M_take_50 : decode b_M_take 50 = .ok (.iload_n 2, 1) := by decide +kernel
theorem d_M_take_51 : decode b_M_take 51 = .ok (.baload, 1) := by decide +kernel
theorem d_M_take_52 : decode b_M_take 52 = .ok (.ifCond .ne 7, 3) := by decide +kernel
theorem d_M_take_55 : decode b_M_take 55 = .ok (.iconst 3, 1) := by decide +kernel
theorem d_M_take_56 : decode b_M_take 56 = .ok (.goto 4, 3) := by decide +kernel
theorem d_M_take_59 : decode b_M_take 59 = .ok (.iconst 0, 1) := by decide +kernel
theorem d_M_take_60 : decode b_M_take 60 = .ok (.putfield 83, 3) := by decide +kernel
theorem d_M_take_63 : decode b_M_take 63 = .ok (.aload_n 0, 1) := by decide +kernel
theorem d_M_take_64 : decode b_M_take 64 = .ok (.getfield 83, 3) := by decide +kernel
theorem d_M_take_67 : decode b_M_take 67 = .ok (.ifCond .le 5, 3) := by decide +kernel
theorem d_M_take_70 : decode b_M_take 70 = .ok (.iconst 0, 1) := by decide +kernel
theorem d_M_take_71 : decode b_M_take 71 = .ok (.ireturn, 1) := by decide +kernel
theorem d_M_take_72 : decode b_M_take 72 = .ok (.aload_n 0, 1) := by decide +kernel
theorem d_M_take_73 : decode b_M_take 73 = .ok (.getfield 59, 3) := by decide +kernel
theorem d_M_take_76 : decode b_M_take 76 = .ok (.iload_n 1, 1) := by decide +kernel
theorem d_M_take_77 : decode b_M_take 77 = .ok (.aload_n 0, 1) := by decide +kernel
theorem d_M_take_78 : decode b_M_take 78 = .ok (.iload_n 1, 1) := by decide +kernel
theorem d_M_take_79 : decode b_M_take 79 = .ok (.invokevirtual 124, 3) := by decide +kernel
theorem d_M_take_82 : decode b_M_take 82 = .ok (.iastore, 1) := by decide +kernel
theorem d_M_take_83 : decode b_M_take 83 = .ok (.aload_n 0, 1) := by decide +kernel
theorem d_M_take_84 : decode b_M_take 84 = .ok (.getfield 59, 3) := by decide +kernel
theorem d_M_take_87 : decode b_M_take 87 = .ok (.iload_n 1, 1) := by decide +kernel
theorem d_M_take_88 : decode b_M_take 88 = .ok (.iaload, 1) := by decide +kernel
theorem d_M_take_89 : decode b_M_take 89 = .ok (.ireturn, 1) := by decide +kernel
theorem d_M_label_0 : decode b_M_label 0 = .ok (.aload_n 0, 1) := by decide +kernel
theorem d_M_label_1 : decode b_M_label 1 = .ok (.aload_n 0, 1) := by decide +kernel
theorem d_M_label_2 : decode b_M_label 2 = .ok (.iload_n 1, 1) := by decide +kernel
theorem d_M_label_3 : decode b_M_label 3 = .ok (.invokevirtual 115, 3) := by decide +kernel
theorem d_M_label_6 : decode b_M_label 6 = .ok (.ifCond .eq 7, 3) := by decide +kernel
theorem d_M_label_9 : decode b_M_label 9 = .ok (.iconst 0, 1) := by decide +kernel
theorem d_M_label_10 : decode b_M_label 10 = .ok (.goto 4, 3) := by decide +kernel
theorem d_M_label_13 : decode b_M_label 13 = .ok (.iconst 1, 1) := by decide +kernel
theorem d_M_label_14 : decode b_M_label 14 = .ok (.putfield 83, 3) := by decide +kernel
theorem d_M_label_17 : decode b_M_label 17 = .ok (.aload_n 0, 1) := by decide +kernel
theorem d_M_label_18 : decode b_M_label 18 = .ok (.getfield 83, 3) := by decide +kernel
theorem d_M_label_21 : decode b_M_label 21 = .ok (.ifCond .le 5, 3) := by decide +kernel
theorem d_M_label_24 : decode b_M_label 24 = .ok (.iconst 0, 1) := by decide +kernel
theorem d_M_label_25 : decode b_M_label 25 = .ok (.ireturn, 1) := by decide +kernel
theorem d_M_label_26 : decode b_M_label 26 = .ok (.aload_n 0, 1) := by decide +kernel
theorem d_M_label_27 : decode b_M_label 27 = .ok (.getfield 74, 3) := by decide +kernel
theorem d_M_label_30 : decode b_M_label 30 = .ok (.iload_n 1, 1) := by decide +kernel
theorem d_M_label_31 : decode b_M_label 31 = .ok (.iaload, 1) := by decide +kernel
theorem d_M_label_32 : decode b_M_label 32 = .ok (.ifCond .ne 43, 3) := by decide +kernel
theorem d_M_label_35 : decode b_M_label 35 = .ok (.aload_n 0, 1) := by decide +kernel
theorem d_M_label_36 : decode b_M_label 36 = .ok (.dup, 1) := by decide +kernel
theorem d_M_label_37 : decode b_M_label 37 = .ok (.getfield 127, 3) := by decide +kernel
theorem d_M_label_40 : decode b_M_label 40 = .ok (.iconst 1, 1) := by decide +kernel
theorem d_M_label_41 : decode b_M_label 41 = .ok (.iadd, 1) := by decide +kernel
theorem d_M_label_42 : decode b_M_label 42 = .ok (.putfield 127, 3) := by decide +kernel
theorem d_M_label_45 : decode b_M_label 45 = .ok (.aload_n 0, 1) := by decide +kernel
theorem d_M_label_46 : decode b_M_label 46 = .ok (.getfield 74, 3) := by decide +kernel
theorem d_M_label_49 : decode b_M_label 49 = .ok (.iload_n 1, 1) := by decide +kernel
theorem d_M_label_50 : decode b_M_label 50 = .ok (.ldc 130, 2) := by decide +kernel
theorem d_M_label_52 : decode b_M_label 52 = .ok (.aload_n 0, 1) := by decide +kernel
theorem d_M_label_53 : decode b_M_label 53 = .ok (.getfield 13, 3) := by decide +kernel
theorem d_M_label_56 : decode b_M_label 56 = .ok (.aload_n 0, 1) := by decide +kernel
theorem d_M_label_57 : decode b_M_label 57 = .ok (.getfield 56, 3) := by decide +kernel
theorem d_M_label_60 : decode b_M_label 60 = .ok (.iload_n 1, 1) := by decide +kernel
theorem d_M_label_61 : decode b_M_label 61 = .ok (.iaload, 1) := by decide +kernel
theorem d_M_label_62 : decode b_M_label 62 = .ok (.iconst 4, 1) := by decide +kernel
theorem d_M_label_63 : decode b_M_label 63 = .ok (.idiv, 1) := by decide +kernel
theorem d_M_label_64 : decode b_M_label 64 = .ok (.iaload, 1) := by decide +kernel
theorem d_M_label_65 : decode b_M_label 65 = .ok (.imul, 1) := by decide +kernel
theorem d_M_label_66 : decode b_M_label 66 = .ok (.aload_n 0, 1) := by decide +kernel
theorem d_M_label_67 : decode b_M_label 67 = .ok (.getfield 127, 3) := by decide +kernel
theorem d_M_label_70 : decode b_M_label 70 = .ok (.iadd, 1) := by decide +kernel
theorem d_M_label_71 : decode b_M_label 71 = .ok (.invokestatic 131, 3) := by decide +kernel
theorem d_M_label_74 : decode b_M_label 74 = .ok (.iastore, 1) := by decide +kernel
theorem d_M_label_75 : decode b_M_label 75 = .ok (.aload_n 0, 1) := by decide +kernel
theorem d_M_label_76 : decode b_M_label 76 = .ok (.getfield 77, 3) := by decide +kernel
theorem d_M_label_79 : decode b_M_label 79 = .ok (.iload_n 1, 1) := by decide +kernel
theorem d_M_label_80 : decode b_M_label 80 = .ok (.dup2, 1) := by decide +kernel
theorem d_M_label_81 : decode b_M_label 81 = .ok (.iaload, 1) := by decide +kernel
theorem d_M_label_82 : decode b_M_label 82 = .ok (.iconst 1, 1) := by decide +kernel
theorem d_M_label_83 : decode b_M_label 83 = .ok (.iadd, 1) := by decide +kernel
theorem d_M_label_84 : decode b_M_label 84 = .ok (.iastore, 1) := by decide +kernel
theorem d_M_label_85 : decode b_M_label 85 = .ok (.aload_n 0, 1) := by decide +kernel
theorem d_M_label_86 : decode b_M_label 86 = .ok (.getfield 74, 3) := by decide +kernel
theorem d_M_label_89 : decode b_M_label 89 = .ok (.iload_n 1, 1) := by decide +kernel
theorem d_M_label_90 : decode b_M_label 90 = .ok (.iaload, 1) := by decide +kernel
theorem d_M_label_91 : decode b_M_label 91 = .ok (.ireturn, 1) := by decide +kernel
theorem d_M_checked_0 : decode b_M_checked 0 = .ok (.iconst 0, 1) := by decide +kernel
theorem d_M_checked_1 : decode b_M_checked 1 = .ok (.istore_n 1, 1) := by decide +kernel
theorem d_M_checked_2 : decode b_M_checked 2 = .ok (.iload_n 0, 1) := by decide +kernel
theorem d_M_checked_3 : decode b_M_checked 3 = .ok (.istore_n 2, 1) := by decide +kernel
theorem d_M_checked_4 : decode b_M_checked 4 = .ok (.bipush 6, 2) := by decide +kernel
theorem d_M_checked_6 : decode b_M_checked 6 = .ok (.istore_n 3, 1) := by decide +kernel
theorem d_M_checked_7 : decode b_M_checked 7 = .ok (.iload_n 3, 1) := by decide +kernel
theorem d_M_checked_8 : decode b_M_checked 8 = .ok (.ifCond .le 34, 3) := by decide +kernel
theorem d_M_checked_11 : decode b_M_checked 11 = .ok (.iload_n 1, 1) := by decide +kernel
theorem d_M_checked_12 : decode b_M_checked 12 = .ok (.iload_n 3, 1) := by decide +kernel
theorem d_M_checked_13 : decode b_M_checked 13 = .ok (.iconst 2, 1) := by decide +kernel
theorem d_M_checked_14 : decode b_M_checked 14 = .ok (.irem, 1) := by decide +kernel
theorem d_M_checked_15 : decode b_M_checked 15 = .ok (.iconst 1, 1) := by decide +kernel
theorem d_M_checked_16 : decode b_M_checked 16 = .ok (.if_icmp .ne 7, 3) := by decide +kernel
theorem d_M_checked_19 : decode b_M_checked 19 = .ok (.iconst 3, 1) := by decide +kernel
theorem d_M_checked_20 : decode b_M_checked 20 = .ok (.goto 4, 3) := by decide +kernel
theorem d_M_checked_23 : decode b_M_checked 23 = .ok (.iconst 1, 1) := by decide +kernel
theorem d_M_checked_24 : decode b_M_checked 24 = .ok (.iload_n 2, 1) := by decide +kernel
theorem d_M_checked_25 : decode b_M_checked 25 = .ok (.bipush 10, 2) := by decide +kernel
theorem d_M_checked_27 : decode b_M_checked 27 = .ok (.irem, 1) := by decide +kernel
theorem d_M_checked_28 : decode b_M_checked 28 = .ok (.imul, 1) := by decide +kernel
theorem d_M_checked_29 : decode b_M_checked 29 = .ok (.iadd, 1) := by decide +kernel
theorem d_M_checked_30 : decode b_M_checked 30 = .ok (.istore_n 1, 1) := by decide +kernel
theorem d_M_checked_31 : decode b_M_checked 31 = .ok (.iload_n 2, 1) := by decide +kernel
theorem d_M_checked_32 : decode b_M_checked 32 = .ok (.bipush 10, 2) := by decide +kernel
theorem d_M_checked_34 : decode b_M_checked 34 = .ok (.idiv, 1) := by decide +kernel
theorem d_M_checked_35 : decode b_M_checked 35 = .ok (.istore_n 2, 1) := by decide +kernel
theorem d_M_checked_36 : decode b_M_checked 36 = .ok (.iinc 3 (-1), 3) := by decide +kernel
theorem d_M_checked_39 : decode b_M_checked 39 = .ok (.goto (-32), 3) := by decide +kernel
theorem d_M_checked_42 : decode b_M_checked 42 = .ok (.bipush 10, 2) := by decide +kernel
theorem d_M_checked_44 : decode b_M_checked 44 = .ok (.iload_n 0, 1) := by decide +kernel
theorem d_M_checked_45 : decode b_M_checked 45 = .ok (.imul, 1) := by decide +kernel
theorem d_M_checked_46 : decode b_M_checked 46 = .ok (.bipush 10, 2) := by decide +kernel
theorem d_M_checked_48 : decode b_M_checked 48 = .ok (.iload_n 1, 1) := by decide +kernel
theorem d_M_checked_49 : decode b_M_checked 49 = .ok (.bipush 10, 2) := by decide +kernel
theorem d_M_checked_51 : decode b_M_checked 51 = .ok (.irem, 1) := by decide +kernel
theorem d_M_checked_52 : decode b_M_checked 52 = .ok (.isub, 1) := by decide +kernel
theorem d_M_checked_53 : decode b_M_checked 53 = .ok (.bipush 10, 2) := by decide +kernel
theorem d_M_checked_55 : decode b_M_checked 55 = .ok (.irem, 1) := by decide +kernel
theorem d_M_checked_56 : decode b_M_checked 56 = .ok (.iadd, 1) := by decide +kernel
theorem d_M_checked_57 : decode b_M_checked 57 = .ok (.ireturn, 1) := by decide +kernel
theorem d_M_again_0 : decode b_M_again 0 = .ok (.aload_n 0, 1) := by decide +kernel
theorem d_M_again_1 : decode b_M_again 1 = .ok (.aload_n 0, 1) := by decide +kernel
theorem d_M_again_2 : decode b_M_again 2 = .ok (.iload_n 1, 1) := by decide +kernel
theorem d_M_again_3 : decode b_M_again 3 = .ok (.invokevirtual 115, 3) := by decide +kernel
theorem d_M_again_6 : decode b_M_again 6 = .ok (.ifCond .ne 7, 3) := by decide +kernel
theorem d_M_again_9 : decode b_M_again 9 = .ok (.iconst 1, 1) := by decide +kernel
theorem d_M_again_10 : decode b_M_again 10 = .ok (.goto 4, 3) := by decide +kernel
theorem d_M_again_13 : decode b_M_again 13 = .ok (.iconst 0, 1) := by decide +kernel
theorem d_M_again_14 : decode b_M_again 14 = .ok (.putfield 83, 3) := by decide +kernel
theorem d_M_again_17 : decode b_M_again 17 = .ok (.aload_n 0, 1) := by decide +kernel
theorem d_M_again_18 : decode b_M_again 18 = .ok (.getfield 83, 3) := by decide +kernel
theorem d_M_again_21 : decode b_M_again 21 = .ok (.ifCond .ne 21, 3) := by decide +kernel
theorem d_M_again_24 : decode b_M_again 24 = .ok (.aload_n 0, 1) := by decide +kernel
theorem d_M_again_25 : decode b_M_again 25 = .ok (.aload_n 0, 1) := by decide +kernel
theorem d_M_again_26 : decode b_M_again 26 = .ok (.getfield 74, 3) := by decide +kernel
theorem d_M_again_29 : decode b_M_again 29 = .ok (.iload_n 1, 1) := by decide +kernel
theorem d_M_again_30 : decode b_M_again 30 = .ok (.iaload, 1) := by decide +kernel
theorem d_M_again_31 : decode b_M_again 31 = .ok (.ifCond .ne 7, 3) := by decide +kernel
theorem d_M_again_34 : decode b_M_again 34 = .ok (.iconst 2, 1) := by decide +kernel
theorem d_M_again_35 : decode b_M_again 35 = .ok (.goto 4, 3) := by decide +kernel
theorem d_M_again_38 : decode b_M_again 38 = .ok (.iconst 0, 1) := by decide +kernel
theorem d_M_again_39 : decode b_M_again 39 = .ok (.putfield 83, 3) := by decide +kernel
theorem d_M_again_42 : decode b_M_again 42 = .ok (.aload_n 0, 1) := by decide +kernel
theorem d_M_again_43 : decode b_M_again 43 = .ok (.getfield 83, 3) := by decide +kernel
theorem d_M_again_46 : decode b_M_again 46 = .ok (.ifCond .le 5, 3) := by decide +kernel
theorem d_M_again_49 : decode b_M_again 49 = .ok (.iconst 0, 1) := by decide +kernel
theorem d_M_again_50 : decode b_M_again 50 = .ok (.ireturn, 1) := by decide +kernel
theorem d_M_again_51 : decode b_M_again 51 = .ok (.aload_n 0, 1) := by decide +kernel
theorem d_M_again_52 : decode b_M_again 52 = .ok (.getfield 77, 3) := by decide +kernel
theorem d_M_again_55 : decode b_M_again 55 = .ok (.iload_n 1, 1) := by decide +kernel
theorem d_M_again_56 : decode b_M_again 56 = .ok (.dup2, 1) := by decide +kernel
theorem d_M_again_57 : decode b_M_again 57 = .ok (.iaload, 1) := by decide +kernel
theorem d_M_again_58 : decode b_M_again 58 = .ok (.iconst 1, 1) := by decide +kernel
theorem d_M_again_59 : decode b_M_again 59 = .ok (.iadd, 1) := by decide +kernel
theorem d_M_again_60 : decode b_M_again 60 = .ok (.iastore, 1) := by decide +kernel
theorem d_M_again_61 : decode b_M_again 61 = .ok (.aload_n 0, 1) := by decide +kernel
theorem d_M_again_62 : decode b_M_again 62 = .ok (.getfield 77, 3) := by decide +kernel
theorem d_M_again_65 : decode b_M_again 65 = .ok (.iload_n 1, 1) := by decide +kernel
theorem d_M_again_66 : decode b_M_again 66 = .ok (.iaload, 1) := by decide +kernel
theorem d_M_again_67 : decode b_M_again 67 = .ok (.ireturn, 1) := by decide +kernel
theorem d_M_close_0 : decode b_M_close 0 = .ok (.aload_n 0, 1) := by decide +kernel
theorem d_M_close_1 : decode b_M_close 1 = .ok (.aload_n 0, 1) := by decide +kernel
theorem d_M_close_2 : decode b_M_close 2 = .ok (.iload_n 1, 1) := by decide +kernel
theorem d_M_close_3 : decode b_M_close 3 = .ok (.iload_n 2, 1) := by decide +kernel
theorem d_M_close_4 : decode b_M_close 4 = .ok (.invokevirtual 107, 3) := by decide +kernel
theorem d_M_close_7 : decode b_M_close 7 = .ok (.ifCond .ne 7, 3) := by decide +kernel
theorem d_M_close_10 : decode b_M_close 10 = .ok (.iconst 1, 1) := by decide +kernel
theorem d_M_close_11 : decode b_M_close 11 = .ok (.goto 4, 3) := by decide +kernel
theorem d_M_close_14 : decode b_M_close 14 = .ok (.iconst 0, 1) := by decide +kernel
theorem d_M_close_15 : decode b_M_close 15 = .ok (.putfield 83, 3) := by decide +kernel
theorem d_M_close_18 : decode b_M_close 18 = .ok (.aload_n 0, 1) := by decide +kernel
theorem d_M_close_19 : decode b_M_close 19 = .ok (.getfield 83, 3) := by decide +kernel
theorem d_M_close_22 : decode b_M_close 22 = .ok (.ifCond .le 5, 3) := by decide +kernel
theorem d_M_close_25 : decode b_M_close 25 = .ok (.iconst 0, 1) := by decide +kernel
theorem d_M_close_26 : decode b_M_close 26 = .ok (.ireturn, 1) := by decide +kernel
theorem d_M_close_27 : decode b_M_close 27 = .ok (.iconst 4, 1) := by decide +kernel
theorem d_M_close_28 : decode b_M_close 28 = .ok (.iload_n 1, 1) := by decide +kernel
theorem d_M_close_29 : decode b_M_close 29 = .ok (.imul, 1) := by decide +kernel
theorem d_M_close_30 : decode b_M_close 30 = .ok (.iload_n 2, 1) := by decide +kernel
theorem d_M_close_31 : decode b_M_close 31 = .ok (.iadd, 1) := by decide +kernel
theorem d_M_close_32 : decode b_M_close 32 = .ok (.istore_n 3, 1) := by decide +kernel
theorem d_M_close_33 : decode b_M_close 33 = .ok (.aload_n 0, 1) := by decide +kernel
theorem d_M_close_34 : decode b_M_close 34 = .ok (.aload_n 0, 1) := by decide +kernel
theorem d_M_close_35 : decode b_M_close 35 = .ok (.getfield 23, 3) := by decide +kernel
theorem d_M_close_38 : decode b_M_close 38 = .ok (.iload_n 1, 1) := by decide +kernel
theorem d_M_close_39 : decode b_M_close 39 = .ok (.iaload, 1) := by decide +kernel
theorem d_M_close_40 : decode b_M_close 40 = .ok (.iconst 1, 1) := by decide +kernel
theorem d_M_close_41 : decode b_M_close 41 = .ok (.if_icmp .ne 12, 3) := by decide +kernel
theorem d_M_close_44 : decode b_M_close 44 = .ok (.aload_n 0, 1) := by decide +kernel
theorem d_M_close_45 : decode b_M_close 45 = .ok (.getfield 50, 3) := by decide +kernel
theorem d_M_close_48 : decode b_M_close 48 = .ok (.iload_n 3, 1) := by decide +kernel
theorem d_M_close_49 : decode b_M_close 49 = .ok (.baload, 1) := by decide +kernel
theorem d_M_close_50 : decode b_M_close 50 = .ok (.ifCond .eq 7, 3) := by decide +kernel
theorem d_M_close_53 : decode b_M_close 53 = .ok (.iconst 2, 1) := by decide +kernel
theorem d_M_close_54 : decode b_M_close 54 = .ok (.goto 4, 3) := by decide +kernel
theorem d_M_close_57 : decode b_M_close 57 = .ok (.iconst 0, 1) := by decide +kernel
theorem d_M_close_58 : decode b_M_close 58 = .ok (.putfield 83, 3) := by decide +kernel
theorem d_M_close_61 : decode b_M_close 61 = .ok (.aload_n 0, 1) := by decide +kernel
theorem d_M_close_62 : decode b_M_close 62 = .ok (.getfield 83, 3) := by decide +kernel
theorem d_M_close_65 : decode b_M_close 65 = .ok (.ifCond .le 5, 3) := by decide +kernel
theorem d_M_close_68 : decode b_M_close 68 = .ok (.iconst 0, 1) := by decide +kernel
theorem d_M_close_69 : decode b_M_close 69 = .ok (.ireturn, 1) := by decide +kernel
theorem d_M_close_70 : decode b_M_close 70 = .ok (.aload_n 0, 1) := by decide +kernel
theorem d_M_close_71 : decode b_M_close 71 = .ok (.iload_n 3, 1) := by decide +kernel
theorem d_M_close_72 : decode b_M_close 72 = .ok (.invokevirtual 118, 3) := by decide +kernel
theorem d_M_close_75 : decode b_M_close 75 = .ok (.ifCond .le 5, 3) := by decide +kernel
theorem d_M_close_78 : decode b_M_close 78 = .ok (.iconst 2, 1) := by decide +kernel
theorem d_M_close_79 : decode b_M_close 79 = .ok (.ireturn, 1) := by decide +kernel
theorem d_M_close_80 : decode b_M_close 80 = .ok (.aload_n 0, 1) := by decide +kernel
theorem d_M_close_81 : decode b_M_close 81 = .ok (.iload_n 3, 1) := by decide +kernel
theorem d_M_close_82 : decode b_M_close 82 = .ok (.iconst 1, 1) := by decide +kernel
theorem d_M_close_83 : decode b_M_close 83 = .ok (.invokevirtual 134, 3) := by decide +kernel
theorem d_M_close_86 : decode b_M_close 86 = .ok (.ifCond .eq 5, 3) := by decide +kernel
theorem d_M_close_89 : decode b_M_close 89 = .ok (.iconst 3, 1) := by decide +kernel
theorem d_M_close_90 : decode b_M_close 90 = .ok (.ireturn, 1) := by decide +kernel
theorem d_M_close_91 : decode b_M_close 91 = .ok (.aload_n 0, 1) := by decide +kernel
theorem d_M_close_92 : decode b_M_close 92 = .ok (.iload_n 3, 1) := by decide +kernel
theorem d_M_close_93 : decode b_M_close 93 = .ok (.iconst 0, 1) := by decide +kernel
theorem d_M_close_94 : decode b_M_close 94 = .ok (.invokevirtual 134, 3) := by decide +kernel
theorem d_M_close_97 : decode b_M_close 97 = .ok (.ifCond .eq 5, 3) := by decide +kernel
theorem d_M_close_100 : decode b_M_close 100 = .ok (.iconst 4, 1) := by decide +kernel
theorem d_M_close_101 : decode b_M_close 101 = .ok (.ireturn, 1) := by decide +kernel
theorem d_M_close_102 : decode b_M_close 102 = .ok (.aload_n 0, 1) := by decide +kernel
theorem d_M_close_103 : decode b_M_close 103 = .ok (.getfield 50, 3) := by decide +kernel
theorem d_M_close_106 : decode b_M_close 106 = .ok (.iload_n 3, 1) := by decide +kernel
theorem d_M_close_107 : decode b_M_close 107 = .ok (.iconst 1, 1) := by decide +kernel
theorem d_M_close_108 : decode b_M_close 108 = .ok (.bastore, 1) := by decide +kernel
theorem d_M_close_109 : decode b_M_close 109 = .ok (.aload_n 0, 1) := by decide +kernel
theorem d_M_close_110 : decode b_M_close 110 = .ok (.dup, 1) := by decide +kernel
theorem d_M_close_111 : decode b_M_close 111 = .ok (.getfield 138, 3) := by decide +kernel
theorem d_M_close_114 : decode b_M_close 114 = .ok (.iconst 1, 1) := by decide +kernel
theorem d_M_close_115 : decode b_M_close 115 = .ok (.iadd, 1) := by decide +kernel
theorem d_M_close_116 : decode b_M_close 116 = .ok (.putfield 138, 3) := by decide +kernel
theorem d_M_close_119 : decode b_M_close 119 = .ok (.aload_n 0, 1) := by decide +kernel
theorem d_M_close_120 : decode b_M_close 120 = .ok (.getfield 38, 3) := by decide +kernel
theorem d_M_close_123 : decode b_M_close 123 = .ok (.iload_n 3, 1) := by decide +kernel
theorem d_M_close_124 : decode b_M_close 124 = .ok (.iaload, 1) := by decide +kernel
theorem d_M_close_125 : decode b_M_close 125 = .ok (.aload_n 0, 1) := by decide +kernel
theorem d_M_close_126 : decode b_M_close 126 = .ok (.getfield 32, 3) := by decide +kernel
theorem d_M_close_129 : decode b_M_close 129 = .ok (.iload_n 3, 1) := by decide +kernel
theorem d_M_close_130 : decode b_M_close 130 = .ok (.iaload, 1) := by decide +kernel
theorem d_M_close_131 : decode b_M_close 131 = .ok (.if_icmp .eq 23, 3) := by decide +kernel
theorem d_M_close_134 : decode b_M_close 134 = .ok (.aload_n 0, 1) := by decide +kernel
theorem d_M_close_135 : decode b_M_close 135 = .ok (.getfield 80, 3) := by decide +kernel
theorem d_M_close_138 : decode b_M_close 138 = .ok (.aload_n 0, 1) := by decide +kernel
theorem d_M_close_139 : decode b_M_close 139 = .ok (.getfield 141, 3) := by decide +kernel
theorem d_M_close_142 : decode b_M_close 142 = .ok (.iload_n 3, 1) := by decide +kernel
theorem d_M_close_143 : decode b_M_close 143 = .ok (.iastore, 1) := by decide +kernel
theorem d_M_close_144 : decode b_M_close 144 = .ok (.aload_n 0, 1) := by decide +kernel
theorem d_M_close_145 : decode b_M_close 145 = .ok (.dup, 1) := by decide +kernel
theorem d_M_close_146 : decode b_M_close 146 = .ok (.getfield 141, 3) := by decide +kernel
theorem d_M_close_149 : decode b_M_close 149 = .ok (.iconst 1, 1) := by decide +kernel
theorem d_M_close_150 : decode b_M_close 150 = .ok (.iadd, 1) := by decide +kernel
theorem d_M_close_151 : decode b_M_close 151 = .ok (.putfield 141, 3) := by decide +kernel
theorem d_M_close_154 : decode b_M_close 154 = .ok (.iconst 1, 1) := by decide +kernel
theorem d_M_close_155 : decode b_M_close 155 = .ok (.ireturn, 1) := by decide +kernel
theorem d_M_hasOne_0 : decode b_M_hasOne 0 = .ok (.iconst 1, 1) := by decide +kernel
theorem d_M_hasOne_1 : decode b_M_hasOne 1 = .ok (.istore_n 3, 1) := by decide +kernel
theorem d_M_hasOne_2 : decode b_M_hasOne 2 = .ok (.iload_n 3, 1) := by decide +kernel
theorem d_M_hasOne_3 : decode b_M_hasOne 3 = .ok (.aload_n 0, 1) := by decide +kernel
theorem d_M_hasOne_4 : decode b_M_hasOne 4 = .ok (.getfield 98, 3) := by decide +kernel
theorem d_M_hasOne_7 : decode b_M_hasOne 7 = .ok (.if_icmp .gt 60, 3) := by decide +kernel
theorem d_M_hasOne_10 : decode b_M_hasOne 10 = .ok (.aload_n 0, 1) := by decide +kernel
theorem d_M_hasOne_11 : decode b_M_hasOne 11 = .ok (.getfield 56, 3) := by decide +kernel
theorem d_M_hasOne_14 : decode b_M_hasOne 14 = .ok (.iload_n 3, 1) := by decide +kernel
theorem d_M_hasOne_15 : decode b_M_hasOne 15 = .ok (.iaload, 1) := by decide +kernel
theorem d_M_hasOne_16 : decode b_M_hasOne 16 = .ok (.iload_n 1, 1) := by decide +kernel
theorem d_M_hasOne_17 : decode b_M_hasOne 17 = .ok (.if_icmp .eq 6, 3) := by decide +kernel
theorem d_M_hasOne_20 : decode b_M_hasOne 20 = .ok (.goto 41, 3) := by decide +kernel
theorem d_M_hasOne_23 : decode b_M_hasOne 23 = .ok (.iload_n 2, 1) := by decide +kernel
theorem d_M_hasOne_24 : decode b_M_hasOne 24 = .ok (.ifCond .eq 16, 3) := by decide +kernel
theorem d_M_hasOne_27 : decode b_M_hasOne 27 = .ok (.aload_n 0, 1) := by decide +kernel
theorem d_M_hasOne_28 : decode b_M_hasOne 28 = .ok (.getfield 59, 3) := by decide +kernel
theorem d_M_hasOne_31 : decode b_M_hasOne 31 = .ok (.iload_n 3, 1) := by decide +kernel
theorem d_M_hasOne_32 : decode b_M_hasOne 32 = .ok (.iaload, 1) := by decide +kernel
theorem d_M_hasOne_33 : decode b_M_hasOne 33 = .ok (.iconst 3, 1) := by decide +kernel
theorem d_M_hasOne_34 : decode b_M_hasOne 34 = .ok (.if_icmp .ne 27, 3) := by decide +kernel
theorem d_M_hasOne_37 : decode b_M_hasOne 37 = .ok (.goto 22, 3) := by decide +kernel
theorem d_M_hasOne_40 : decode b_M_hasOne 40 = .ok (.aload_n 0, 1) := by decide +kernel
theorem d_M_hasOne_41 : decode b_M_hasOne 41 = .ok (.getfield 74, 3) := by decide +kernel
theorem d_M_hasOne_44 : decode b_M_hasOne 44 = .ok (.iload_n 3, 1) := by decide +kernel
theorem d_M_hasOne_45 : decode b_M_hasOne 45 = .ok (.iaload, 1) := by decide +kernel
theorem d_M_hasOne_46 : decode b_M_hasOne 46 = .ok (.ifCond .ne 15, 3) := by decide +kernel
theorem d_M_hasOne_49 : decode b_M_hasOne 49 = .ok (.aload_n 0, 1) := by decide +kernel
theorem d_M_hasOne_50 : decode b_M_hasOne 50 = .ok (.getfield 59, 3) := by decide +kernel
theorem d_M_hasOne_53 : decode b_M_hasOne 53 = .ok (.iload_n 3, 1) := by decide +kernel
theorem d_M_hasOne_54 : decode b_M_hasOne 54 = .ok (.iaload, 1) := by decide +kernel
theorem d_M_hasOne_55 : decode b_M_hasOne 55 = .ok (.iconst 1, 1) := by decide +kernel
theorem d_M_hasOne_56 : decode b_M_hasOne 56 = .ok (.if_icmp .eq 5, 3) := by decide +kernel
theorem d_M_hasOne_59 : decode b_M_hasOne 59 = .ok (.iconst 1, 1) := by decide +kernel
theorem d_M_hasOne_60 : decode b_M_hasOne 60 = .ok (.ireturn, 1) := by decide +kernel
theorem d_M_hasOne_61 : decode b_M_hasOne 61 = .ok (.iinc 3 1, 3) := by decide +kernel
theorem d_M_hasOne_64 : decode b_M_hasOne 64 = .ok (.goto (-62), 3) := by decide +kernel
theorem d_M_hasOne_67 : decode b_M_hasOne 67 = .ok (.iconst 0, 1) := by decide +kernel
theorem d_M_hasOne_68 : decode b_M_hasOne 68 = .ok (.ireturn, 1) := by decide +kernel
theorem d_M_closeAll_0 : decode b_M_closeAll 0 = .ok (.aload_n 0, 1) := by decide +kernel
theorem d_M_closeAll_1 : decode b_M_closeAll 1 = .ok (.aload_n 0, 1) := by decide +kernel
theorem d_M_closeAll_2 : decode b_M_closeAll 2 = .ok (.iload_n 1, 1) := by decide +kernel
theorem d_M_closeAll_3 : decode b_M_closeAll 3 = .ok (.invokevirtual 94, 3) := by decide +kernel
theorem d_M_closeAll_6 : decode b_M_closeAll 6 = .ok (.ifCond .ne 7, 3) := by decide +kernel
theorem d_M_closeAll_9 : decode b_M_closeAll 9 = .ok (.iconst 1, 1) := by decide +kernel
theorem d_M_closeAll_10 : decode b_M_closeAll 10 = .ok (.goto 4, 3) := by decide +kernel
theorem d_M_closeAll_13 : decode b_M_closeAll 13 = .ok (.iconst 0, 1) := by decide +kernel
theorem d_M_closeAll_14 : decode b_M_closeAll 14 = .ok (.putfield 83, 3) := by decide +kernel
theorem d_M_closeAll_17 : decode b_M_closeAll 17 = .ok (.aload_n 0, 1) := by decide +kernel
theorem d_M_closeAll_18 : decode b_M_closeAll 18 = .ok (.getfield 83, 3) := by decide +kernel
theorem d_M_closeAll_21 : decode b_M_closeAll 21 = .ok (.ifCond .ne 22, 3) := by decide +kernel
theorem d_M_closeAll_24 : decode b_M_closeAll 24 = .ok (.aload_n 0, 1) := by decide +kernel
theorem d_M_closeAll_25 : decode b_M_closeAll 25 = .ok (.aload_n 0, 1) := by decide +kernel
theorem d_M_closeAll_26 : decode b_M_closeAll 26 = .ok (.getfield 23, 3) := by decide +kernel
theorem d_M_closeAll_29 : decode b_M_closeAll 29 = .ok (.iload_n 1, 1) := by decide +kernel
theorem d_M_closeAll_30 : decode b_M_closeAll 30 = .ok (.iaload, 1) := by decide +kernel
theorem d_M_closeAll_31 : decode b_M_closeAll 31 = .ok (.iconst 1, 1) := by decide +kernel
theorem d_M_closeAll_32 : decode b_M_closeAll 32 = .ok (.if_icmp .eq 7, 3) := by decide +kernel
theorem d_M_closeAll_35 : decode b_M_closeAll 35 = .ok (.iconst 2, 1) := by decide +kernel
theorem d_M_closeAll_36 : decode b_M_closeAll 36 = .ok (.goto 4, 3) := by decide +kernel
theorem d_M_closeAll_39 : decode b_M_closeAll 39 = .ok (.iconst 0, 1) := by decide +kernel
theorem d_M_closeAll_40 : decode b_M_closeAll 40 = .ok (.putfield 83, 3) := by decide +kernel
theorem d_M_closeAll_43 : decode b_M_closeAll 43 = .ok (.aload_n 0, 1) := by decide +kernel
theorem d_M_closeAll_44 : decode b_M_closeAll 44 = .ok (.getfield 83, 3) := by decide +kernel
theorem d_M_closeAll_47 : decode b_M_closeAll 47 = .ok (.ifCond .le 5, 3) := by decide +kernel
theorem d_M_closeAll_50 : decode b_M_closeAll 50 = .ok (.iconst 0, 1) := by decide +kernel
theorem d_M_closeAll_51 : decode b_M_closeAll 51 = .ok (.ireturn, 1) := by decide +kernel
theorem d_M_closeAll_52 : decode b_M_closeAll 52 = .ok (.iconst 0, 1) := by decide +kernel
theorem d_M_closeAll_53 : decode b_M_closeAll 53 = .ok (.istore_n 2, 1) := by decide +kernel
theorem d_M_closeAll_54 : decode b_M_closeAll 54 = .ok (.iload_n 2, 1) := by decide +kernel
theorem d_M_closeAll_55 : decode b_M_closeAll 55 = .ok (.aload_n 0, 1) := by decide +kernel
theorem d_M_closeAll_56 : decode b_M_closeAll 56 = .ok (.getfield 20, 3) := by decide +kernel
theorem d_M_closeAll_59 : decode b_M_closeAll 59 = .ok (.iload_n 1, 1) := by decide +kernel
theorem d_M_closeAll_60 : decode b_M_closeAll 60 = .ok (.iaload, 1) := by decide +kernel
theorem d_M_closeAll_61 : decode b_M_closeAll 61 = .ok (.if_icmp .ge 26, 3) := by decide +kernel
theorem d_M_closeAll_64 : decode b_M_closeAll 64 = .ok (.aload_n 0, 1) := by decide +kernel
theorem d_M_closeAll_65 : decode b_M_closeAll 65 = .ok (.getfield 50, 3) := by decide +kernel
theorem d_M_closeAll_68 : decode b_M_closeAll 68 = .ok (.iconst 4, 1) := by decide +kernel
theorem d_M_closeAll_69 : decode b_M_closeAll 69 = .ok (.iload_n 1, 1) := by decide +kernel
theorem d_M_closeAll_70 : decode b_M_closeAll 70 = .ok (.imul, 1) := by decide +kernel
theorem d_M_closeAll_71 : decode b_M_closeAll 71 = .ok (.iload_n 2, 1) := by decide +kernel
theorem d_M_closeAll_72 : decode b_M_closeAll 72 = .ok (.iadd, 1) := by decide +kernel
theorem d_M_closeAll_73 : decode b_M_closeAll 73 = .ok (.baload, 1) := by decide +kernel
theorem d_M_closeAll_74 : decode b_M_closeAll 74 = .ok (.ifCond .ne 7, 3) := by decide +kernel
theorem d_M_closeAll_77 : decode b_M_closeAll 77 = .ok (.iconst (-1), 1) := by decide +kernel
theorem d_M_closeAll_78 : decode b_M_closeAll 78 = .ok (.iload_n 2, 1) := by decide +kernel
theorem d_M_closeAll_79 : decode b_M_closeAll 79 = .ok (.isub, 1) := by decide +kernel
theorem d_M_closeAll_80 : decode b_M_closeAll 80 = .ok (.ireturn, 1) := by decide +kernel
theorem d_M_closeAll_81 : decode b_M_closeAll 81 = .ok (.iinc 2 1, 3) := by decide +kernel
theorem d_M_closeAll_84 : decode b_M_closeAll 84 = .ok (.goto (-30), 3) := by decide +kernel
theorem d_M_closeAll_87 : decode b_M_closeAll 87 = .ok (.aload_n 0, 1) := by decide +kernel
theorem d_M_closeAll_88 : decode b_M_closeAll 88 = .ok (.getfield 23, 3) := by decide +kernel
theorem d_M_closeAll_91 : decode b_M_closeAll 91 = .ok (.iload_n 1, 1) := by decide +kernel
theorem d_M_closeAll_92 : decode b_M_closeAll 92 = .ok (.iconst 3, 1) := by decide +kernel
theorem d_M_closeAll_93 : decode b_M_closeAll 93 = .ok (.iastore, 1) := by decide +kernel
theorem d_M_closeAll_94 : decode b_M_closeAll 94 = .ok (.iconst 1, 1) := by decide +kernel
theorem d_M_closeAll_95 : decode b_M_closeAll 95 = .ok (.ireturn, 1) := by decide +kernel
theorem d_M_day_0 : decode b_M_day 0 = .ok (.aload_n 0, 1) := by decide +kernel
theorem d_M_day_1 : decode b_M_day 1 = .ok (.iload_n 1, 1) := by decide +kernel
theorem d_M_day_2 : decode b_M_day 2 = .ok (.iconst 0, 1) := by decide +kernel
theorem d_M_day_3 : decode b_M_day 3 = .ok (.sipush 10000, 3) := by decide +kernel
theorem d_M_day_6 : decode b_M_day 6 = .ok (.invokestatic 90, 3) := by decide +kernel
theorem d_M_day_9 : decode b_M_day 9 = .ok (.ifCond .ne 7, 3) := by decide +kernel
theorem d_M_day_12 : decode b_M_day 12 = .ok (.iconst 1, 1) := by decide +kernel
theorem d_M_day_13 : decode b_M_day 13 = .ok (.goto 16, 3) := by decide +kernel
theorem d_M_day_16 : decode b_M_day 16 = .ok (.iload_n 1, 1) := by decide +kernel
theorem d_M_day_17 : decode b_M_day 17 = .ok (.aload_n 0, 1) := by decide +kernel
theorem d_M_day_18 : decode b_M_day 18 = .ok (.getfield 121, 3) := by decide +kernel
theorem d_M_day_21 : decode b_M_day 21 = .ok (.if_icmp .ge 7, 3) := by decide +kernel
theorem d_M_day_24 : decode b_M_day 24 = .ok (.iconst 2, 1) := by decide +kernel
theorem d_M_day_25 : decode b_M_day 25 = .ok (.goto 4, 3) := by decide +kernel
theorem d_M_day_28 : decode b_M_day 28 = .ok (.iconst 0, 1) := by decide +kernel
theorem d_M_day_29 : decode b_M_day 29 = .ok (.putfield 83, 3) := by decide +kernel
theorem d_M_day_32 : decode b_M_day 32 = .ok (.aload_n 0, 1) := by decide +kernel
theorem d_M_day_33 : decode b_M_day 33 = .ok (.getfield 83, 3) := by decide +kernel
theorem d_M_day_36 : decode b_M_day 36 = .ok (.ifCond .ne 8, 3) := by decide +kernel
theorem d_M_day_39 : decode b_M_day 39 = .ok (.aload_n 0, 1) := by decide +kernel
theorem d_M_day_40 : decode b_M_day 40 = .ok (.iload_n 1, 1) := by decide +kernel
theorem d_M_day_41 : decode b_M_day 41 = .ok (.putfield 121, 3) := by decide +kernel
theorem d_M_day_44 : decode b_M_day 44 = .ok (.return_, 1) := by decide +kernel
theorem d_M_differ_0 : decode b_M_differ 0 = .ok (.aload_n 0, 1) := by decide +kernel
theorem d_M_differ_1 : decode b_M_differ 1 = .ok (.iload_n 1, 1) := by decide +kernel
theorem d_M_differ_2 : decode b_M_differ 2 = .ok (.iconst 0, 1) := by decide +kernel
theorem d_M_differ_3 : decode b_M_differ 3 = .ok (.aload_n 0, 1) := by decide +kernel
theorem d_M_differ_4 : decode b_M_differ 4 = .ok (.getfield 141, 3) := by decide +kernel
theorem d_M_differ_7 : decode b_M_differ 7 = .ok (.iconst 1, 1) := by decide +kernel
theorem d_M_differ_8 : decode b_M_differ 8 = .ok (.isub, 1) := by decide +kernel
theorem d_M_differ_9 : decode b_M_differ 9 = .ok (.invokestatic 90, 3) := by decide +kernel
theorem d_M_differ_12 : decode b_M_differ 12 = .ok (.ifCond .ne 7, 3) := by decide +kernel
theorem d_M_differ_15 : decode b_M_differ 15 = .ok (.iconst 1, 1) := by decide +kernel
theorem d_M_differ_16 : decode b_M_differ 16 = .ok (.goto 17, 3) := by decide +kernel
theorem d_M_differ_19 : decode b_M_differ 19 = .ok (.iload_n 2, 1) := by decide +kernel
theorem d_M_differ_20 : decode b_M_differ 20 = .ok (.iconst 0, 1) := by decide +kernel
theorem d_M_differ_21 : decode b_M_differ 21 = .ok (.iconst 2, 1) := by decide +kernel
theorem d_M_differ_22 : decode b_M_differ 22 = .ok (.invokestatic 90, 3) := by decide +kernel
theorem d_M_differ_25 : decode b_M_differ 25 = .ok (.ifCond .ne 7, 3) := by decide +kernel
theorem d_M_differ_28 : decode b_M_differ 28 = .ok (.iconst 2, 1) := by decide +kernel
theorem d_M_differ_29 : decode b_M_differ 29 = .ok (.goto 4, 3) := by decide +kernel
theorem d_M_differ_32 : decode b_M_differ 32 = .ok (.iconst 0, 1) := by decide +kernel
theorem d_M_differ_33 : decode b_M_differ 33 = .ok (.putfield 83, 3) := by decide +kernel
theorem d_M_differ_36 : decode b_M_differ 36 = .ok (.aload_n 0, 1) := by decide +kernel
theorem d_M_differ_37 : decode b_M_differ 37 = .ok (.getfield 83, 3) := by decide +kernel
theorem d_M_differ_40 : decode b_M_differ 40 = .ok (.ifCond .le 5, 3) := by decide +kernel
theorem d_M_differ_43 : decode b_M_differ 43 = .ok (.iconst 0, 1) := by decide +kernel
theorem d_M_differ_44 : decode b_M_differ 44 = .ok (.ireturn, 1) := by decide +kernel
theorem d_M_differ_45 : decode b_M_differ 45 = .ok (.aload_n 0, 1) := by decide +kernel
theorem d_M_differ_46 : decode b_M_differ 46 = .ok (.getfield 80, 3) := by decide +kernel
theorem d_M_differ_49 : decode b_M_differ 49 = .ok (.iload_n 1, 1) := by decide +kernel
theorem d_M_differ_50 : decode b_M_differ 50 = .ok (.iaload, 1) := by decide +kernel
theorem d_M_differ_51 : decode b_M_differ 51 = .ok (.istore_n 3, 1) := by decide +kernel
theorem d_M_differ_52 : decode b_M_differ 52 = .ok (.iload_n 2, 1) := by decide +kernel
theorem d_M_differ_53 : decode b_M_differ 53 = .ok (.ifCond .ne 9, 3) := by decide +kernel
theorem d_M_differ_56 : decode b_M_differ 56 = .ok (.iload_n 3, 1) := by decide +kernel
theorem d_M_differ_57 : decode b_M_differ 57 = .ok (.iconst 4, 1) := by decide +kernel
theorem d_M_differ_58 : decode b_M_differ 58 = .ok (.idiv, 1) := by decide +kernel
theorem d_M_differ_59 : decode b_M_differ 59 = .ok (.goto 27, 3) := by decide +kernel
theorem d_M_differ_62 : decode b_M_differ 62 = .ok (.iload_n 2, 1) := by decide +kernel
theorem d_M_differ_63 : decode b_M_differ 63 = .ok (.iconst 1, 1) := by decide +kernel
theorem d_M_differ_64 : decode b_M_differ 64 = .ok (.if_icmp .ne 9, 3) := by decide +kernel
theorem d_M_differ_67 : decode b_M_differ 67 = .ok (.iload_n 3, 1) := by decide +kernel
theorem d_M_differ_68 : decode b_M_differ 68 = .ok (.iconst 4, 1) := by decide +kernel
theorem d_M_differ_69 : decode b_M_differ 69 = .ok (.irem, 1) := by decide +kernel
theorem d_M_differ_70 : decode b_M_differ 70 = .ok (.goto 16, 3) := by decide +kernel
theorem d_M_differ_73 : decode b_M_differ 73 = .ok (.aload_n 0, 1) := by decide +kernel
theorem d_M_differ_74 : decode b_M_differ 74 = .ok (.getfield 38, 3) := by decide +kernel
theorem d_M_differ_77 : decode b_M_differ 77 = .ok (.iload_n 3, 1) := by decide +kernel
theorem d_M_differ_78 : decode b_M_differ 78 = .ok (.iaload, 1) := by decide +kernel
theorem d_M_differ_79 : decode b_M_differ 79 = .ok (.aload_n 0, 1) := by decide +kernel
theorem d_M_differ_80 : decode b_M_differ 80 = .ok (.getfield 32, 3) := by decide +kernel
theorem d_M_differ_83 : decode b_M_differ 83 = .ok (.iload_n 3, 1) := by decide +kernel
theorem d_M_differ_84 : decode b_M_differ 84 = .ok (.iaload, 1) := by decide +kernel
theorem d_M_differ_85 : decode b_M_differ 85 = .ok (.isub, 1) := by decide +kernel
theorem d_M_differ_86 : decode b_M_differ 86 = .ok (.ireturn, 1) := by decide +kernel
theorem d_M_claim_0 : decode b_M_claim 0 = .ok (.aload_n 0, 1) := by decide +kernel
theorem d_M_claim_1 : decode b_M_claim 1 = .ok (.aload_n 0, 1) := by decide +kernel
theorem d_M_claim_2 : decode b_M_claim 2 = .ok (.iload_n 1, 1) := by decide +kernel
theorem d_M_claim_3 : decode b_M_claim 3 = .ok (.invokevirtual 94, 3) := by decide +kernel
theorem d_M_claim_6 : decode b_M_claim 6 = .ok (.ifCond .ne 7, 3) := by decide +kernel
theorem d_M_claim_9 : decode b_M_claim 9 = .ok (.iconst 1, 1) := by decide +kernel
theorem d_M_claim_10 : decode b_M_claim 10 = .ok (.goto 12, 3) := by decide +kernel
theorem d_M_claim_13 : decode b_M_claim 13 = .ok (.iload_n 2, 1) := by decide +kernel
theorem d_M_claim_14 : decode b_M_claim 14 = .ok (.ifCond .ge 7, 3) := by decide +kernel
theorem d_M_claim_17 : decode b_M_claim 17 = .ok (.iconst 2, 1) := by decide +kernel
theorem d_M_claim_18 : decode b_M_claim 18 = .ok (.goto 4, 3) := by decide +kernel
theorem d_M_claim_21 : decode b_M_claim 21 = .ok (.iconst 0, 1) := by decide +kernel
theorem d_M_claim_22 : decode b_M_claim 22 = .ok (.putfield 83, 3) := by decide +kernel
theorem d_M_claim_25 : decode b_M_claim 25 = .ok (.aload_n 0, 1) := by decide +kernel
theorem d_M_claim_26 : decode b_M_claim 26 = .ok (.getfield 83, 3) := by decide +kernel
theorem d_M_claim_29 : decode b_M_claim 29 = .ok (.ifCond .le 5, 3) := by decide +kernel
theorem d_M_claim_32 : decode b_M_claim 32 = .ok (.iconst 0, 1) := by decide +kernel
theorem d_M_claim_33 : decode b_M_claim 33 = .ok (.ireturn, 1) := by decide +kernel
theorem d_M_claim_34 : decode b_M_claim 34 = .ok (.iload_n 2, 1) := by decide +kernel
theorem d_M_claim_35 : decode b_M_claim 35 = .ok (.istore_n 3, 1) := by decide +kernel
theorem d_M_claim_36 : decode b_M_claim 36 = .ok (.iconst 1, 1) := by decide +kernel
theorem d_M_claim_37 : decode b_M_claim 37 = .ok (.istore 4, 2) := by decide +kernel
theorem d_M_claim_39 : decode b_M_claim 39 = .ok (.iload 4, 2) := by decide +kernel
theorem d_M_claim_41 : decode b_M_claim 41 = .ok (.aload_n 0, 1) := by decide +kernel
theorem d_M_claim_42 : decode b_M_claim 42 = .ok (.getfield 98, 3) := by decide +kernel
theorem d_M_claim_45 : decode b_M_claim 45 = .ok (.if_icmp .gt 46, 3) := by decide +kernel
theorem d_M_claim_48 : decode b_M_claim 48 = .ok (.aload_n 0, 1) := by decide +kernel
theorem d_M_claim_49 : decode b_M_claim 49 = .ok (.getfield 56, 3) := by decide +kernel
theorem d_M_claim_52 : decode b_M_claim 52 = .ok (.iload 4, 2) := by decide +kernel
theorem d_M_claim_54 : decode b_M_claim 54 = .ok (.iaload, 1) := by decide +kernel
theorem d_M_claim_55 : decode b_M_claim 55 = .ok (.iconst 4, 1) := by decide +kernel
theorem d_M_claim_56 : decode b_M_claim 56 = .ok (.idiv, 1) := by decide +kernel
theorem d_M_claim_57 : decode b_M_claim 57 = .ok (.iload_n 1, 1) := by decide +kernel
theorem d_M_claim_58 : decode b_M_claim 58 = .ok (.if_icmp .ne 27, 3) := by decide +kernel
theorem d_M_claim_61 : decode b_M_claim 61 = .ok (.aload_n 0, 1) := by decide +kernel
theorem d_M_claim_62 : decode b_M_claim 62 = .ok (.getfield 59, 3) := by decide +kernel
theorem d_M_claim_65 : decode b_M_claim 65 = .ok (.iload 4, 2) := by decide +kernel
theorem d_M_claim_67 : decode b_M_claim 67 = .ok (.iaload, 1) := by decide +kernel
theorem d_M_claim_68 : decode b_M_claim 68 = .ok (.iconst 1, 1) := by decide +kernel
theorem d_M_claim_69 : decode b_M_claim 69 = .ok (.if_icmp .eq 6, 3) := by decide +kernel
theorem d_M_claim_72 : decode b_M_claim 72 = .ok (.goto 13, 3) := by decide +kernel
theorem d_M_claim_75 : decode b_M_claim 75 = .ok (.iload_n 3, 1) := by decide +kernel
theorem d_M_claim_76 : decode b_M_claim 76 = .ok (.ifCond .ne 6, 3) := by decide +kernel
theorem d_M_claim_79 : decode b_M_claim 79 = .ok (.iload 4, 2) := by decide +kernel
theorem d_M_claim_81 : decode b_M_claim 81 = .ok (.ireturn, 1) := by decide +kernel
theorem d_M_claim_82 : decode b_M_claim 82 = .ok (.iinc 3 (-1), 3) := by decide +kernel
theorem d_M_claim_85 : decode b_M_claim 85 = .ok (.iinc 4 1, 3) := by decide +kernel
theorem d_M_claim_88 : decode b_M_claim 88 = .ok (.goto (-49), 3) := by decide +kernel
theorem d_M_claim_91 : decode b_M_claim 91 = .ok (.iconst (-1), 1) := by decide +kernel
theorem d_M_claim_92 : decode b_M_claim 92 = .ok (.ireturn, 1) := by decide +kernel
theorem d_M_unit_0 : decode b_M_unit 0 = .ok (.aload_n 0, 1) := by decide +kernel
theorem d_M_unit_1 : decode b_M_unit 1 = .ok (.aload_n 0, 1) := by decide +kernel
theorem d_M_unit_2 : decode b_M_unit 2 = .ok (.iload_n 1, 1) := by decide +kernel
theorem d_M_unit_3 : decode b_M_unit 3 = .ok (.invokevirtual 115, 3) := by decide +kernel
theorem d_M_unit_6 : decode b_M_unit 6 = .ok (.ifCond .ne 7, 3) := by decide +kernel
theorem d_M_unit_9 : decode b_M_unit 9 = .ok (.iconst 1, 1) := by decide +kernel
theorem d_M_unit_10 : decode b_M_unit 10 = .ok (.goto 18, 3) := by decide +kernel
theorem d_M_unit_13 : decode b_M_unit 13 = .ok (.iload_n 2, 1) := by decide +kernel
theorem d_M_unit_14 : decode b_M_unit 14 = .ok (.iconst 0, 1) := by decide +kernel
theorem d_M_unit_15 : decode b_M_unit 15 = .ok (.bipush 7, 2) := by decide +kernel
theorem d_M_unit_17 : decode b_M_unit 17 = .ok (.invokestatic 90, 3) := by decide +kernel
theorem d_M_unit_20 : decode b_M_unit 20 = .ok (.ifCond .ne 7, 3) := by decide +kernel
theorem d_M_unit_23 : decode b_M_unit 23 = .ok (.iconst 2, 1) := by decide +kernel
theorem d_M_unit_24 : decode b_M_unit 24 = .ok (.goto 4, 3) := by decide +kernel
theorem d_M_unit_27 : decode b_M_unit 27 = .ok (.iconst 0, 1) := by decide +kernel
theorem d_M_unit_28 : decode b_M_unit 28 = .ok (.putfield 83, 3) := by decide +kernel
theorem d_M_unit_31 : decode b_M_unit 31 = .ok (.aload_n 0, 1) := by decide +kernel
theorem d_M_unit_32 : decode b_M_unit 32 = .ok (.getfield 83, 3) := by decide +kernel
theorem d_M_unit_35 : decode b_M_unit 35 = .ok (.ifCond .le 5, 3) := by decide +kernel
theorem d_M_unit_38 : decode b_M_unit 38 = .ok (.iconst 0, 1) := by decide +kernel
theorem d_M_unit_39 : decode b_M_unit 39 = .ok (.ireturn, 1) := by decide +kernel
theorem d_M_unit_40 : decode b_M_unit 40 = .ok (.iload_n 2, 1) := by decide +kernel
theorem d_M_unit_41 : decode b_M_unit 41 = .ok (.ifCond .ne 10, 3) := by decide +kernel
theorem d_M_unit_44 : decode b_M_unit 44 = .ok (.aload_n 0, 1) := by decide +kernel
theorem d_M_unit_45 : decode b_M_unit 45 = .ok (.getfield 59, 3) := by decide +kernel
theorem d_M_unit_48 : decode b_M_unit 48 = .ok (.iload_n 1, 1) := by decide +kernel
theorem d_M_unit_49 : decode b_M_unit 49 = .ok (.iaload, 1) := by decide +kernel
theorem d_M_unit_50 : decode b_M_unit 50 = .ok (.ireturn, 1) := by decide +kernel
theorem d_M_unit_51 : decode b_M_unit 51 = .ok (.iload_n 2, 1) := by decide +kernel
theorem d_M_unit_52 : decode b_M_unit 52 = .ok (.iconst 1, 1) := by decide +kernel
theorem d_M_unit_53 : decode b_M_unit 53 = .ok (.if_icmp .ne 12, 3) := by decide +kernel
theorem d_M_unit_56 : decode b_M_unit 56 = .ok (.aload_n 0, 1) := by decide +kernel
theorem d_M_unit_57 : decode b_M_unit 57 = .ok (.getfield 56, 3) := by decide +kernel
theorem d_M_unit_60 : decode b_M_unit 60 = .ok (.iload_n 1, 1) := by decide +kernel
theorem d_M_unit_61 : decode b_M_unit 61 = .ok (.iaload, 1) := by decide +kernel
theorem d_M_unit_62 : decode b_M_unit 62 = .ok (.iconst 4, 1) := by decide +kernel
theorem d_M_unit_63 : decode b_M_unit 63 = .ok (.idiv, 1) := by decide +kernel
theorem d_M_unit_64 : decode b_M_unit 64 = .ok (.ireturn, 1) := by decide +kernel
theorem d_M_unit_65 : decode b_M_unit 65 = .ok (.iload_n 2, 1) := by decide +kernel
theorem d_M_unit_66 : decode b_M_unit 66 = .ok (.iconst 2, 1) := by decide +kernel
theorem d_M_unit_67 : decode b_M_unit 67 = .ok (.if_icmp .ne 12, 3) := by decide +kernel
theorem d_M_unit_70 : decode b_M_unit 70 = .ok (.aload_n 0, 1) := by decide +kernel
theorem d_M_unit_71 : decode b_M_unit 71 = .ok (.getfield 56, 3) := by decide +kernel
theorem d_M_unit_74 : decode b_M_unit 74 = .ok (.iload_n 1, 1) := by decide +kernel
theorem d_M_unit_75 : decode b_M_unit 75 = .ok (.iaload, 1) := by decide +kernel
theorem d_M_unit_76 : decode b_M_unit 76 = .ok (.iconst 4, 1) := by decide +kernel
theorem d_M_unit_77 : decode b_M_unit 77 = .ok (.irem, 1) := by decide +kernel
theorem d_M_unit_78 : decode b_M_unit 78 = .ok (.ireturn, 1) := by decide +kernel
theorem d_M_unit_79 : decode b_M_unit 79 = .ok (.iload_n 2, 1) := by decide +kernel
theorem d_M_unit_80 : decode b_M_unit 80 = .ok (.iconst 3, 1) := by decide +kernel
theorem d_M_unit_81 : decode b_M_unit 81 = .ok (.if_icmp .ne 10, 3) := by decide +kernel
theorem d_M_unit_84 : decode b_M_unit 84 = .ok (.aload_n 0, 1) := by decide +kernel
theorem d_M_unit_85 : decode b_M_unit 85 = .ok (.getfield 62, 3) := by decide +kernel
theorem d_M_unit_88 : decode b_M_unit 88 = .ok (.iload_n 1, 1) := by decide +kernel
theorem d_M_unit_89 : decode b_M_unit 89 = .ok (.iaload, 1) := by decide +kernel
theorem d_M_unit_90 : decode b_M_unit 90 = .ok (.ireturn, 1) := by decide +kernel
theorem d_M_unit_91 : decode b_M_unit 91 = .ok (.iload_n 2, 1) := by decide +kernel
theorem d_M_unit_92 : decode b_M_unit 92 = .ok (.iconst 4, 1) := by decide +kernel
theorem d_M_unit_93 : decode b_M_unit 93 = .ok (.if_icmp .ne 10, 3) := by decide +kernel
theorem d_M_unit_96 : decode b_M_unit 96 = .ok (.aload_n 0, 1) := by decide +kernel
theorem d_M_unit_97 : decode b_M_unit 97 = .ok (.getfield 65, 3) := by decide +kernel
theorem d_M_unit_100 : decode b_M_unit 100 = .ok (.iload_n 1, 1) := by decide +kernel
theorem d_M_unit_101 : decode b_M_unit 101 = .ok (.iaload, 1) := by decide +kernel
theorem d_M_unit_102 : decode b_M_unit 102 = .ok (.ireturn, 1) := by decide +kernel
theorem d_M_unit_103 : decode b_M_unit 103 = .ok (.iload_n 2, 1) := by decide +kernel
theorem d_M_unit_104 : decode b_M_unit 104 = .ok (.iconst 5, 1) := by decide +kernel
theorem d_M_unit_105 : decode b_M_unit 105 = .ok (.if_icmp .ne 12, 3) := by decide +kernel
theorem d_M_unit_108 : decode b_M_unit 108 = .ok (.aload_n 0, 1) := by decide +kernel
theorem d_M_unit_109 : decode b_M_unit 109 = .ok (.getfield 68, 3) := by decide +kernel
theorem d_M_unit_112 : decode b_M_unit 112 = .ok (.iload_n 1, 1) := by decide +kernel
theorem d_M_unit_113 : decode b_M_unit 113 = .ok (.iaload, 1) := by decide +kernel
theorem d_M_unit_114 : decode b_M_unit 114 = .ok (.goto 24, 3) := by decide +kernel
theorem d_M_unit_117 : decode b_M_unit 117 = .ok (.iload_n 2, 1) := by decide +kernel
theorem d_M_unit_118 : decode b_M_unit 118 = .ok (.bipush 6, 2) := by decide +kernel
theorem d_M_unit_120 : decode b_M_unit 120 = .ok (.if_icmp .ne 12, 3) := by decide +kernel
theorem d_M_unit_123 : decode b_M_unit 123 = .ok (.aload_n 0, 1) := by decide +kernel
theorem d_M_unit_124 : decode b_M_unit 124 = .ok (.getfield 71, 3) := by decide +kernel
theorem d_M_unit_127 : decode b_M_unit 127 = .ok (.iload_n 1, 1) := by decide +kernel
theorem d_M_unit_128 : decode b_M_unit 128 = .ok (.iaload, 1) := by decide +kernel
theorem d_M_unit_129 : decode b_M_unit 129 = .ok (.goto 9, 3) := by decide +kernel
theorem d_M_unit_132 : decode b_M_unit 132 = .ok (.aload_n 0, 1) := by decide +kernel
theorem d_M_unit_133 : decode b_M_unit 133 = .ok (.getfield 74, 3) := by decide +kernel
theorem d_M_unit_136 : decode b_M_unit 136 = .ok (.iload_n 1, 1) := by decide +kernel
theorem d_M_unit_137 : decode b_M_unit 137 = .ok (.iaload, 1) := by decide +kernel
theorem d_M_unit_138 : decode b_M_unit 138 = .ok (.ireturn, 1) := by decide +kernel
theorem d_M_told_0 : decode b_M_told 0 = .ok (.aload_n 0, 1) := by decide +kernel
theorem d_M_told_1 : decode b_M_told 1 = .ok (.aload_n 0, 1) := by decide +kernel
theorem d_M_told_2 : decode b_M_told 2 = .ok (.iload_n 1, 1) := by decide +kernel
theorem d_M_told_3 : decode b_M_told 3 = .ok (.iload_n 2, 1) := by decide +kernel
theorem d_M_told_4 : decode b_M_told 4 = .ok (.invokevirtual 107, 3) := by decide +kernel
theorem d_M_told_7 : decode b_M_told 7 = .ok (.ifCond .ne 7, 3) := by decide +kernel
theorem d_M_told_10 : decode b_M_told 10 = .ok (.iconst 1, 1) := by decide +kernel
theorem d_M_told_11 : decode b_M_told 11 = .ok (.goto 18, 3) := by decide +kernel
theorem d_M_told_14 : decode b_M_told 14 = .ok (.iload_n 3, 1) := by decide +kernel
theorem d_M_told_15 : decode b_M_told 15 = .ok (.iconst 0, 1) := by decide +kernel
theorem d_M_told_16 : decode b_M_told 16 = .ok (.bipush 6, 2) := by decide +kernel
theorem d_M_told_18 : decode b_M_told 18 = .ok (.invokestatic 90, 3) := by decide +kernel
theorem d_M_told_21 : decode b_M_told 21 = .ok (.ifCond .ne 7, 3) := by decide +kernel
theorem d_M_told_24 : decode b_M_told 24 = .ok (.iconst 2, 1) := by decide +kernel
theorem d_M_told_25 : decode b_M_told 25 = .ok (.goto 4, 3) := by decide +kernel
theorem d_M_told_28 : decode b_M_told 28 = .ok (.iconst 0, 1) := by decide +kernel
theorem d_M_told_29 : decode b_M_told 29 = .ok (.putfield 83, 3) := by decide +kernel
theorem d_M_told_32 : decode b_M_told 32 = .ok (.aload_n 0, 1) := by decide +kernel
theorem d_M_told_33 : decode b_M_told 33 = .ok (.getfield 83, 3) := by decide +kernel
theorem d_M_told_36 : decode b_M_told 36 = .ok (.ifCond .le 5, 3) := by decide +kernel
theorem d_M_told_39 : decode b_M_told 39 = .ok (.iconst 0, 1) := by decide +kernel
theorem d_M_told_40 : decode b_M_told 40 = .ok (.ireturn, 1) := by decide +kernel
theorem d_M_told_41 : decode b_M_told 41 = .ok (.iconst 4, 1) := by decide +kernel
theorem d_M_told_42 : decode b_M_told 42 = .ok (.iload_n 1, 1) := by decide +kernel
theorem d_M_told_43 : decode b_M_told 43 = .ok (.imul, 1) := by decide +kernel
theorem d_M_told_44 : decode b_M_told 44 = .ok (.iload_n 2, 1) := by decide +kernel
theorem d_M_told_45 : decode b_M_told 45 = .ok (.iadd, 1) := by decide +kernel
theorem d_M_told_46 : decode b_M_told 46 = .ok (.istore 4, 2) := by decide +kernel
theorem d_M_told_48 : decode b_M_told 48 = .ok (.iload_n 3, 1) := by decide +kernel
theorem d_M_told_49 : decode b_M_told 49 = .ok (.ifCond .ne 11, 3) := by decide +kernel
theorem d_M_told_52 : decode b_M_told 52 = .ok (.aload_n 0, 1) := by decide +kernel
theorem d_M_told_53 : decode b_M_told 53 = .ok (.getfield 29, 3) := by decide +kernel
theorem d_M_told_56 : decode b_M_told 56 = .ok (.iload 4, 2) := by decide +kernel
theorem d_M_told_58 : decode b_M_told 58 = .ok (.iaload, 1) := by decide +kernel
theorem d_M_told_59 : decode b_M_told 59 = .ok (.ireturn, 1) := by decide +kernel
theorem d_M_told_60 : decode b_M_told 60 = .ok (.iload_n 3, 1) := by decide +kernel
theorem d_M_told_61 : decode b_M_told 61 = .ok (.iconst 1, 1) := by decide +kernel
theorem d_M_told_62 : decode b_M_told 62 = .ok (.if_icmp .ne 11, 3) := by decide +kernel
theorem d_M_told_65 : decode b_M_told 65 = .ok (.aload_n 0, 1) := by decide +kernel
theorem d_M_told_66 : decode b_M_told 66 = .ok (.getfield 32, 3) := by decide +kernel
theorem d_M_told_69 : decode b_M_told 69 = .ok (.iload 4, 2) := by decide +kernel
theorem d_M_told_71 : decode b_M_told 71 = .ok (.iaload, 1) := by decide +kernel
theorem d_M_told_72 : decode b_M_told 72 = .ok (.ireturn, 1) := by decide +kernel
theorem d_M_told_73 : decode b_M_told 73 = .ok (.iload_n 3, 1) := by decide +kernel
theorem d_M_told_74 : decode b_M_told 74 = .ok (.iconst 2, 1) := by decide +kernel
theorem d_M_told_75 : decode b_M_told 75 = .ok (.if_icmp .ne 11, 3) := by decide +kernel
theorem d_M_told_78 : decode b_M_told 78 = .ok (.aload_n 0, 1) := by decide +kernel
theorem d_M_told_79 : decode b_M_told 79 = .ok (.getfield 38, 3) := by decide +kernel
theorem d_M_told_82 : decode b_M_told 82 = .ok (.iload 4, 2) := by decide +kernel
theorem d_M_told_84 : decode b_M_told 84 = .ok (.iaload, 1) := by decide +kernel
theorem d_M_told_85 : decode b_M_told 85 = .ok (.ireturn, 1) := by decide +kernel
theorem d_M_told_86 : decode b_M_told 86 = .ok (.iload_n 3, 1) := by decide +kernel
theorem d_M_told_87 : decode b_M_told 87 = .ok (.iconst 3, 1) := by decide +kernel
theorem d_M_told_88 : decode b_M_told 88 = .ok (.if_icmp .ne 19, 3) := by decide +kernel
theorem d_M_told_91 : decode b_M_told 91 = .ok (.aload_n 0, 1) := by decide +kernel
theorem d_M_told_92 : decode b_M_told 92 = .ok (.getfield 50, 3) := by decide +kernel
theorem d_M_told_95 : decode b_M_told 95 = .ok (.iload 4, 2) := by decide +kernel
theorem d_M_told_97 : decode b_M_told 97 = .ok (.baload, 1) := by decide +kernel
theorem d_M_told_98 : decode b_M_told 98 = .ok (.ifCond .eq 7, 3) := by decide +kernel
theorem d_M_told_101 : decode b_M_told 101 = .ok (.iconst 1, 1) := by decide +kernel
theorem d_M_told_102 : decode b_M_told 102 = .ok (.goto 4, 3) := by decide +kernel
theorem d_M_told_105 : decode b_M_told 105 = .ok (.iconst 0, 1) := by decide +kernel
theorem d_M_told_106 : decode b_M_told 106 = .ok (.ireturn, 1) := by decide +kernel
theorem d_M_told_107 : decode b_M_told 107 = .ok (.iload_n 3, 1) := by decide +kernel
theorem d_M_told_108 : decode b_M_told 108 = .ok (.iconst 4, 1) := by decide +kernel
theorem d_M_told_109 : decode b_M_told 109 = .ok (.if_icmp .ne 10, 3) := by decide +kernel
theorem d_M_told_112 : decode b_M_told 112 = .ok (.aload_n 0, 1) := by decide +kernel
theorem d_M_told_113 : decode b_M_told 113 = .ok (.iload 4, 2) := by decide +kernel
theorem d_M_told_115 : decode b_M_told 115 = .ok (.invokevirtual 118, 3) := by decide +kernel
theorem d_M_told_118 : decode b_M_told 118 = .ok (.ireturn, 1) := by decide +kernel
theorem d_M_told_119 : decode b_M_told 119 = .ok (.iload_n 3, 1) := by decide +kernel
theorem d_M_told_120 : decode b_M_told 120 = .ok (.iconst 5, 1) := by decide +kernel
theorem d_M_told_121 : decode b_M_told 121 = .ok (.if_icmp .ne 21, 3) := by decide +kernel
theorem d_M_told_124 : decode b_M_told 124 = .ok (.aload_n 0, 1) := by decide +kernel
theorem d_M_told_125 : decode b_M_told 125 = .ok (.getfield 47, 3) := by decide +kernel
theorem d_M_told_128 : decode b_M_told 128 = .ok (.iload 4, 2) := by decide +kernel
theorem d_M_told_130 : decode b_M_told 130 = .ok (.baload, 1) := by decide +kernel
theorem d_M_told_131 : decode b_M_told 131 = .ok (.ifCond .eq 7, 3) := by decide +kernel
theorem d_M_told_134 : decode b_M_told 134 = .ok (.iconst 1, 1) := by decide +kernel
theorem d_M_told_135 : decode b_M_told 135 = .ok (.goto 13, 3) := by decide +kernel
theorem d_M_told_138 : decode b_M_told 138 = .ok (.iconst 0, 1) := by decide +kernel
theorem d_M_told_139 : decode b_M_told 139 = .ok (.goto 9, 3) := by decide +kernel
theorem d_M_told_142 : decode b_M_told 142 = .ok (.aload_n 0, 1) := by decide +kernel
theorem d_M_told_143 : decode b_M_told 143 = .ok (.iload 4, 2) := by decide +kernel
theorem d_M_told_145 : decode b_M_told 145 = .ok (.invokevirtual 111, 3) := by decide +kernel
theorem d_M_told_148 : decode b_M_told 148 = .ok (.ireturn, 1) := by decide +kernel
theorem d_M_state_0 : decode b_M_state 0 = .ok (.aload_n 0, 1) := by decide +kernel
theorem d_M_state_1 : decode b_M_state 1 = .ok (.aload_n 0, 1) := by decide +kernel
theorem d_M_state_2 : decode b_M_state 2 = .ok (.iload_n 1, 1) := by decide +kernel
theorem d_M_state_3 : decode b_M_state 3 = .ok (.invokevirtual 94, 3) := by decide +kernel
theorem d_M_state_6 : decode b_M_state 6 = .ok (.ifCond .ne 7, 3) := by decide +kernel
theorem d_M_state_9 : decode b_M_state 9 = .ok (.iconst 1, 1) := by decide +kernel
theorem d_M_state_10 : decode b_M_state 10 = .ok (.goto 17, 3) := by decide +kernel
theorem d_M_state_13 : decode b_M_state 13 = .ok (.iload_n 2, 1) := by decide +kernel
theorem d_M_state_14 : decode b_M_state 14 = .ok (.iconst 0, 1) := by decide +kernel
theorem d_M_state_15 : decode b_M_state 15 = .ok (.iconst 3, 1) := by decide +kernel
theorem d_M_state_16 : decode b_M_state 16 = .ok (.invokestatic 90, 3) := by decide +kernel
theorem d_M_state_19 : decode b_M_state 19 = .ok (.ifCond .ne 7, 3) := by decide +kernel
theorem d_M_state_22 : decode b_M_state 22 = .ok (.iconst 2, 1) := by decide +kernel
theorem d_M_state_23 : decode b_M_state 23 = .ok (.goto 4, 3) := by decide +kernel
theorem d_M_state_26 : decode b_M_state 26 = .ok (.iconst 0, 1) := by decide +kernel
theorem d_M_state_27 : decode b_M_state 27 = .ok (.putfield 83, 3) := by decide +kernel
theorem d_M_state_30 : decode b_M_state 30 = .ok (.aload_n 0, 1) := by decide +kernel
theorem d_M_state_31 : decode b_M_state 31 = .ok (.getfield 83, 3) := by decide +kernel
theorem d_M_state_34 : decode b_M_state 34 = .ok (.ifCond .le 5, 3) := by decide +kernel
theorem d_M_state_37 : decode b_M_state 37 = .ok (.iconst 0, 1) := by decide +kernel
theorem d_M_state_38 : decode b_M_state 38 = .ok (.ireturn, 1) := by decide +kernel
theorem d_M_state_39 : decode b_M_state 39 = .ok (.iload_n 2, 1) := by decide +kernel
theorem d_M_state_40 : decode b_M_state 40 = .ok (.ifCond .ne 12, 3) := by decide +kernel
theorem d_M_state_43 : decode b_M_state 43 = .ok (.aload_n 0, 1) := by decide +kernel
theorem d_M_state_44 : decode b_M_state 44 = .ok (.getfield 23, 3) := by decide +kernel
theorem d_M_state_47 : decode b_M_state 47 = .ok (.iload_n 1, 1) := by decide +kernel
theorem d_M_state_48 : decode b_M_state 48 = .ok (.iaload, 1) := by decide +kernel
theorem d_M_state_49 : decode b_M_state 49 = .ok (.goto 37, 3) := by decide +kernel
theorem d_M_state_52 : decode b_M_state 52 = .ok (.iload_n 2, 1) := by decide +kernel
theorem d_M_state_53 : decode b_M_state 53 = .ok (.iconst 1, 1) := by decide +kernel
theorem d_M_state_54 : decode b_M_state 54 = .ok (.if_icmp .ne 12, 3) := by decide +kernel
theorem d_M_state_57 : decode b_M_state 57 = .ok (.aload_n 0, 1) := by decide +kernel
theorem d_M_state_58 : decode b_M_state 58 = .ok (.getfield 13, 3) := by decide +kernel
theorem d_M_state_61 : decode b_M_state 61 = .ok (.iload_n 1, 1) := by decide +kernel
theorem d_M_state_62 : decode b_M_state 62 = .ok (.iaload, 1) := by decide +kernel
theorem d_M_state_63 : decode b_M_state 63 = .ok (.goto 23, 3) := by decide +kernel
theorem d_M_state_66 : decode b_M_state 66 = .ok (.iload_n 2, 1) := by decide +kernel
theorem d_M_state_67 : decode b_M_state 67 = .ok (.iconst 2, 1) := by decide +kernel
theorem d_M_state_68 : decode b_M_state 68 = .ok (.if_icmp .ne 12, 3) := by decide +kernel
theorem d_M_state_71 : decode b_M_state 71 = .ok (.aload_n 0, 1) := by decide +kernel
theorem d_M_state_72 : decode b_M_state 72 = .ok (.getfield 20, 3) := by decide +kernel
theorem d_M_state_75 : decode b_M_state 75 = .ok (.iload_n 1, 1) := by decide +kernel
theorem d_M_state_76 : decode b_M_state 76 = .ok (.iaload, 1) := by decide +kernel
theorem d_M_state_77 : decode b_M_state 77 = .ok (.goto 9, 3) := by decide +kernel
theorem d_M_state_80 : decode b_M_state 80 = .ok (.aload_n 0, 1) := by decide +kernel
theorem d_M_state_81 : decode b_M_state 81 = .ok (.getfield 26, 3) := by decide +kernel
theorem d_M_state_84 : decode b_M_state 84 = .ok (.iload_n 1, 1) := by decide +kernel
theorem d_M_state_85 : decode b_M_state 85 = .ok (.iaload, 1) := by decide +kernel
theorem d_M_state_86 : decode b_M_state 86 = .ok (.ireturn, 1) := by decide +kernel
theorem d_M_count1_0 : decode b_M_count1 0 = .ok (.aload_n 0, 1) := by decide +kernel
theorem d_M_count1_1 : decode b_M_count1 1 = .ok (.iconst 0, 1) := by decide +kernel
theorem d_M_count1_2 : decode b_M_count1 2 = .ok (.putfield 83, 3) := by decide +kernel
theorem d_M_count1_5 : decode b_M_count1 5 = .ok (.iload_n 1, 1) := by decide +kernel
theorem d_M_count1_6 : decode b_M_count1 6 = .ok (.ifCond .ne 10, 3) := by decide +kernel
theorem d_M_count1_9 : decode b_M_count1 9 = .ok (.aload_n 0, 1) := by decide +kernel
theorem d_M_count1_10 : decode b_M_count1 10 = .ok (.getfield 87, 3) := by decide +kernel
theorem d_M_count1_13 : decode b_M_count1 13 = .ok (.goto 52, 3) := by decide +kernel
theorem d_M_count1_16 : decode b_M_count1 16 = .ok (.iload_n 1, 1) := by decide +kernel
theorem d_M_count1_17 : decode b_M_count1 17 = .ok (.iconst 1, 1) := by decide +kernel
theorem d_M_count1_18 : decode b_M_count1 18 = .ok (.if_icmp .ne 10, 3) := by decide +kernel
theorem d_M_count1_21 : decode b_M_count1 21 = .ok (.aload_n 0, 1) := by decide +kernel
theorem d_M_count1_22 : decode b_M_count1 22 = .ok (.getfield 98, 3) := by decide +kernel
theorem d_M_count1_25 : decode b_M_count1 25 = .ok (.goto 40, 3) := by decide +kernel
theorem d_M_count1_28 : decode b_M_count1 28 = .ok (.iload_n 1, 1) := by decide +kernel
theorem d_M_count1_29 : decode b_M_count1 29 = .ok (.iconst 2, 1) := by decide +kernel
theorem d_M_count1_30 : decode b_M_count1 30 = .ok (.if_icmp .ne 10, 3) := by decide +kernel
theorem d_M_count1_33 : decode b_M_count1 33 = .ok (.aload_n 0, 1) := by decide +kernel
theorem d_M_count1_34 : decode b_M_count1 34 = .ok (.getfield 127, 3) := by decide +kernel
theorem d_M_count1_37 : decode b_M_count1 37 = .ok (.goto 28, 3) := by decide +kernel
theorem d_M_count1_40 : decode b_M_count1 40 = .ok (.iload_n 1, 1) := by decide +kernel
theorem d_M_count1_41 : decode b_M_count1 41 = .ok (.iconst 3, 1) := by decide +kernel
theorem d_M_count1_42 : decode b_M_count1 42 = .ok (.if_icmp .ne 10, 3) := by decide +kernel
theorem d_M_count1_45 : decode b_M_count1 45 = .ok (.aload_n 0, 1) := by decide +kernel
theorem d_M_count1_46 : decode b_M_count1 46 = .ok (.getfield 121, 3) := by decide +kernel
theorem d_M_count1_49 : decode b_M_count1 49 = .ok (.goto 16, 3) := by decide +kernel
theorem d_M_count1_52 : decode b_M_count1 52 = .ok (.iload_n 1, 1) := by decide +kernel
theorem d_M_count1_53 : decode b_M_count1 53 = .ok (.iconst 4, 1) := by decide +kernel
theorem d_M_count1_54 : decode b_M_count1 54 = .ok (.if_icmp .ne 10, 3) := by decide +kernel
theorem d_M_count1_57 : decode b_M_count1 57 = .ok (.aload_n 0, 1) := by decide +kernel
theorem d_M_count1_58 : decode b_M_count1 58 = .ok (.getfield 138, 3) := by decide +kernel
theorem d_M_count1_61 : decode b_M_count1 61 = .ok (.goto 4, 3) := by decide +kernel
theorem d_M_count1_64 : decode b_M_count1 64 = .ok (.iconst (-1), 1) := by decide +kernel
theorem d_M_count1_65 : decode b_M_count1 65 = .ok (.ireturn, 1) := by decide +kernel
