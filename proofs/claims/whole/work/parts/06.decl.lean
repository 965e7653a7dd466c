theorem d_L_announce_0 : decode b_L_announce 0 = .ok (.aload_n 3, 1) := by decide +kernel
theorem d_L_announce_1 : decode b_L_announce 1 = .ok (.iconst 0, 1) := by decide +kernel
theorem d_L_announce_2 : decode b_L_announce 2 = .ok (.aload_n 0, 1) := by decide +kernel
theorem d_L_announce_3 : decode b_L_announce 3 = .ok (.iload_n 1, 1) := by decide +kernel
theorem d_L_announce_4 : decode b_L_announce 4 = .ok (.iload_n 2, 1) := by decide +kernel
theorem d_L_announce_5 : decode b_L_announce 5 = .ok (.invokevirtual 7, 3) := by decide +kernel
theorem d_L_announce_8 : decode b_L_announce 8 = .ok (.i2l, 1) := by decide +kernel
theorem d_L_announce_9 : decode b_L_announce 9 = .ok (.lastore, 1) := by decide +kernel
theorem d_L_announce_10 : decode b_L_announce 10 = .ok (.goto 11, 3) := by decide +kernel
theorem d_L_announce_13 : decode b_L_announce 13 = .ok (.astore 4, 2) := by decide +kernel
theorem d_L_announce_15 : decode b_L_announce 15 = .ok (.iconst 1, 1) := by decide +kernel
theorem d_L_announce_16 : decode b_L_announce 16 = .ok (.ireturn, 1) := by decide +kernel
theorem d_L_announce_17 : decode b_L_announce 17 = .ok (.astore 4, 2) := by decide +kernel
theorem d_L_announce_19 : decode b_L_announce 19 = .ok (.iconst 2, 1) := by decide +kernel
theorem d_L_announce_20 : decode b_L_announce 20 = .ok (.ireturn, 1) := by decide +kernel
theorem d_L_announce_21 : decode b_L_announce 21 = .ok (.iconst 0, 1) := by decide +kernel
theorem d_L_announce_22 : decode b_L_announce 22 = .ok (.ireturn, 1) := by decide +kernel
theorem d_L_line_0 : decode b_L_line 0 = .ok (.aload 4, 2) := by decide +kernel
theorem d_L_line_2 : decode b_L_line 2 = .ok (.iconst 0, 1) := by decide +kernel
theorem d_L_line_3 : decode b_L_line 3 = .ok (.aload_n 0, 1) := by decide +kernel
theorem d_L_line_4 : decode b_L_line 4 = .ok (.iload_n 1, 1) := by decide +kernel
theorem d_L_line_5 : decode b_L_line 5 = .ok (.iload_n 2, 1) := by decide +kernel
theorem d_L_line_6 : decode b_L_line 6 = .ok (.iload_n 3, 1) := by decide +kernel
theorem d_L_line_7 : decode b_L_line 7 = .ok (.invokevirtual 17, 3) := by decide +kernel
theorem d_L_line_10 : decode b_L_line 10 = .ok (.i2l, 1) := by decide +kernel
theorem d_L_line_11 : decode b_L_line 11 = .ok (.lastore, 1) := by decide +kernel
theorem d_L_line_12 : decode b_L_line 12 = .ok (.goto 15, 3) := by decide +kernel
theorem d_L_line_15 : decode b_L_line 15 = .ok (.astore 5, 2) := by decide +kernel
theorem d_L_line_17 : decode b_L_line 17 = .ok (.iconst 1, 1) := by decide +kernel
theorem d_L_line_18 : decode b_L_line 18 = .ok (.ireturn, 1) := by decide +kernel
theorem d_L_line_19 : decode b_L_line 19 = .ok (.astore 5, 2) := by decide +kernel
theorem d_L_line_21 : decode b_L_line 21 = .ok (.iconst 2, 1) := by decide +kernel
theorem d_L_line_22 : decode b_L_line 22 = .ok (.ireturn, 1) := by decide +kernel
theorem d_L_line_23 : decode b_L_line 23 = .ok (.astore 5, 2) := by decide +kernel
theorem d_L_line_25 : decode b_L_line 25 = .ok (.iconst 3, 1) := by decide +kernel
theorem d_L_line_26 : decode b_L_line 26 = .ok (.ireturn, 1) := by decide +kernel
theorem d_L_line_27 : decode b_L_line 27 = .ok (.iconst 0, 1) := by decide +kernel
theorem d_L_line_28 : decode b_L_line 28 = .ok (.ireturn, 1) := by decide +kernel
theorem d_L_arrive_0 : decode b_L_arrive 0 = .ok (.aload 4, 2) := by decide +kernel
theorem d_L_arrive_2 : decode b_L_arrive 2 = .ok (.iconst 0, 1) := by decide +kernel
theorem d_L_arrive_3 : decode b_L_arrive 3 = .ok (.aload_n 0, 1) := by decide +kernel
theorem d_L_arrive_4 : decode b_L_arrive 4 = .ok (.iload_n 1, 1) := by decide +kernel
theorem d_L_arrive_5 : decode b_L_arrive 5 = .ok (.iload_n 2, 1) := by decide +kernel
theorem d_L_arrive_6 : decode b_L_arrive 6 = .ok (.iload_n 3, 1) := by decide +kernel
theorem d_L_arrive_7 : decode b_L_arrive 7 = .ok (.invokevirtual 25, 3) := by decide +kernel
theorem d_L_arrive_10 : decode b_L_arrive 10 = .ok (.i2l, 1) := by decide +kernel
theorem d_L_arrive_11 : decode b_L_arrive 11 = .ok (.lastore, 1) := by decide +kernel
theorem d_L_arrive_12 : decode b_L_arrive 12 = .ok (.goto 15, 3) := by decide +kernel
theorem d_L_arrive_15 : decode b_L_arrive 15 = .ok (.astore 5, 2) := by decide +kernel
theorem d_L_arrive_17 : decode b_L_arrive 17 = .ok (.iconst 1, 1) := by decide +kernel
theorem d_L_arrive_18 : decode b_L_arrive 18 = .ok (.ireturn, 1) := by decide +kernel
theorem d_L_arrive_19 : decode b_L_arrive 19 = .ok (.astore 5, 2) := by decide +kernel
theorem d_L_arrive_21 : decode b_L_arrive 21 = .ok (.iconst 2, 1) := by decide +kernel
theorem d_L_arrive_22 : decode b_L_arrive 22 = .ok (.ireturn, 1) := by decide +kernel
theorem d_L_arrive_23 : decode b_L_arrive 23 = .ok (.astore 5, 2) := by decide +kernel
theorem d_L_arrive_25 : decode b_L_arrive 25 = .ok (.iconst 3, 1) := by decide +kernel
theorem d_L_arrive_26 : decode b_L_arrive 26 = .ok (.ireturn, 1) := by decide +kernel
theorem d_L_arrive_27 : decode b_L_arrive 27 = .ok (.iconst 0, 1) := by decide +kernel
theorem d_L_arrive_28 : decode b_L_arrive 28 = .ok (.ireturn, 1) := by decide +kernel
theorem d_L_accept_0 : decode b_L_accept 0 = .ok (.aload_n 0, 1) := by decide +kernel
theorem d_L_accept_1 : decode b_L_accept 1 = .ok (.iload_n 1, 1) := by decide +kernel
theorem d_L_accept_2 : decode b_L_accept 2 = .ok (.iload_n 2, 1) := by decide +kernel
theorem d_L_accept_3 : decode b_L_accept 3 = .ok (.invokevirtual 29, 3) := by decide +kernel
theorem d_L_accept_6 : decode b_L_accept 6 = .ok (.goto 12, 3) := by decide +kernel
theorem d_L_accept_9 : decode b_L_accept 9 = .ok (.astore_n 3, 1) := by decide +kernel
theorem d_L_accept_10 : decode b_L_accept 10 = .ok (.iconst 1, 1) := by decide +kernel
theorem d_L_accept_11 : decode b_L_accept 11 = .ok (.ireturn, 1) := by decide +kernel
theorem d_L_accept_12 : decode b_L_accept 12 = .ok (.astore_n 3, 1) := by decide +kernel
theorem d_L_accept_13 : decode b_L_accept 13 = .ok (.iconst 2, 1) := by decide +kernel
theorem d_L_accept_14 : decode b_L_accept 14 = .ok (.ireturn, 1) := by decide +kernel
theorem d_L_accept_15 : decode b_L_accept 15 = .ok (.astore_n 3, 1) := by decide +kernel
theorem d_L_accept_16 : decode b_L_accept 16 = .ok (.iconst 3, 1) := by decide +kernel
theorem d_L_accept_17 : decode b_L_accept 17 = .ok (.ireturn, 1) := by decide +kernel
theorem d_L_accept_18 : decode b_L_accept 18 = .ok (.iconst 0, 1) := by decide +kernel
theorem d_L_accept_19 : decode b_L_accept 19 = .ok (.ireturn, 1) := by decide +kernel
theorem d_L_right_0 : decode b_L_right 0 = .ok (.aload_n 0, 1) := by decide +kernel
theorem d_L_right_1 : decode b_L_right 1 = .ok (.iload_n 1, 1) := by decide +kernel
theorem d_L_right_2 : decode b_L_right 2 = .ok (.iload_n 2, 1) := by decide +kernel
theorem d_L_right_3 : decode b_L_right 3 = .ok (.invokevirtual 33, 3) := by decide +kernel
theorem d_L_right_6 : decode b_L_right 6 = .ok (.goto 6, 3) := by decide +kernel
theorem d_L_right_9 : decode b_L_right 9 = .ok (.astore_n 3, 1) := by decide +kernel
theorem d_L_right_10 : decode b_L_right 10 = .ok (.iconst 1, 1) := by decide +kernel
theorem d_L_right_11 : decode b_L_right 11 = .ok (.ireturn, 1) := by decide +kernel
theorem d_L_right_12 : decode b_L_right 12 = .ok (.iconst 0, 1) := by decide +kernel
theorem d_L_right_13 : decode b_L_right 13 = .ok (.ireturn, 1) := by decide +kernel
theorem d_L_tolerance_0 : decode b_L_tolerance 0 = .ok (.aload_n 0, 1) := by decide +kernel
theorem d_L_tolerance_1 : decode b_L_tolerance 1 = .ok (.iload_n 1, 1) := by decide +kernel
theorem d_L_tolerance_2 : decode b_L_tolerance 2 = .ok (.iload_n 2, 1) := by decide +kernel
theorem d_L_tolerance_3 : decode b_L_tolerance 3 = .ok (.iload_n 3, 1) := by decide +kernel
theorem d_L_tolerance_4 : decode b_L_tolerance 4 = .ok (.invokevirtual 37, 3) := by decide +kernel
theorem d_L_tolerance_7 : decode b_L_tolerance 7 = .ok (.goto 15, 3) := by decide +kernel
theorem d_L_tolerance_10 : decode b_L_tolerance 10 = .ok (.astore 4, 2) := by decide +kernel
theorem d_L_tolerance_12 : decode b_L_tolerance 12 = .ok (.iconst 1, 1) := by decide +kernel
theorem d_L_tolerance_13 : decode b_L_tolerance 13 = .ok (.ireturn, 1) := by decide +kernel
theorem d_L_tolerance_14 : decode b_L_tolerance 14 = .ok (.astore 4, 2) := by decide +kernel
theorem d_L_tolerance_16 : decode b_L_tolerance 16 = .ok (.iconst 2, 1) := by decide +kernel
theorem d_L_tolerance_17 : decode b_L_tolerance 17 = .ok (.ireturn, 1) := by decide +kernel
theorem d_L_tolerance_18 : decode b_L_tolerance 18 = .ok (.astore 4, 2) := by decide +kernel
theorem d_L_tolerance_20 : decode b_L_tolerance 20 = .ok (.iconst 3, 1) := by decide +kernel
theorem d_L_tolerance_21 : decode b_L_tolerance 21 = .ok (.ireturn, 1) := by decide +kernel
theorem d_L_tolerance_22 : decode b_L_tolerance 22 = .ok (.iconst 0, 1) := by decide +kernel
theorem d_L_tolerance_23 : decode b_L_tolerance 23 = .ok (.ireturn, 1) := by decide +kernel
theorem d_L_wanted_0 : decode b_L_wanted 0 = .ok (.aload_n 0, 1) := by decide +kernel
theorem d_L_wanted_1 : decode b_L_wanted 1 = .ok (.iload_n 1, 1) := by decide +kernel
theorem d_L_wanted_2 : decode b_L_wanted 2 = .ok (.iload_n 2, 1) := by decide +kernel
theorem d_L_wanted_3 : decode b_L_wanted 3 = .ok (.iload_n 3, 1) := by decide +kernel
theorem d_L_wanted_4 : decode b_L_wanted 4 = .ok (.invokevirtual 41, 3) := by decide +kernel
theorem d_L_wanted_7 : decode b_L_wanted 7 = .ok (.goto 15, 3) := by decide +kernel
theorem d_L_wanted_10 : decode b_L_wanted 10 = .ok (.astore 4, 2) := by decide +kernel
theorem d_L_wanted_12 : decode b_L_wanted 12 = .ok (.iconst 1, 1) := by decide +kernel
theorem d_L_wanted_13 : decode b_L_wanted 13 = .ok (.ireturn, 1) := by decide +kernel
theorem d_L_wanted_14 : decode b_L_wanted 14 = .ok (.astore 4, 2) := by decide +kernel
theorem d_L_wanted_16 : decode b_L_wanted 16 = .ok (.iconst 2, 1) := by decide +kernel
theorem d_L_wanted_17 : decode b_L_wanted 17 = .ok (.ireturn, 1) := by decide +kernel
theorem d_L_wanted_18 : decode b_L_wanted 18 = .ok (.astore 4, 2) := by decide +kernel
theorem d_L_wanted_20 : decode b_L_wanted 20 = .ok (.iconst 3, 1) := by decide +kernel
theorem d_L_wanted_21 : decode b_L_wanted 21 = .ok (.ireturn, 1) := by decide +kernel
theorem d_L_wanted_22 : decode b_L_wanted 22 = .ok (.iconst 0, 1) := by decide +kernel
theorem d_L_wanted_23 : decode b_L_wanted 23 = .ok (.ireturn, 1) := by decide +kernel
theorem d_L_count_0 : decode b_L_count 0 = .ok (.aload 6, 2) := by decide +kernel
theorem d_L_count_2 : decode b_L_count 2 = .ok (.iconst 0, 1) := by decide +kernel
theorem d_L_count_3 : decode b_L_count 3 = .ok (.aload_n 0, 1) := by decide +kernel
theorem d_L_count_4 : decode b_L_count 4 = .ok (.iload_n 1, 1) := by decide +kernel
theorem d_L_count_5 : decode b_L_count 5 = .ok (.iload_n 2, 1) := by decide +kernel
theorem d_L_count_6 : decode b_L_count 6 = .ok (.iload_n 3, 1) := by decide +kernel
theorem d_L_count_7 : decode b_L_count 7 = .ok (.iload 4, 2) := by decide +kernel
theorem d_L_count_9 : decode b_L_count 9 = .ok (.iload 5, 2) := by decide +kernel
theorem d_L_count_11 : decode b_L_count 11 = .ok (.invokevirtual 44, 3) := by decide +kernel
theorem d_L_count_14 : decode b_L_count 14 = .ok (.i2l, 1) := by decide +kernel
theorem d_L_count_15 : decode b_L_count 15 = .ok (.lastore, 1) := by decide +kernel
theorem d_L_count_16 : decode b_L_count 16 = .ok (.goto 15, 3) := by decide +kernel
theorem d_L_count_19 : decode b_L_count 19 = .ok (.astore 7, 2) := by decide +kernel
theorem d_L_count_21 : decode b_L_count 21 = .ok (.iconst 1, 1) := by decide +kernel
theorem d_L_count_22 : decode b_L_count 22 = .ok (.ireturn, 1) := by decide +kernel
theorem d_L_count_23 : decode b_L_count 23 = .ok (.astore 7, 2) := by decide +kernel
theorem d_L_count_25 : decode b_L_count 25 = .ok (.iconst 2, 1) := by decide +kernel
theorem d_L_count_26 : decode b_L_count 26 = .ok (.ireturn, 1) := by decide +kernel
theorem d_L_count_27 : decode b_L_count 27 = .ok (.astore 7, 2) := by decide +kernel
theorem d_L_count_29 : decode b_L_count 29 = .ok (.iconst 3, 1) := by decide +kernel
theorem d_L_count_30 : decode b_L_count 30 = .ok (.ireturn, 1) := by decide +kernel
theorem d_L_count_31 : decode b_L_count 31 = .ok (.iconst 0, 1) := by decide +kernel
theorem d_L_count_32 : decode b_L_count 32 = .ok (.ireturn, 1) := by decide +kernel
theorem d_L_damaged_0 : decode b_L_damaged 0 = .ok (.aload_n 3, 1) := by decide +kernel
theorem d_L_damaged_1 : decode b_L_damaged 1 = .ok (.iconst 0, 1) := by decide +kernel
theorem d_L_damaged_2 : decode b_L_damaged 2 = .ok (.aload_n 0, 1) := by decide +kernel
theorem d_L_damaged_3 : decode b_L_damaged 3 = .ok (.iload_n 1, 1) := by decide +kernel
theorem d_L_damaged_4 : decode b_L_damaged 4 = .ok (.iload_n 2, 1) := by decide +kernel
theorem d_L_damaged_5 : decode b_L_damaged 5 = .ok (.invokevirtual 48, 3) := by decide +kernel
theorem d_L_damaged_8 : decode b_L_damaged 8 = .ok (.i2l, 1) := by decide +kernel
theorem d_L_damaged_9 : decode b_L_damaged 9 = .ok (.lastore, 1) := by decide +kernel
theorem d_L_damaged_10 : decode b_L_damaged 10 = .ok (.goto 15, 3) := by decide +kernel
theorem d_L_damaged_13 : decode b_L_damaged 13 = .ok (.astore 4, 2) := by decide +kernel
theorem d_L_damaged_15 : decode b_L_damaged 15 = .ok (.iconst 1, 1) := by decide +kernel
theorem d_L_damaged_16 : decode b_L_damaged 16 = .ok (.ireturn, 1) := by decide +kernel
theorem d_L_damaged_17 : decode b_L_damaged 17 = .ok (.astore 4, 2) := by decide +kernel
theorem d_L_damaged_19 : decode b_L_damaged 19 = .ok (.iconst 2, 1) := by decide +kernel
theorem d_L_damaged_20 : decode b_L_damaged 20 = .ok (.ireturn, 1) := by decide +kernel
theorem d_L_damaged_21 : decode b_L_damaged 21 = .ok (.astore 4, 2) := by decide +kernel
theorem d_L_damaged_23 : decode b_L_damaged 23 = .ok (.iconst 3, 1) := by decide +kernel
theorem d_L_damaged_24 : decode b_L_damaged 24 = .ok (.ireturn, 1) := by decide +kernel
theorem d_L_damaged_25 : decode b_L_damaged 25 = .ok (.iconst 0, 1) := by decide +kernel
theorem d_L_damaged_26 : decode b_L_damaged 26 = .ok (.ireturn, 1) := by decide +kernel
theorem d_L_sample_0 : decode b_L_sample 0 = .ok (.aload 4, 2) := by decide +kernel
theorem d_L_sample_2 : decode b_L_sample 2 = .ok (.iconst 0, 1) := by decide +kernel
theorem d_L_sample_3 : decode b_L_sample 3 = .ok (.aload_n 0, 1) := by decide +kernel
theorem d_L_sample_4 : decode b_L_sample 4 = .ok (.iload_n 1, 1) := by decide +kernel
theorem d_L_sample_5 : decode b_L_sample 5 = .ok (.iload_n 2, 1) := by decide +kernel
theorem d_L_sample_6 : decode b_L_sample 6 = .ok (.iload_n 3, 1) := by decide +kernel
theorem d_L_sample_7 : decode b_L_sample 7 = .ok (.invokevirtual 51, 3) := by decide +kernel
theorem d_L_sample_10 : decode b_L_sample 10 = .ok (.i2l, 1) := by decide +kernel
theorem d_L_sample_11 : decode b_L_sample 11 = .ok (.lastore, 1) := by decide +kernel
theorem d_L_sample_12 : decode b_L_sample 12 = .ok (.goto 11, 3) := by decide +kernel
theorem d_L_sample_15 : decode b_L_sample 15 = .ok (.astore 5, 2) := by decide +kernel
theorem d_L_sample_17 : decode b_L_sample 17 = .ok (.iconst 1, 1) := by decide +kernel
theorem d_L_sample_18 : decode b_L_sample 18 = .ok (.ireturn, 1) := by decide +kernel
theorem d_L_sample_19 : decode b_L_sample 19 = .ok (.astore 5, 2) := by decide +kernel
theorem d_L_sample_21 : decode b_L_sample 21 = .ok (.iconst 2, 1) := by decide +kernel
theorem d_L_sample_22 : decode b_L_sample 22 = .ok (.ireturn, 1) := by decide +kernel
theorem d_L_sample_23 : decode b_L_sample 23 = .ok (.iconst 0, 1) := by decide +kernel
theorem d_L_sample_24 : decode b_L_sample 24 = .ok (.ireturn, 1) := by decide +kernel
theorem d_L_date_0 : decode b_L_date 0 = .ok (.aload_n 3, 1) := by decide +kernel
theorem d_L_date_1 : decode b_L_date 1 = .ok (.iconst 0, 1) := by decide +kernel
theorem d_L_date_2 : decode b_L_date 2 = .ok (.aload_n 0, 1) := by decide +kernel
theorem d_L_date_3 : decode b_L_date 3 = .ok (.iload_n 1, 1) := by decide +kernel
theorem d_L_date_4 : decode b_L_date 4 = .ok (.iload_n 2, 1) := by decide +kernel
theorem d_L_date_5 : decode b_L_date 5 = .ok (.invokevirtual 54, 3) := by decide +kernel
theorem d_L_date_8 : decode b_L_date 8 = .ok (.i2l, 1) := by decide +kernel
theorem d_L_date_9 : decode b_L_date 9 = .ok (.lastore, 1) := by decide +kernel
theorem d_L_date_10 : decode b_L_date 10 = .ok (.goto 15, 3) := by decide +kernel
theorem d_L_date_13 : decode b_L_date 13 = .ok (.astore 4, 2) := by decide +kernel
theorem d_L_date_15 : decode b_L_date 15 = .ok (.iconst 1, 1) := by decide +kernel
theorem d_L_date_16 : decode b_L_date 16 = .ok (.ireturn, 1) := by decide +kernel
theorem d_L_date_17 : decode b_L_date 17 = .ok (.astore 4, 2) := by decide +kernel
theorem d_L_date_19 : decode b_L_date 19 = .ok (.iconst 2, 1) := by decide +kernel
theorem d_L_date_20 : decode b_L_date 20 = .ok (.ireturn, 1) := by decide +kernel
theorem d_L_date_21 : decode b_L_date 21 = .ok (.astore 4, 2) := by decide +kernel
theorem d_L_date_23 : decode b_L_date 23 = .ok (.iconst 3, 1) := by decide +kernel
theorem d_L_date_24 : decode b_L_date 24 = .ok (.ireturn, 1) := by decide +kernel
theorem d_L_date_25 : decode b_L_date 25 = .ok (.iconst 0, 1) := by decide +kernel
theorem d_L_date_26 : decode b_L_date 26 = .ok (.ireturn, 1) := by decide +kernel
theorem d_L_take_0 : decode b_L_take 0 = .ok (.aload_n 3, 1) := by decide +kernel
theorem d_L_take_1 : decode b_L_take 1 = .ok (.iconst 0, 1) := by decide +kernel
theorem d_L_take_2 : decode b_L_take 2 = .ok (.aload_n 0, 1) := by decide +kernel
theorem d_L_take_3 : decode b_L_take 3 = .ok (.iload_n 1, 1) := by decide +kernel
theorem d_L_take_4 : decode b_L_take 4 = .ok (.iload_n 2, 1) := by decide +kernel
theorem d_L_take_5 : decode b_L_take 5 = .ok (.invokevirtual 57, 3) := by decide +kernel
theorem d_L_take_8 : decode b_L_take 8 = .ok (.i2l, 1) := by decide +kernel
theorem d_L_take_9 : decode b_L_take 9 = .ok (.lastore, 1) := by decide +kernel
theorem d_L_take_10 : decode b_L_take 10 = .ok (.goto 15, 3) := by decide +kernel
theorem d_L_take_13 : decode b_L_take 13 = .ok (.astore 4, 2) := by decide +kernel
theorem d_L_take_15 : decode b_L_take 15 = .ok (.iconst 1, 1) := by decide +kernel
theorem d_L_take_16 : decode b_L_take 16 = .ok (.ireturn, 1) := by decide +kernel
theorem d_L_take_17 : decode b_L_take 17 = .ok (.astore 4, 2) := by decide +kernel
theorem d_L_take_19 : decode b_L_take 19 = .ok (.iconst 2, 1) := by decide +kernel
theorem d_L_take_20 : decode b_L_take 20 = .ok (.ireturn, 1) := by decide +kernel
theorem d_L_take_21 : decode b_L_take 21 = .ok (.astore 4, 2) := by decide +kernel
theorem d_L_take_23 : decode b_L_take 23 = .ok (.iconst 3, 1) := by decide +kernel
theorem d_L_take_24 : decode b_L_take 24 = .ok (.ireturn, 1) := by decide +kernel
theorem d_L_take_25 : decode b_L_take 25 = .ok (.iconst 0, 1) := by decide +kernel
theorem d_L_take_26 : decode b_L_take 26 = .ok (.ireturn, 1) := by decide +kernel
theorem d_L_label_0 : decode b_L_label 0 = .ok (.aload_n 2, 1) := by decide +kernel
theorem d_L_label_1 : decode b_L_label 1 = .ok (.iconst 0, 1) := by decide +kernel
theorem d_L_label_2 : decode b_L_label 2 = .ok (.aload_n 0, 1) := by decide +kernel
theorem d_L_label_3 : decode b_L_label 3 = .ok (.iload_n 1, 1) := by decide +kernel
theorem d_L_label_4 : decode b_L_label 4 = .ok (.invokevirtual 60, 3) := by decide +kernel
theorem d_L_label_7 : decode b_L_label 7 = .ok (.i2l, 1) := by decide +kernel
theorem d_L_label_8 : decode b_L_label 8 = .ok (.lastore, 1) := by decide +kernel
theorem d_L_label_9 : decode b_L_label 9 = .ok (.goto 6, 3) := by decide +kernel
theorem d_L_label_12 : decode b_L_label 12 = .ok (.astore_n 3, 1) := by decide +kernel
theorem d_L_label_13 : decode b_L_label 13 = .ok (.iconst 1, 1) := by decide +kernel
theorem d_L_label_14 : decode b_L_label 14 = .ok (.ireturn, 1) := by decide +kernel
theorem d_L_label_15 : decode b_L_label 15 = .ok (.iconst 0, 1) := by decide +kernel
theorem d_L_label_16 : decode b_L_label 16 = .ok (.ireturn, 1) := by decide +kernel
theorem d_L_again_0 : decode b_L_again 0 = .ok (.aload_n 2, 1) := by decide +kernel
theorem d_L_again_1 : decode b_L_again 1 = .ok (.iconst 0, 1) := by decide +kernel
theorem d_L_again_2 : decode b_L_again 2 = .ok (.aload_n 0, 1) := by decide +kernel
theorem d_L_again_3 : decode b_L_again 3 = .ok (.iload_n 1, 1) := by decide +kernel
theorem d_L_again_4 : decode b_L_again 4 = .ok (.invokevirtual 64, 3) := by decide +kernel
theorem d_L_again_7 : decode b_L_again 7 = .ok (.i2l, 1) := by decide +kernel
theorem d_L_again_8 : decode b_L_again 8 = .ok (.lastore, 1) := by decide +kernel
theorem d_L_again_9 : decode b_L_again 9 = .ok (.goto 9, 3) := by decide +kernel
theorem d_L_again_12 : decode b_L_again 12 = .ok (.astore_n 3, 1) := by decide +kernel
theorem d_L_again_13 : decode b_L_again 13 = .ok (.iconst 1, 1) := by decide +kernel
theorem d_L_again_14 : decode b_L_again 14 = .ok (.ireturn, 1) := by decide +kernel
theorem d_L_again_15 : decode b_L_again 15 = .ok (.astore_n 3, 1) := by decide +kernel
theorem d_L_again_16 : decode b_L_again 16 = .ok (.iconst 2, 1) := by decide +kernel
theorem d_L_again_17 : decode b_L_again 17 = .ok (.ireturn, 1) := by decide +kernel
theorem d_L_again_18 : decode b_L_again 18 = .ok (.iconst 0, 1) := by decide +kernel
theorem d_L_again_19 : decode b_L_again 19 = .ok (.ireturn, 1) := by decide +kernel
theorem d_L_close_0 : decode b_L_close 0 = .ok (.aload_n 3, 1) := by decide +kernel
theorem d_L_close_1 : decode b_L_close 1 = .ok (.iconst 0, 1) := by decide +kernel
theorem d_L_close_2 : decode b_L_close 2 = .ok (.aload_n 0, 1) := by decide +kernel
theorem d_L_close_3 : decode b_L_close 3 = .ok (.iload_n 1, 1) := by decide +kernel
theorem d_L_close_4 : decode b_L_close 4 = .ok (.iload_n 2, 1) := by decide +kernel
theorem d_L_close_5 : decode b_L_close 5 = .ok (.invokevirtual 67, 3) := by decide +kernel
theorem d_L_close_8 : decode b_L_close 8 = .ok (.i2l, 1) := by decide +kernel
theorem d_L_close_9 : decode b_L_close 9 = .ok (.lastore, 1) := by decide +kernel
theorem d_L_close_10 : decode b_L_close 10 = .ok (.goto 11, 3) := by decide +kernel
theorem d_L_close_13 : decode b_L_close 13 = .ok (.astore 4, 2) := by decide +kernel
theorem d_L_close_15 : decode b_L_close 15 = .ok (.iconst 1, 1) := by decide +kernel
theorem d_L_close_16 : decode b_L_close 16 = .ok (.ireturn, 1) := by decide +kernel
theorem d_L_close_17 : decode b_L_close 17 = .ok (.astore 4, 2) := by decide +kernel
theorem d_L_close_19 : decode b_L_close 19 = .ok (.iconst 2, 1) := by decide +kernel
theorem d_L_close_20 : decode b_L_close 20 = .ok (.ireturn, 1) := by decide +kernel
theorem d_L_close_21 : decode b_L_close 21 = .ok (.iconst 0, 1) := by decide +kernel
theorem d_L_close_22 : decode b_L_close 22 = .ok (.ireturn, 1) := by decide +kernel
theorem d_L_closeAll_0 : decode b_L_closeAll 0 = .ok (.aload_n 2, 1) := by decide +kernel
theorem d_L_closeAll_1 : decode b_L_closeAll 1 = .ok (.iconst 0, 1) := by decide +kernel
theorem d_L_closeAll_2 : decode b_L_closeAll 2 = .ok (.aload_n 0, 1) := by decide +kernel
theorem d_L_closeAll_3 : decode b_L_closeAll 3 = .ok (.iload_n 1, 1) := by decide +kernel
theorem d_L_closeAll_4 : decode b_L_closeAll 4 = .ok (.invokevirtual 70, 3) := by decide +kernel
theorem d_L_closeAll_7 : decode b_L_closeAll 7 = .ok (.i2l, 1) := by decide +kernel
theorem d_L_closeAll_8 : decode b_L_closeAll 8 = .ok (.lastore, 1) := by decide +kernel
theorem d_L_closeAll_9 : decode b_L_closeAll 9 = .ok (.goto 9, 3) := by decide +kernel
theorem d_L_closeAll_12 : decode b_L_closeAll 12 = .ok (.astore_n 3, 1) := by decide +kernel
theorem d_L_closeAll_13 : decode b_L_closeAll 13 = .ok (.iconst 1, 1) := by decide +kernel
theorem d_L_closeAll_14 : decode b_L_closeAll 14 = .ok (.ireturn, 1) := by decide +kernel
theorem d_L_closeAll_15 : decode b_L_closeAll 15 = .ok (.astore_n 3, 1) := by decide +kernel
theorem d_L_closeAll_16 : decode b_L_closeAll 16 = .ok (.iconst 2, 1) := by decide +kernel
theorem d_L_closeAll_17 : decode b_L_closeAll 17 = .ok (.ireturn, 1) := by decide +kernel
theorem d_L_closeAll_18 : decode b_L_closeAll 18 = .ok (.iconst 0, 1) := by decide +kernel
theorem d_L_closeAll_19 : decode b_L_closeAll 19 = .ok (.ireturn, 1) := by decide +kernel
theorem d_L_day_0 : decode b_L_day 0 = .ok (.aload_n 0, 1) := by decide +kernel
theorem d_L_day_1 : decode b_L_day 1 = .ok (.iload_n 1, 1) := by decide +kernel
theorem d_L_day_2 : decode b_L_day 2 = .ok (.invokevirtual 73, 3) := by decide +kernel
theorem d_L_day_5 : decode b_L_day 5 = .ok (.goto 9, 3) := by decide +kernel
theorem d_L_day_8 : decode b_L_day 8 = .ok (.astore_n 2, 1) := by decide +kernel
theorem d_L_day_9 : decode b_L_day 9 = .ok (.iconst 1, 1) := by decide +kernel
theorem d_L_day_10 : decode b_L_day 10 = .ok (.ireturn, 1) := by decide +kernel
theorem d_L_day_11 : decode b_L_day 11 = .ok (.astore_n 2, 1) := by decide +kernel
theorem d_L_day_12 : decode b_L_day 12 = .ok (.iconst 2, 1) := by decide +kernel
theorem d_L_day_13 : decode b_L_day 13 = .ok (.ireturn, 1) := by decide +kernel
theorem d_L_day_14 : decode b_L_day 14 = .ok (.iconst 0, 1) := by decide +kernel
theorem d_L_day_15 : decode b_L_day 15 = .ok (.ireturn, 1) := by decide +kernel
theorem d_L_differ_0 : decode b_L_differ 0 = .ok (.aload_n 3, 1) := by decide +kernel
theorem d_L_differ_1 : decode b_L_differ 1 = .ok (.iconst 0, 1) := by decide +kernel
theorem d_L_differ_2 : decode b_L_differ 2 = .ok (.aload_n 0, 1) := by decide +kernel
theorem d_L_differ_3 : decode b_L_differ 3 = .ok (.iload_n 1, 1) := by decide +kernel
theorem d_L_differ_4 : decode b_L_differ 4 = .ok (.iload_n 2, 1) := by decide +kernel
theorem d_L_differ_5 : decode b_L_differ 5 = .ok (.invokevirtual 77, 3) := by decide +kernel
theorem d_L_differ_8 : decode b_L_differ 8 = .ok (.i2l, 1) := by decide +kernel
theorem d_L_differ_9 : decode b_L_differ 9 = .ok (.lastore, 1) := by decide +kernel
theorem d_L_differ_10 : decode b_L_differ 10 = .ok (.goto 11, 3) := by decide +kernel
theorem d_L_differ_13 : decode b_L_differ 13 = .ok (.astore 4, 2) := by decide +kernel
theorem d_L_differ_15 : decode b_L_differ 15 = .ok (.iconst 1, 1) := by decide +kernel
theorem d_L_differ_16 : decode b_L_differ 16 = .ok (.ireturn, 1) := by decide +kernel
theorem d_L_differ_17 : decode b_L_differ 17 = .ok (.astore 4, 2) := by decide +kernel
theorem d_L_differ_19 : decode b_L_differ 19 = .ok (.iconst 2, 1) := by decide +kernel
theorem d_L_differ_20 : decode b_L_differ 20 = .ok (.ireturn, 1) := by decide +kernel
theorem d_L_differ_21 : decode b_L_differ 21 = .ok (.iconst 0, 1) := by decide +kernel
theorem d_L_differ_22 : decode b_L_differ 22 = .ok (.ireturn, 1) := by decide +kernel
theorem d_L_claim_0 : decode b_L_claim 0 = .ok (.aload_n 3, 1) := by decide +kernel
theorem d_L_claim_1 : decode b_L_claim 1 = .ok (.iconst 0, 1) := by decide +kernel
theorem d_L_claim_2 : decode b_L_claim 2 = .ok (.aload_n 0, 1) := by decide +kernel
theorem d_L_claim_3 : decode b_L_claim 3 = .ok (.iload_n 1, 1) := by decide +kernel
theorem d_L_claim_4 : decode b_L_claim 4 = .ok (.iload_n 2, 1) := by decide +kernel
theorem d_L_claim_5 : decode b_L_claim 5 = .ok (.invokevirtual 80, 3) := by decide +kernel
theorem d_L_claim_8 : decode b_L_claim 8 = .ok (.i2l, 1) := by decide +kernel
theorem d_L_claim_9 : decode b_L_claim 9 = .ok (.lastore, 1) := by decide +kernel
theorem d_L_claim_10 : decode b_L_claim 10 = .ok (.goto 11, 3) := by decide +kernel
theorem d_L_claim_13 : decode b_L_claim 13 = .ok (.astore 4, 2) := by decide +kernel
theorem d_L_claim_15 : decode b_L_claim 15 = .ok (.iconst 1, 1) := by decide +kernel
theorem d_L_claim_16 : decode b_L_claim 16 = .ok (.ireturn, 1) := by decide +kernel
theorem d_L_claim_17 : decode b_L_claim 17 = .ok (.astore 4, 2) := by decide +kernel
theorem d_L_claim_19 : decode b_L_claim 19 = .ok (.iconst 2, 1) := by decide +kernel
theorem d_L_claim_20 : decode b_L_claim 20 = .ok (.ireturn, 1) := by decide +kernel
theorem d_L_claim_21 : decode b_L_claim 21 = .ok (.iconst 0, 1) := by decide +kernel
theorem d_L_claim_22 : decode b_L_claim 22 = .ok (.ireturn, 1) := by decide +kernel
theorem d_L_unit_0 : decode b_L_unit 0 = .ok (.aload_n 3, 1) := by decide +kernel
theorem d_L_unit_1 : decode b_L_unit 1 = .ok (.iconst 0, 1) := by decide +kernel
theorem d_L_unit_2 : decode b_L_unit 2 = .ok (.aload_n 0, 1) := by decide +kernel
theorem d_L_unit_3 : decode b_L_unit 3 = .ok (.iload_n 1, 1) := by decide +kernel
theorem d_L_unit_4 : decode b_L_unit 4 = .ok (.iload_n 2, 1) := by decide +kernel
theorem d_L_unit_5 : decode b_L_unit 5 = .ok (.invokevirtual 83, 3) := by decide +kernel
theorem d_L_unit_8 : decode b_L_unit 8 = .ok (.i2l, 1) := by decide +kernel
theorem d_L_unit_9 : decode b_L_unit 9 = .ok (.lastore, 1) := by decide +kernel
theorem d_L_unit_10 : decode b_L_unit 10 = .ok (.goto 11, 3) := by decide +kernel
theorem d_L_unit_13 : decode b_L_unit 13 = .ok (.astore 4, 2) := by decide +kernel
theorem d_L_unit_15 : decode b_L_unit 15 = .ok (.iconst 1, 1) := by decide +kernel
theorem d_L_unit_16 : decode b_L_unit 16 = .ok (.ireturn, 1) := by decide +kernel
theorem d_L_unit_17 : decode b_L_unit 17 = .ok (.astore 4, 2) := by decide +kernel
theorem d_L_unit_19 : decode b_L_unit 19 = .ok (.iconst 2, 1) := by decide +kernel
theorem d_L_unit_20 : decode b_L_unit 20 = .ok (.ireturn, 1) := by decide +kernel
theorem d_L_unit_21 : decode b_L_unit 21 = .ok (.iconst 0, 1) := by decide +kernel
theorem d_L_unit_22 : decode b_L_unit 22 = .ok (.ireturn, 1) := by decide +kernel
theorem d_L_told_0 : decode b_L_told 0 = .ok (.aload 4, 2) := by decide +kernel
theorem d_L_told_2 : decode b_L_told 2 = .ok (.iconst 0, 1) := by decide +kernel
theorem d_L_told_3 : decode b_L_told 3 = .ok (.aload_n 0, 1) := by decide +kernel
theorem d_L_told_4 : decode b_L_told 4 = .ok (.iload_n 1, 1) := by decide +kernel
theorem d_L_told_5 : decode b_L_told 5 = .ok (.iload_n 2, 1) := by decide +kernel
theorem d_L_told_6 : decode b_L_told 6 = .ok (.iload_n 3, 1) := by decide +kernel
theorem d_L_told_7 : decode b_L_told 7 = .ok (.invokevirtual 86, 3) := by decide +kernel
theorem d_L_told_10 : decode b_L_told 10 = .ok (.i2l, 1) := by decide +kernel
theorem d_L_told_11 : decode b_L_told 11 = .ok (.lastore, 1) := by decide +kernel
theorem d_L_told_12 : decode b_L_told 12 = .ok (.goto 11, 3) := by decide +kernel
theorem d_L_told_15 : decode b_L_told 15 = .ok (.astore 5, 2) := by decide +kernel
theorem d_L_told_17 : decode b_L_told 17 = .ok (.iconst 1, 1) := by decide +kernel
theorem d_L_told_18 : decode b_L_told 18 = .ok (.ireturn, 1) := by decide +kernel
theorem d_L_told_19 : decode b_L_told 19 = .ok (.astore 5, 2) := by decide +kernel
theorem d_L_told_21 : decode b_L_told 21 = .ok (.iconst 2, 1) := by decide +kernel
theorem d_L_told_22 : decode b_L_told 22 = .ok (.ireturn, 1) := by decide +kernel
theorem d_L_told_23 : decode b_L_told 23 = .ok (.iconst 0, 1) := by decide +kernel
theorem d_L_told_24 : decode b_L_told 24 = .ok (.ireturn, 1) := by decide +kernel
theorem d_L_state_0 : decode b_L_state 0 = .ok (.aload_n 3, 1) := by decide +kernel
theorem d_L_state_1 : decode b_L_state 1 = .ok (.iconst 0, 1) := by decide +kernel
theorem d_L_state_2 : decode b_L_state 2 = .ok (.aload_n 0, 1) := by decide +kernel
theorem d_L_state_3 : decode b_L_state 3 = .ok (.iload_n 1, 1) := by decide +kernel
theorem d_L_state_4 : decode b_L_state 4 = .ok (.iload_n 2, 1) := by decide +kernel
theorem d_L_state_5 : decode b_L_state 5 = .ok (.invokevirtual 89, 3) := by decide +kernel
theorem d_L_state_8 : decode b_L_state 8 = .ok (.i2l, 1) := by decide +kernel
theorem d_L_state_9 : decode b_L_state 9 = .ok (.lastore, 1) := by decide +kernel
theorem d_L_state_10 : decode b_L_state 10 = .ok (.goto 11, 3) := by decide +kernel
theorem d_L_state_13 : decode b_L_state 13 = .ok (.astore 4, 2) := by decide +kernel
theorem d_L_state_15 : decode b_L_state 15 = .ok (.iconst 1, 1) := by decide +kernel
theorem d_L_state_16 : decode b_L_state 16 = .ok (.ireturn, 1) := by decide +kernel
theorem d_L_state_17 : decode b_L_state 17 = .ok (.astore 4, 2) := by decide +kernel
theorem d_L_state_19 : decode b_L_state 19 = .ok (.iconst 2, 1) := by decide +kernel
theorem d_L_state_20 : decode b_L_state 20 = .ok (.ireturn, 1) := by decide +kernel
theorem d_L_state_21 : decode b_L_state 21 = .ok (.iconst 0, 1) := by decide +kernel
theorem d_L_state_22 : decode b_L_state 22 = .ok (.ireturn, 1) := by decide +kernel
