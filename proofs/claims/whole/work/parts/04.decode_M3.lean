/-! rows that decode, M -/
theorem dM_probe_5 : decode cM_probe 5 = .ok (.ifCond .eq 16, 3) := by decide +kernel
theorem dM_probe_8 : decode cM_probe 8 = .ok (.aload_n 0, 1) := by decide +kernel
theorem dM_probe_9 : decode cM_probe 9 = .ok (.getfield 38, 3) := by decide +kernel
theorem dM_probe_12 : decode cM_probe 12 = .ok (.iload_n 1, 1) := by decide +kernel
theorem dM_probe_13 : decode cM_probe 13 = .ok (.baload, 1) := by decide +kernel
theorem dM_probe_14 : decode cM_probe 14 = .ok (.ifCond .ne 7, 3) := by decide +kernel
theorem dM_probe_17 : decode cM_probe 17 = .ok (.iconst 1, 1) := by decide +kernel
theorem dM_probe_18 : decode cM_probe 18 = .ok (.goto 4, 3) := by decide +kernel
theorem dM_probe_21 : decode cM_probe 21 = .ok (.iconst 0, 1) := by decide +kernel
theorem dM_probe_22 : decode cM_probe 22 = .ok (.ireturn, 1) := by decide +kernel
theorem dM_increment_0 : decode cM_increment 0 = .ok (.aload_n 0, 1) := by decide +kernel
theorem dM_increment_1 : decode cM_increment 1 = .ok (.iload_n 1, 1) := by decide +kernel
theorem dM_increment_2 : decode cM_increment 2 = .ok (.invokevirtual 175, 3) := by decide +kernel
theorem dM_increment_5 : decode cM_increment 5 = .ok (.ifCond .eq 11, 3) := by decide +kernel
theorem dM_increment_8 : decode cM_increment 8 = .ok (.aload_n 0, 1) := by decide +kernel
theorem dM_increment_9 : decode cM_increment 9 = .ok (.iload_n 1, 1) := by decide +kernel
theorem dM_increment_10 : decode cM_increment 10 = .ok (.invokevirtual 178, 3) := by decide +kernel
theorem dM_increment_13 : decode cM_increment 13 = .ok (.goto 5, 3) := by decide +kernel
theorem dM_increment_16 : decode cM_increment 16 = .ok (.ldc 181, 2) := by decide +kernel
theorem dM_increment_18 : decode cM_increment 18 = .ok (.ireturn, 1) := by decide +kernel
theorem dM_reset_0 : decode cM_reset 0 = .ok (.aload_n 0, 1) := by decide +kernel
theorem dM_reset_1 : decode cM_reset 1 = .ok (.iload_n 1, 1) := by decide +kernel
theorem dM_reset_2 : decode cM_reset 2 = .ok (.invokevirtual 175, 3) := by decide +kernel
theorem dM_reset_5 : decode cM_reset 5 = .ok (.ifCond .eq 23, 3) := by decide +kernel
theorem dM_reset_8 : decode cM_reset 8 = .ok (.aload_n 0, 1) := by decide +kernel
theorem dM_reset_9 : decode cM_reset 9 = .ok (.getfield 25, 3) := by decide +kernel
theorem dM_reset_12 : decode cM_reset 12 = .ok (.iload_n 1, 1) := by decide +kernel
theorem dM_reset_13 : decode cM_reset 13 = .ok (.baload, 1) := by decide +kernel
theorem dM_reset_14 : decode cM_reset 14 = .ok (.ifCond .eq 14, 3) := by decide +kernel
theorem dM_reset_17 : decode cM_reset 17 = .ok (.aload_n 0, 1) := by decide +kernel
theorem dM_reset_18 : decode cM_reset 18 = .ok (.bipush 24, 2) := by decide +kernel
theorem dM_reset_20 : decode cM_reset 20 = .ok (.iload_n 1, 1) := by decide +kernel
theorem dM_reset_21 : decode cM_reset 21 = .ok (.iadd, 1) := by decide +kernel
theorem dM_reset_22 : decode cM_reset 22 = .ok (.invokevirtual 178, 3) := by decide +kernel
theorem dM_reset_25 : decode cM_reset 25 = .ok (.goto 5, 3) := by decide +kernel
theorem dM_reset_28 : decode cM_reset 28 = .ok (.ldc 181, 2) := by decide +kernel
theorem dM_reset_30 : decode cM_reset 30 = .ok (.ireturn, 1) := by decide +kernel
theorem dM_start_0 : decode cM_start 0 = .ok (.aload_n 0, 1) := by decide +kernel
theorem dM_start_1 : decode cM_start 1 = .ok (.getfield 96, 3) := by decide +kernel
theorem dM_start_4 : decode cM_start 4 = .ok (.ifCond .eq 10, 3) := by decide +kernel
theorem dM_start_7 : decode cM_start 7 = .ok (.aload_n 0, 1) := by decide +kernel
theorem dM_start_8 : decode cM_start 8 = .ok (.getfield 182, 3) := by decide +kernel
theorem dM_start_11 : decode cM_start 11 = .ok (.ifCond .eq 5, 3) := by decide +kernel
theorem dM_start_14 : decode cM_start 14 = .ok (.iconst 0, 1) := by decide +kernel
theorem dM_start_15 : decode cM_start 15 = .ok (.ireturn, 1) := by decide +kernel
theorem dM_start_16 : decode cM_start 16 = .ok (.aload_n 0, 1) := by decide +kernel
theorem dM_start_17 : decode cM_start 17 = .ok (.iconst 1, 1) := by decide +kernel
theorem dM_start_18 : decode cM_start 18 = .ok (.putfield 182, 3) := by decide +kernel
theorem dM_start_21 : decode cM_start 21 = .ok (.aload_n 0, 1) := by decide +kernel
theorem dM_start_22 : decode cM_start 22 = .ok (.iconst 0, 1) := by decide +kernel
theorem dM_start_23 : decode cM_start 23 = .ok (.putfield 185, 3) := by decide +kernel
theorem dM_start_26 : decode cM_start 26 = .ok (.aload_n 0, 1) := by decide +kernel
theorem dM_start_27 : decode cM_start 27 = .ok (.iconst 0, 1) := by decide +kernel
theorem dM_start_28 : decode cM_start 28 = .ok (.putfield 188, 3) := by decide +kernel
theorem dM_start_31 : decode cM_start 31 = .ok (.aload_n 0, 1) := by decide +kernel
theorem dM_start_32 : decode cM_start 32 = .ok (.aload_n 0, 1) := by decide +kernel
theorem dM_start_33 : decode cM_start 33 = .ok (.getfield 191, 3) := by decide +kernel
theorem dM_start_36 : decode cM_start 36 = .ok (.iconst 1, 1) := by decide +kernel
theorem dM_start_37 : decode cM_start 37 = .ok (.iadd, 1) := by decide +kernel
theorem dM_start_38 : decode cM_start 38 = .ok (.putfield 191, 3) := by decide +kernel
theorem dM_start_41 : decode cM_start 41 = .ok (.aload_n 0, 1) := by decide +kernel
theorem dM_start_42 : decode cM_start 42 = .ok (.getfield 83, 3) := by decide +kernel
theorem dM_start_45 : decode cM_start 45 = .ok (.iconst 0, 1) := by decide +kernel
theorem dM_start_46 : decode cM_start 46 = .ok (.aload_n 0, 1) := by decide +kernel
theorem dM_start_47 : decode cM_start 47 = .ok (.getfield 83, 3) := by decide +kernel
theorem dM_start_50 : decode cM_start 50 = .ok (.iconst 0, 1) := by decide +kernel
theorem dM_start_51 : decode cM_start 51 = .ok (.iaload, 1) := by decide +kernel
theorem dM_start_52 : decode cM_start 52 = .ok (.iconst 1, 1) := by decide +kernel
theorem dM_start_53 : decode cM_start 53 = .ok (.iadd, 1) := by decide +kernel
theorem dM_start_54 : decode cM_start 54 = .ok (.iastore, 1) := by decide +kernel
theorem dM_start_55 : decode cM_start 55 = .ok (.iconst 1, 1) := by decide +kernel
theorem dM_start_56 : decode cM_start 56 = .ok (.ireturn, 1) := by decide +kernel
theorem dM_note_0 : decode cM_note 0 = .ok (.aload_n 0, 1) := by decide +kernel
theorem dM_note_1 : decode cM_note 1 = .ok (.getfield 77, 3) := by decide +kernel
theorem dM_note_4 : decode cM_note 4 = .ok (.aload_n 0, 1) := by decide +kernel
theorem dM_note_5 : decode cM_note 5 = .ok (.getfield 188, 3) := by decide +kernel
theorem dM_note_8 : decode cM_note 8 = .ok (.iload_n 1, 1) := by decide +kernel
theorem dM_note_9 : decode cM_note 9 = .ok (.iastore, 1) := by decide +kernel
theorem dM_note_10 : decode cM_note 10 = .ok (.aload_n 0, 1) := by decide +kernel
theorem dM_note_11 : decode cM_note 11 = .ok (.aload_n 0, 1) := by decide +kernel
theorem dM_note_12 : decode cM_note 12 = .ok (.getfield 188, 3) := by decide +kernel
theorem dM_note_15 : decode cM_note 15 = .ok (.iconst 1, 1) := by decide +kernel
theorem dM_note_16 : decode cM_note 16 = .ok (.iadd, 1) := by decide +kernel
theorem dM_note_17 : decode cM_note 17 = .ok (.putfield 188, 3) := by decide +kernel
theorem dM_note_20 : decode cM_note 20 = .ok (.return_, 1) := by decide +kernel
theorem dM_countWay_0 : decode cM_countWay 0 = .ok (.iconst 0, 1) := by decide +kernel
theorem dM_countWay_1 : decode cM_countWay 1 = .ok (.istore_n 1, 1) := by decide +kernel
theorem dM_countWay_2 : decode cM_countWay 2 = .ok (.iload_n 1, 1) := by decide +kernel
theorem dM_countWay_3 : decode cM_countWay 3 = .ok (.aload_n 0, 1) := by decide +kernel
theorem dM_countWay_4 : decode cM_countWay 4 = .ok (.getfield 144, 3) := by decide +kernel
theorem dM_countWay_7 : decode cM_countWay 7 = .ok (.if_icmp .ge 101, 3) := by decide +kernel
theorem dM_countWay_10 : decode cM_countWay 10 = .ok (.aload_n 0, 1) := by decide +kernel
theorem dM_countWay_11 : decode cM_countWay 11 = .ok (.getfield 68, 3) := by decide +kernel
theorem dM_countWay_14 : decode cM_countWay 14 = .ok (.iload_n 1, 1) := by decide +kernel
theorem dM_countWay_15 : decode cM_countWay 15 = .ok (.iaload, 1) := by decide +kernel
theorem dM_countWay_16 : decode cM_countWay 16 = .ok (.aload_n 0, 1) := by decide +kernel
theorem dM_countWay_17 : decode cM_countWay 17 = .ok (.getfield 188, 3) := by decide +kernel
theorem dM_countWay_20 : decode cM_countWay 20 = .ok (.if_icmp .ne 7, 3) := by decide +kernel
theorem dM_countWay_23 : decode cM_countWay 23 = .ok (.iconst 1, 1) := by decide +kernel
theorem dM_countWay_24 : decode cM_countWay 24 = .ok (.goto 4, 3) := by decide +kernel
theorem dM_countWay_27 : decode cM_countWay 27 = .ok (.iconst 0, 1) := by decide +kernel
theorem dM_countWay_28 : decode cM_countWay 28 = .ok (.istore_n 2, 1) := by decide +kernel
theorem dM_countWay_29 : decode cM_countWay 29 = .ok (.iconst 0, 1) := by decide +kernel
theorem dM_countWay_30 : decode cM_countWay 30 = .ok (.istore_n 3, 1) := by decide +kernel
theorem dM_countWay_31 : decode cM_countWay 31 = .ok (.iload_n 3, 1) := by decide +kernel
theorem dM_countWay_32 : decode cM_countWay 32 = .ok (.aload_n 0, 1) := by decide +kernel
theorem dM_countWay_33 : decode cM_countWay 33 = .ok (.getfield 188, 3) := by decide +kernel
theorem dM_countWay_36 : decode cM_countWay 36 = .ok (.if_icmp .ge 39, 3) := by decide +kernel
theorem dM_countWay_39 : decode cM_countWay 39 = .ok (.iload_n 2, 1) := by decide +kernel
theorem dM_countWay_40 : decode cM_countWay 40 = .ok (.ifCond .eq 35, 3) := by decide +kernel
theorem dM_countWay_43 : decode cM_countWay 43 = .ok (.aload_n 0, 1) := by decide +kernel
theorem dM_countWay_44 : decode cM_countWay 44 = .ok (.getfield 71, 3) := by decide +kernel
theorem dM_countWay_47 : decode cM_countWay 47 = .ok (.bipush 16, 2) := by decide +kernel
theorem dM_countWay_49 : decode cM_countWay 49 = .ok (.iload_n 1, 1) := by decide +kernel
theorem dM_countWay_50 : decode cM_countWay 50 = .ok (.imul, 1) := by decide +kernel
theorem dM_countWay_51 : decode cM_countWay 51 = .ok (.iload_n 3, 1) := by decide +kernel
theorem dM_countWay_52 : decode cM_countWay 52 = .ok (.iadd, 1) := by decide +kernel
theorem dM_countWay_53 : decode cM_countWay 53 = .ok (.iaload, 1) := by decide +kernel
theorem dM_countWay_54 : decode cM_countWay 54 = .ok (.aload_n 0, 1) := by decide +kernel
theorem dM_countWay_55 : decode cM_countWay 55 = .ok (.getfield 77, 3) := by decide +kernel
theorem dM_countWay_58 : decode cM_countWay 58 = .ok (.iload_n 3, 1) := by decide +kernel
theorem dM_countWay_59 : decode cM_countWay 59 = .ok (.iaload, 1) := by decide +kernel
theorem dM_countWay_60 : decode cM_countWay 60 = .ok (.if_icmp .ne 7, 3) := by decide +kernel
theorem dM_countWay_63 : decode cM_countWay 63 = .ok (.iconst 1, 1) := by decide +kernel
theorem dM_countWay_64 : decode cM_countWay 64 = .ok (.goto 4, 3) := by decide +kernel
theorem dM_countWay_67 : decode cM_countWay 67 = .ok (.iconst 0, 1) := by decide +kernel
theorem dM_countWay_68 : decode cM_countWay 68 = .ok (.istore_n 2, 1) := by decide +kernel
theorem dM_countWay_69 : decode cM_countWay 69 = .ok (.iinc 3 1, 3) := by decide +kernel
theorem dM_countWay_72 : decode cM_countWay 72 = .ok (.goto (-41), 3) := by decide +kernel
theorem dM_countWay_75 : decode cM_countWay 75 = .ok (.aload_n 0, 1) := by decide +kernel
theorem dM_countWay_76 : decode cM_countWay 76 = .ok (.getfield 86, 3) := by decide +kernel
theorem dM_countWay_79 : decode cM_countWay 79 = .ok (.iload_n 1, 1) := by decide +kernel
theorem dM_countWay_80 : decode cM_countWay 80 = .ok (.iload_n 2, 1) := by decide +kernel
theorem dM_countWay_81 : decode cM_countWay 81 = .ok (.ifCond .eq 14, 3) := by decide +kernel
theorem dM_countWay_84 : decode cM_countWay 84 = .ok (.aload_n 0, 1) := by decide +kernel
theorem dM_countWay_85 : decode cM_countWay 85 = .ok (.getfield 86, 3) := by decide +kernel
theorem dM_countWay_88 : decode cM_countWay 88 = .ok (.iload_n 1, 1) := by decide +kernel
theorem dM_countWay_89 : decode cM_countWay 89 = .ok (.iaload, 1) := by decide +kernel
theorem dM_countWay_90 : decode cM_countWay 90 = .ok (.iconst 1, 1) := by decide +kernel
theorem dM_countWay_91 : decode cM_countWay 91 = .ok (.iadd, 1) := by decide +kernel
theorem dM_countWay_92 : decode cM_countWay 92 = .ok (.goto 9, 3) := by decide +kernel
theorem dM_countWay_95 : decode cM_countWay 95 = .ok (.aload_n 0, 1) := by decide +kernel
theorem dM_countWay_96 : decode cM_countWay 96 = .ok (.getfield 86, 3) := by decide +kernel
theorem dM_countWay_99 : decode cM_countWay 99 = .ok (.iload_n 1, 1) := by decide +kernel
theorem dM_countWay_100 : decode cM_countWay 100 = .ok (.iaload, 1) := by decide +kernel
theorem dM_countWay_101 : decode cM_countWay 101 = .ok (.iastore, 1) := by decide +kernel
theorem dM_countWay_102 : decode cM_countWay 102 = .ok (.iinc 1 1, 3) := by decide +kernel
theorem dM_countWay_105 : decode cM_countWay 105 = .ok (.goto (-103), 3) := by decide +kernel
theorem dM_countWay_108 : decode cM_countWay 108 = .ok (.return_, 1) := by decide +kernel
theorem dM_pass_0 : decode cM_pass 0 = .ok (.aload_n 0, 1) := by decide +kernel
theorem dM_pass_1 : decode cM_pass 1 = .ok (.getfield 80, 3) := by decide +kernel
theorem dM_pass_4 : decode cM_pass 4 = .ok (.iload_n 1, 1) := by decide +kernel
theorem dM_pass_5 : decode cM_pass 5 = .ok (.aload_n 0, 1) := by decide +kernel
theorem dM_pass_6 : decode cM_pass 6 = .ok (.getfield 80, 3) := by decide +kernel
theorem dM_pass_9 : decode cM_pass 9 = .ok (.iload_n 1, 1) := by decide +kernel
theorem dM_pass_10 : decode cM_pass 10 = .ok (.iaload, 1) := by decide +kernel
theorem dM_pass_11 : decode cM_pass 11 = .ok (.iconst 1, 1) := by decide +kernel
theorem dM_pass_12 : decode cM_pass 12 = .ok (.iadd, 1) := by decide +kernel
theorem dM_pass_13 : decode cM_pass 13 = .ok (.iastore, 1) := by decide +kernel
theorem dM_pass_14 : decode cM_pass 14 = .ok (.aload_n 0, 1) := by decide +kernel
theorem dM_pass_15 : decode cM_pass 15 = .ok (.aload_n 0, 1) := by decide +kernel
theorem dM_pass_16 : decode cM_pass 16 = .ok (.getfield 13, 3) := by decide +kernel
theorem dM_pass_19 : decode cM_pass 19 = .ok (.iload_n 1, 1) := by decide +kernel
theorem dM_pass_20 : decode cM_pass 20 = .ok (.iaload, 1) := by decide +kernel
theorem dM_pass_21 : decode cM_pass 21 = .ok (.putfield 185, 3) := by decide +kernel
theorem dM_pass_24 : decode cM_pass 24 = .ok (.aload_n 0, 1) := by decide +kernel
theorem dM_pass_25 : decode cM_pass 25 = .ok (.getfield 83, 3) := by decide +kernel
theorem dM_pass_28 : decode cM_pass 28 = .ok (.aload_n 0, 1) := by decide +kernel
theorem dM_pass_29 : decode cM_pass 29 = .ok (.getfield 185, 3) := by decide +kernel
theorem dM_pass_32 : decode cM_pass 32 = .ok (.aload_n 0, 1) := by decide +kernel
theorem dM_pass_33 : decode cM_pass 33 = .ok (.getfield 83, 3) := by decide +kernel
theorem dM_pass_36 : decode cM_pass 36 = .ok (.aload_n 0, 1) := by decide +kernel
theorem dM_pass_37 : decode cM_pass 37 = .ok (.getfield 185, 3) := by decide +kernel
theorem dM_pass_40 : decode cM_pass 40 = .ok (.iaload, 1) := by decide +kernel
theorem dM_pass_41 : decode cM_pass 41 = .ok (.iconst 1, 1) := by decide +kernel
theorem dM_pass_42 : decode cM_pass 42 = .ok (.iadd, 1) := by decide +kernel
theorem dM_pass_43 : decode cM_pass 43 = .ok (.iastore, 1) := by decide +kernel
theorem dM_pass_44 : decode cM_pass 44 = .ok (.aload_n 0, 1) := by decide +kernel
theorem dM_pass_45 : decode cM_pass 45 = .ok (.iload_n 1, 1) := by decide +kernel
theorem dM_pass_46 : decode cM_pass 46 = .ok (.invokevirtual 194, 3) := by decide +kernel
theorem dM_pass_49 : decode cM_pass 49 = .ok (.aload_n 0, 1) := by decide +kernel
theorem dM_pass_50 : decode cM_pass 50 = .ok (.getfield 25, 3) := by decide +kernel
theorem dM_pass_53 : decode cM_pass 53 = .ok (.iload_n 1, 1) := by decide +kernel
theorem dM_pass_54 : decode cM_pass 54 = .ok (.baload, 1) := by decide +kernel
theorem dM_pass_55 : decode cM_pass 55 = .ok (.ifCond .eq 23, 3) := by decide +kernel
theorem dM_pass_58 : decode cM_pass 58 = .ok (.aload_n 0, 1) := by decide +kernel
theorem dM_pass_59 : decode cM_pass 59 = .ok (.invokevirtual 197, 3) := by decide +kernel
theorem dM_pass_62 : decode cM_pass 62 = .ok (.aload_n 0, 1) := by decide +kernel
theorem dM_pass_63 : decode cM_pass 63 = .ok (.iconst 0, 1) := by decide +kernel
theorem dM_pass_64 : decode cM_pass 64 = .ok (.putfield 188, 3) := by decide +kernel
theorem dM_pass_67 : decode cM_pass 67 = .ok (.aload_n 0, 1) := by decide +kernel
theorem dM_pass_68 : decode cM_pass 68 = .ok (.bipush 24, 2) := by decide +kernel
theorem dM_pass_70 : decode cM_pass 70 = .ok (.iload_n 1, 1) := by decide +kernel
theorem dM_pass_71 : decode cM_pass 71 = .ok (.iadd, 1) := by decide +kernel
theorem dM_pass_72 : decode cM_pass 72 = .ok (.invokevirtual 194, 3) := by decide +kernel
theorem dM_pass_75 : decode cM_pass 75 = .ok (.goto 30, 3) := by decide +kernel
theorem dM_pass_78 : decode cM_pass 78 = .ok (.aload_n 0, 1) := by decide +kernel
theorem dM_pass_79 : decode cM_pass 79 = .ok (.getfield 185, 3) := by decide +kernel
theorem dM_pass_82 : decode cM_pass 82 = .ok (.iconst 1, 1) := by decide +kernel
theorem dM_pass_83 : decode cM_pass 83 = .ok (.if_icmp .ne 22, 3) := by decide +kernel
theorem dM_pass_86 : decode cM_pass 86 = .ok (.aload_n 0, 1) := by decide +kernel
theorem dM_pass_87 : decode cM_pass 87 = .ok (.invokevirtual 197, 3) := by decide +kernel
theorem dM_pass_90 : decode cM_pass 90 = .ok (.aload_n 0, 1) := by decide +kernel
theorem dM_pass_91 : decode cM_pass 91 = .ok (.iconst 0, 1) := by decide +kernel
theorem dM_pass_92 : decode cM_pass 92 = .ok (.putfield 182, 3) := by decide +kernel
theorem dM_pass_95 : decode cM_pass 95 = .ok (.aload_n 0, 1) := by decide +kernel
theorem dM_pass_96 : decode cM_pass 96 = .ok (.aload_n 0, 1) := by decide +kernel
theorem dM_pass_97 : decode cM_pass 97 = .ok (.getfield 200, 3) := by decide +kernel
theorem dM_pass_100 : decode cM_pass 100 = .ok (.iconst 1, 1) := by decide +kernel
theorem dM_pass_101 : decode cM_pass 101 = .ok (.iadd, 1) := by decide +kernel
theorem dM_pass_102 : decode cM_pass 102 = .ok (.putfield 200, 3) := by decide +kernel
theorem dM_pass_105 : decode cM_pass 105 = .ok (.return_, 1) := by decide +kernel
theorem dM_take_0 : decode cM_take 0 = .ok (.aload_n 0, 1) := by decide +kernel
theorem dM_take_1 : decode cM_take 1 = .ok (.getfield 182, 3) := by decide +kernel
theorem dM_take_4 : decode cM_take 4 = .ok (.ifCond .eq 24, 3) := by decide +kernel
theorem dM_take_7 : decode cM_take 7 = .ok (.aload_n 0, 1) := by decide +kernel
theorem dM_take_8 : decode cM_take 8 = .ok (.iload_n 1, 1) := by decide +kernel
theorem dM_take_9 : decode cM_take 9 = .ok (.invokevirtual 175, 3) := by decide +kernel
theorem dM_take_12 : decode cM_take 12 = .ok (.ifCond .eq 16, 3) := by decide +kernel
theorem dM_take_15 : decode cM_take 15 = .ok (.aload_n 0, 1) := by decide +kernel
theorem dM_take_16 : decode cM_take 16 = .ok (.getfield 7, 3) := by decide +kernel
theorem dM_take_19 : decode cM_take 19 = .ok (.iload_n 1, 1) := by decide +kernel
theorem dM_take_20 : decode cM_take 20 = .ok (.iaload, 1) := by decide +kernel
theorem dM_take_21 : decode cM_take 21 = .ok (.aload_n 0, 1) := by decide +kernel
theorem dM_take_22 : decode cM_take 22 = .ok (.getfield 185, 3) := by decide +kernel
theorem dM_take_25 : decode cM_take 25 = .ok (.if_icmp .eq 5, 3) := by decide +kernel
theorem dM_take_28 : decode cM_take 28 = .ok (.iconst (-1), 1) := by decide +kernel
theorem dM_take_29 : decode cM_take 29 = .ok (.ireturn, 1) := by decide +kernel
theorem dM_take_30 : decode cM_take 30 = .ok (.aload_n 0, 1) := by decide +kernel
theorem dM_take_31 : decode cM_take 31 = .ok (.iload_n 1, 1) := by decide +kernel
theorem dM_take_32 : decode cM_take 32 = .ok (.invokevirtual 203, 3) := by decide +kernel
theorem dM_take_35 : decode cM_take 35 = .ok (.aload_n 0, 1) := by decide +kernel
theorem dM_take_36 : decode cM_take 36 = .ok (.getfield 13, 3) := by decide +kernel
theorem dM_take_39 : decode cM_take 39 = .ok (.iload_n 1, 1) := by decide +kernel
theorem dM_take_40 : decode cM_take 40 = .ok (.iaload, 1) := by decide +kernel
theorem dM_take_41 : decode cM_take 41 = .ok (.ireturn, 1) := by decide +kernel
theorem dM_pick_0 : decode cM_pick 0 = .ok (.iconst 0, 1) := by decide +kernel
theorem dM_pick_1 : decode cM_pick 1 = .ok (.istore_n 2, 1) := by decide +kernel
theorem dM_pick_2 : decode cM_pick 2 = .ok (.iconst 0, 1) := by decide +kernel
theorem dM_pick_3 : decode cM_pick 3 = .ok (.istore_n 3, 1) := by decide +kernel
theorem dM_pick_4 : decode cM_pick 4 = .ok (.iload_n 3, 1) := by decide +kernel
theorem dM_pick_5 : decode cM_pick 5 = .ok (.aload_n 0, 1) := by decide +kernel
theorem dM_pick_6 : decode cM_pick 6 = .ok (.getfield 100, 3) := by decide +kernel
theorem dM_pick_9 : decode cM_pick 9 = .ok (.if_icmp .ge 30, 3) := by decide +kernel
theorem dM_pick_12 : decode cM_pick 12 = .ok (.aload_n 0, 1) := by decide +kernel
theorem dM_pick_13 : decode cM_pick 13 = .ok (.getfield 7, 3) := by decide +kernel
theorem dM_pick_16 : decode cM_pick 16 = .ok (.iload_n 3, 1) := by decide +kernel
theorem dM_pick_17 : decode cM_pick 17 = .ok (.iaload, 1) := by decide +kernel
theorem dM_pick_18 : decode cM_pick 18 = .ok (.aload_n 0, 1) := by decide +kernel
theorem dM_pick_19 : decode cM_pick 19 = .ok (.getfield 185, 3) := by decide +kernel
theorem dM_pick_22 : decode cM_pick 22 = .ok (.if_icmp .ne 9, 3) := by decide +kernel
theorem dM_pick_25 : decode cM_pick 25 = .ok (.iload_n 2, 1) := by decide +kernel
theorem dM_pick_26 : decode cM_pick 26 = .ok (.iconst 1, 1) := by decide +kernel
theorem dM_pick_27 : decode cM_pick 27 = .ok (.iadd, 1) := by decide +kernel
theorem dM_pick_28 : decode cM_pick 28 = .ok (.goto 4, 3) := by decide +kernel
theorem dM_pick_31 : decode cM_pick 31 = .ok (.iload_n 2, 1) := by decide +kernel
theorem dM_pick_32 : decode cM_pick 32 = .ok (.istore_n 2, 1) := by decide +kernel
theorem dM_pick_33 : decode cM_pick 33 = .ok (.iinc 3 1, 3) := by decide +kernel
theorem dM_pick_36 : decode cM_pick 36 = .ok (.goto (-32), 3) := by decide +kernel
theorem dM_pick_39 : decode cM_pick 39 = .ok (.iload_n 1, 1) := by decide +kernel
theorem dM_pick_40 : decode cM_pick 40 = .ok (.iload_n 2, 1) := by decide +kernel
theorem dM_pick_41 : decode cM_pick 41 = .ok (.irem, 1) := by decide +kernel
theorem dM_pick_42 : decode cM_pick 42 = .ok (.istore_n 3, 1) := by decide +kernel
theorem dM_pick_43 : decode cM_pick 43 = .ok (.iconst 0, 1) := by decide +kernel
theorem dM_pick_44 : decode cM_pick 44 = .ok (.istore 4, 2) := by decide +kernel
theorem dM_pick_46 : decode cM_pick 46 = .ok (.aload_n 0, 1) := by decide +kernel
theorem dM_pick_47 : decode cM_pick 47 = .ok (.getfield 7, 3) := by decide +kernel
theorem dM_pick_50 : decode cM_pick 50 = .ok (.iload 4, 2) := by decide +kernel
theorem dM_pick_52 : decode cM_pick 52 = .ok (.iaload, 1) := by decide +kernel
theorem dM_pick_53 : decode cM_pick 53 = .ok (.aload_n 0, 1) := by decide +kernel
theorem dM_pick_54 : decode cM_pick 54 = .ok (.getfield 185, 3) := by decide +kernel
theorem dM_pick_57 : decode cM_pick 57 = .ok (.if_icmp .ne 7, 3) := by decide +kernel
theorem dM_pick_60 : decode cM_pick 60 = .ok (.iload_n 3, 1) := by decide +kernel
theorem dM_pick_61 : decode cM_pick 61 = .ok (.ifCond .le 34, 3) := by decide +kernel
theorem dM_pick_64 : decode cM_pick 64 = .ok (.aload_n 0, 1) := by decide +kernel
theorem dM_pick_65 : decode cM_pick 65 = .ok (.getfield 7, 3) := by decide +kernel
theorem dM_pick_68 : decode cM_pick 68 = .ok (.iload 4, 2) := by decide +kernel
theorem dM_pick_70 : decode cM_pick 70 = .ok (.iaload, 1) := by decide +kernel
theorem dM_pick_71 : decode cM_pick 71 = .ok (.aload_n 0, 1) := by decide +kernel
theorem dM_pick_72 : decode cM_pick 72 = .ok (.getfield 185, 3) := by decide +kernel
theorem dM_pick_75 : decode cM_pick 75 = .ok (.if_icmp .ne 9, 3) := by decide +kernel
theorem dM_pick_78 : decode cM_pick 78 = .ok (.iload_n 3, 1) := by decide +kernel
theorem dM_pick_79 : decode cM_pick 79 = .ok (.iconst 1, 1) := by decide +kernel
theorem dM_pick_80 : decode cM_pick 80 = .ok (.isub, 1) := by decide +kernel
theorem dM_pick_81 : decode cM_pick 81 = .ok (.goto 4, 3) := by decide +kernel
theorem dM_pick_84 : decode cM_pick 84 = .ok (.iload_n 3, 1) := by decide +kernel
theorem dM_pick_85 : decode cM_pick 85 = .ok (.istore_n 3, 1) := by decide +kernel
theorem dM_pick_86 : decode cM_pick 86 = .ok (.iload 4, 2) := by decide +kernel
theorem dM_pick_88 : decode cM_pick 88 = .ok (.iconst 1, 1) := by decide +kernel
theorem dM_pick_89 : decode cM_pick 89 = .ok (.iadd, 1) := by decide +kernel
theorem dM_pick_90 : decode cM_pick 90 = .ok (.istore 4, 2) := by decide +kernel
theorem dM_pick_92 : decode cM_pick 92 = .ok (.goto (-46), 3) := by decide +kernel
theorem dM_pick_95 : decode cM_pick 95 = .ok (.iload 4, 2) := by decide +kernel
theorem dM_pick_97 : decode cM_pick 97 = .ok (.ireturn, 1) := by decide +kernel
theorem dM_walk_0 : decode cM_walk 0 = .ok (.aload_n 0, 1) := by decide +kernel
theorem dM_walk_1 : decode cM_walk 1 = .ok (.getfield 182, 3) := by decide +kernel
theorem dM_walk_4 : decode cM_walk 4 = .ok (.ifCond .eq 13, 3) := by decide +kernel
theorem dM_walk_7 : decode cM_walk 7 = .ok (.iload_n 2, 1) := by decide +kernel
theorem dM_walk_8 : decode cM_walk 8 = .ok (.ifCond .lt 9, 3) := by decide +kernel
theorem dM_walk_11 : decode cM_walk 11 = .ok (.iload_n 2, 1) := by decide +kernel
theorem dM_walk_12 : decode cM_walk 12 = .ok (.bipush 16, 2) := by decide +kernel
theorem dM_walk_14 : decode cM_walk 14 = .ok (.if_icmp .le 5, 3) := by decide +kernel
theorem dM_walk_17 : decode cM_walk 17 = .ok (.iconst (-1), 1) := by decide +kernel
theorem dM_walk_18 : decode cM_walk 18 = .ok (.ireturn, 1) := by decide +kernel
theorem dM_walk_19 : decode cM_walk 19 = .ok (.iload_n 1, 1) := by decide +kernel
theorem dM_walk_20 : decode cM_walk 20 = .ok (.istore_n 3, 1) := by decide +kernel
theorem dM_walk_21 : decode cM_walk 21 = .ok (.iconst 0, 1) := by decide +kernel
theorem dM_walk_22 : decode cM_walk 22 = .ok (.istore 4, 2) := by decide +kernel
theorem dM_walk_24 : decode cM_walk 24 = .ok (.iload 4, 2) := by decide +kernel
theorem dM_walk_26 : decode cM_walk 26 = .ok (.iload_n 2, 1) := by decide +kernel
theorem dM_walk_27 : decode cM_walk 27 = .ok (.if_icmp .ge 38, 3) := by decide +kernel
theorem dM_walk_30 : decode cM_walk 30 = .ok (.aload_n 0, 1) := by decide +kernel
theorem dM_walk_31 : decode cM_walk 31 = .ok (.getfield 182, 3) := by decide +kernel
theorem dM_walk_34 : decode cM_walk 34 = .ok (.ifCond .eq 31, 3) := by decide +kernel
theorem dM_walk_37 : decode cM_walk 37 = .ok (.aload_n 0, 1) := by decide +kernel
theorem dM_walk_38 : decode cM_walk 38 = .ok (.iload_n 3, 1) := by decide +kernel
theorem dM_walk_39 : decode cM_walk 39 = .ok (.iconst 3, 1) := by decide +kernel
theorem dM_walk_40 : decode cM_walk 40 = .ok (.iand, 1) := by decide +kernel
theorem dM_walk_41 : decode cM_walk 41 = .ok (.invokevirtual 206, 3) := by decide +kernel
theorem dM_walk_44 : decode cM_walk 44 = .ok (.istore 5, 2) := by decide +kernel
theorem dM_walk_46 : decode cM_walk 46 = .ok (.aload_n 0, 1) := by decide +kernel
theorem dM_walk_47 : decode cM_walk 47 = .ok (.iload 5, 2) := by decide +kernel
theorem dM_walk_49 : decode cM_walk 49 = .ok (.invokevirtual 203, 3) := by decide +kernel
theorem dM_walk_52 : decode cM_walk 52 = .ok (.iload_n 3, 1) := by decide +kernel
theorem dM_walk_53 : decode cM_walk 53 = .ok (.iconst 2, 1) := by decide +kernel
theorem dM_walk_54 : decode cM_walk 54 = .ok (.iushr, 1) := by decide +kernel
theorem dM_walk_55 : decode cM_walk 55 = .ok (.istore_n 3, 1) := by decide +kernel
theorem dM_walk_56 : decode cM_walk 56 = .ok (.iload 4, 2) := by decide +kernel
theorem dM_walk_58 : decode cM_walk 58 = .ok (.iconst 1, 1) := by decide +kernel
theorem dM_walk_59 : decode cM_walk 59 = .ok (.iadd, 1) := by decide +kernel
theorem dM_walk_60 : decode cM_walk 60 = .ok (.istore 4, 2) := by decide +kernel
theorem dM_walk_62 : decode cM_walk 62 = .ok (.goto (-38), 3) := by decide +kernel
theorem dM_walk_65 : decode cM_walk 65 = .ok (.iload 4, 2) := by decide +kernel
theorem dM_walk_67 : decode cM_walk 67 = .ok (.ireturn, 1) := by decide +kernel
theorem dM_stop_0 : decode cM_stop 0 = .ok (.aload_n 0, 1) := by decide +kernel
theorem dM_stop_1 : decode cM_stop 1 = .ok (.getfield 182, 3) := by decide +kernel
theorem dM_stop_4 : decode cM_stop 4 = .ok (.ifCond .ne 5, 3) := by decide +kernel
theorem dM_stop_7 : decode cM_stop 7 = .ok (.iconst (-1), 1) := by decide +kernel
theorem dM_stop_8 : decode cM_stop 8 = .ok (.ireturn, 1) := by decide +kernel
theorem dM_stop_9 : decode cM_stop 9 = .ok (.aload_n 0, 1) := by decide +kernel
theorem dM_stop_10 : decode cM_stop 10 = .ok (.iconst 0, 1) := by decide +kernel
theorem dM_stop_11 : decode cM_stop 11 = .ok (.putfield 182, 3) := by decide +kernel
theorem dM_stop_14 : decode cM_stop 14 = .ok (.aload_n 0, 1) := by decide +kernel
theorem dM_stop_15 : decode cM_stop 15 = .ok (.getfield 89, 3) := by decide +kernel
theorem dM_stop_18 : decode cM_stop 18 = .ok (.aload_n 0, 1) := by decide +kernel
theorem dM_stop_19 : decode cM_stop 19 = .ok (.getfield 185, 3) := by decide +kernel
theorem dM_stop_22 : decode cM_stop 22 = .ok (.aload_n 0, 1) := by decide +kernel
theorem dM_stop_23 : decode cM_stop 23 = .ok (.getfield 89, 3) := by decide +kernel
theorem dM_stop_26 : decode cM_stop 26 = .ok (.aload_n 0, 1) := by decide +kernel
theorem dM_stop_27 : decode cM_stop 27 = .ok (.getfield 185, 3) := by decide +kernel
theorem dM_stop_30 : decode cM_stop 30 = .ok (.iaload, 1) := by decide +kernel
theorem dM_stop_31 : decode cM_stop 31 = .ok (.iconst 1, 1) := by decide +kernel
theorem dM_stop_32 : decode cM_stop 32 = .ok (.iadd, 1) := by decide +kernel
theorem dM_stop_33 : decode cM_stop 33 = .ok (.iastore, 1) := by decide +kernel
theorem dM_stop_34 : decode cM_stop 34 = .ok (.aload_n 0, 1) := by decide +kernel
theorem dM_stop_35 : decode cM_stop 35 = .ok (.getfield 185, 3) := by decide +kernel
theorem dM_stop_38 : decode cM_stop 38 = .ok (.ireturn, 1) := by decide +kernel
theorem dM_at_0 : decode cM_at 0 = .ok (.aload_n 0, 1) := by decide +kernel
theorem dM_at_1 : decode cM_at 1 = .ok (.getfield 182, 3) := by decide +kernel
theorem dM_at_4 : decode cM_at 4 = .ok (.ifCond .eq 10, 3) := by decide +kernel
theorem dM_at_7 : decode cM_at 7 = .ok (.aload_n 0, 1) := by decide +kernel
theorem dM_at_8 : decode cM_at 8 = .ok (.getfield 185, 3) := by decide +kernel
theorem dM_at_11 : decode cM_at 11 = .ok (.goto 4, 3) := by decide +kernel
theorem dM_at_14 : decode cM_at 14 = .ok (.iconst (-1), 1) := by decide +kernel
theorem dM_at_15 : decode cM_at 15 = .ok (.ireturn, 1) := by decide +kernel
theorem dM_register_0 : decode cM_register 0 = .ok (.iconst 0, 1) := by decide +kernel
theorem dM_register_1 : decode cM_register 1 = .ok (.istore_n 1, 1) := by decide +kernel
theorem dM_register_2 : decode cM_register 2 = .ok (.iconst 0, 1) := by decide +kernel
theorem dM_register_3 : decode cM_register 3 = .ok (.istore_n 2, 1) := by decide +kernel
theorem dM_register_4 : decode cM_register 4 = .ok (.iload_n 2, 1) := by decide +kernel
theorem dM_register_5 : decode cM_register 5 = .ok (.aload_n 0, 1) := by decide +kernel
theorem dM_register_6 : decode cM_register 6 = .ok (.getfield 188, 3) := by decide +kernel
theorem dM_register_9 : decode cM_register 9 = .ok (.if_icmp .ge 22, 3) := by decide +kernel
theorem dM_register_12 : decode cM_register 12 = .ok (.iload_n 1, 1) := by decide +kernel
theorem dM_register_13 : decode cM_register 13 = .ok (.aload_n 0, 1) := by decide +kernel
theorem dM_register_14 : decode cM_register 14 = .ok (.aload_n 0, 1) := by decide +kernel
theorem dM_register_15 : decode cM_register 15 = .ok (.getfield 77, 3) := by decide +kernel
theorem dM_register_18 : decode cM_register 18 = .ok (.iload_n 2, 1) := by decide +kernel
theorem dM_register_19 : decode cM_register 19 = .ok (.iaload, 1) := by decide +kernel
theorem dM_register_20 : decode cM_register 20 = .ok (.invokevirtual 178, 3) := by decide +kernel
theorem dM_register_23 : decode cM_register 23 = .ok (.iadd, 1) := by decide +kernel
theorem dM_register_24 : decode cM_register 24 = .ok (.istore_n 1, 1) := by decide +kernel
theorem dM_register_25 : decode cM_register 25 = .ok (.iinc 2 1, 3) := by decide +kernel
theorem dM_register_28 : decode cM_register 28 = .ok (.goto (-24), 3) := by decide +kernel
theorem dM_register_31 : decode cM_register 31 = .ok (.aload_n 0, 1) := by decide +kernel
theorem dM_register_32 : decode cM_register 32 = .ok (.getfield 182, 3) := by decide +kernel
theorem dM_register_35 : decode cM_register 35 = .ok (.ifCond .eq 7, 3) := by decide +kernel
theorem dM_register_38 : decode cM_register 38 = .ok (.iload_n 1, 1) := by decide +kernel
theorem dM_register_39 : decode cM_register 39 = .ok (.goto 4, 3) := by decide +kernel
theorem dM_register_42 : decode cM_register 42 = .ok (.iconst 0, 1) := by decide +kernel
theorem dM_register_43 : decode cM_register 43 = .ok (.ireturn, 1) := by decide +kernel
theorem dM_count_0 : decode cM_count 0 = .ok (.aload_n 0, 1) := by decide +kernel
theorem dM_count_1 : decode cM_count 1 = .ok (.iload_n 1, 1) := by decide +kernel
theorem dM_count_2 : decode cM_count 2 = .ok (.invokevirtual 175, 3) := by decide +kernel
theorem dM_count_5 : decode cM_count 5 = .ok (.ifCond .eq 12, 3) := by decide +kernel
theorem dM_count_8 : decode cM_count 8 = .ok (.aload_n 0, 1) := by decide +kernel
theorem dM_count_9 : decode cM_count 9 = .ok (.getfield 80, 3) := by decide +kernel
theorem dM_count_12 : decode cM_count 12 = .ok (.iload_n 1, 1) := by decide +kernel
theorem dM_count_13 : decode cM_count 13 = .ok (.iaload, 1) := by decide +kernel
theorem dM_count_14 : decode cM_count 14 = .ok (.goto 4, 3) := by decide +kernel
theorem dM_count_17 : decode cM_count 17 = .ok (.iconst (-1), 1) := by decide +kernel
theorem dM_count_18 : decode cM_count 18 = .ok (.ireturn, 1) := by decide +kernel
theorem dM_visits_0 : decode cM_visits 0 = .ok (.aload_n 0, 1) := by decide +kernel
theorem dM_visits_1 : decode cM_visits 1 = .ok (.getfield 96, 3) := by decide +kernel
theorem dM_visits_4 : decode cM_visits 4 = .ok (.ifCond .eq 20, 3) := by decide +kernel
theorem dM_visits_7 : decode cM_visits 7 = .ok (.aload_n 0, 1) := by decide +kernel
theorem dM_visits_8 : decode cM_visits 8 = .ok (.iload_n 1, 1) := by decide +kernel
theorem dM_visits_9 : decode cM_visits 9 = .ok (.invokevirtual 103, 3) := by decide +kernel
theorem dM_visits_12 : decode cM_visits 12 = .ok (.ifCond .eq 12, 3) := by decide +kernel
theorem dM_visits_15 : decode cM_visits 15 = .ok (.aload_n 0, 1) := by decide +kernel
theorem dM_visits_16 : decode cM_visits 16 = .ok (.getfield 83, 3) := by decide +kernel
theorem dM_visits_19 : decode cM_visits 19 = .ok (.iload_n 1, 1) := by decide +kernel
theorem dM_visits_20 : decode cM_visits 20 = .ok (.iaload, 1) := by decide +kernel
theorem dM_visits_21 : decode cM_visits 21 = .ok (.goto 4, 3) := by decide +kernel
theorem dM_visits_24 : decode cM_visits 24 = .ok (.iconst (-1), 1) := by decide +kernel
theorem dM_visits_25 : decode cM_visits 25 = .ok (.ireturn, 1) := by decide +kernel
theorem dM_passed_0 : decode cM_passed 0 = .ok (.aload_n 0, 1) := by decide +kernel
theorem dM_passed_1 : decode cM_passed 1 = .ok (.getfield 96, 3) := by decide +kernel
theorem dM_passed_4 : decode cM_passed 4 = .ok (.ifCond .eq 24, 3) := by decide +kernel
theorem dM_passed_7 : decode cM_passed 7 = .ok (.iload_n 1, 1) := by decide +kernel
theorem dM_passed_8 : decode cM_passed 8 = .ok (.ifCond .lt 20, 3) := by decide +kernel
theorem dM_passed_11 : decode cM_passed 11 = .ok (.iload_n 1, 1) := by decide +kernel
theorem dM_passed_12 : decode cM_passed 12 = .ok (.aload_n 0, 1) := by decide +kernel
theorem dM_passed_13 : decode cM_passed 13 = .ok (.getfield 144, 3) := by decide +kernel
theorem dM_passed_16 : decode cM_passed 16 = .ok (.if_icmp .ge 12, 3) := by decide +kernel
theorem dM_passed_19 : decode cM_passed 19 = .ok (.aload_n 0, 1) := by decide +kernel
theorem dM_passed_20 : decode cM_passed 20 = .ok (.getfield 86, 3) := by decide +kernel
theorem dM_passed_23 : decode cM_passed 23 = .ok (.iload_n 1, 1) := by decide +kernel
theorem dM_passed_24 : decode cM_passed 24 = .ok (.iaload, 1) := by decide +kernel
theorem dM_passed_25 : decode cM_passed 25 = .ok (.goto 4, 3) := by decide +kernel
theorem dM_passed_28 : decode cM_passed 28 = .ok (.iconst (-1), 1) := by decide +kernel
theorem dM_passed_29 : decode cM_passed 29 = .ok (.ireturn, 1) := by decide +kernel
theorem dM_along_0 : decode cM_along 0 = .ok (.aload_n 0, 1) := by decide +kernel
theorem dM_along_1 : decode cM_along 1 = .ok (.getfield 96, 3) := by decide +kernel
theorem dM_along_4 : decode cM_along 4 = .ok (.ifCond .eq 19, 3) := by decide +kernel
theorem dM_along_7 : decode cM_along 7 = .ok (.iload_n 1, 1) := by decide +kernel
theorem dM_along_8 : decode cM_along 8 = .ok (.ifCond .lt 15, 3) := by decide +kernel
theorem dM_along_11 : decode cM_along 11 = .ok (.iload_n 1, 1) := by decide +kernel
theorem dM_along_12 : decode cM_along 12 = .ok (.aload_n 0, 1) := by decide +kernel
theorem dM_along_13 : decode cM_along 13 = .ok (.getfield 144, 3) := by decide +kernel
theorem dM_along_16 : decode cM_along 16 = .ok (.if_icmp .ge 7, 3) := by decide +kernel
theorem dM_along_19 : decode cM_along 19 = .ok (.iload_n 2, 1) := by decide +kernel
theorem dM_along_20 : decode cM_along 20 = .ok (.ifCond .ge 6, 3) := by decide +kernel
theorem dM_along_23 : decode cM_along 23 = .ok (.ldc 181, 2) := by decide +kernel
theorem dM_along_25 : decode cM_along 25 = .ok (.ireturn, 1) := by decide +kernel
theorem dM_along_26 : decode cM_along 26 = .ok (.aload_n 0, 1) := by decide +kernel
theorem dM_along_27 : decode cM_along 27 = .ok (.getfield 71, 3) := by decide +kernel
theorem dM_along_30 : decode cM_along 30 = .ok (.bipush 16, 2) := by decide +kernel
theorem dM_along_32 : decode cM_along 32 = .ok (.iload_n 1, 1) := by decide +kernel
theorem dM_along_33 : decode cM_along 33 = .ok (.imul, 1) := by decide +kernel
