/-! rows that decode, K -/
theorem dK_init_0 : decode cK_init 0 = .ok (.aload_n 0, 1) := by decide +kernel
theorem dK_init_1 : decode cK_init 1 = .ok (.invokespecial 3, 3) := by decide +kernel
theorem dK_init_4 : decode cK_init 4 = .ok (.aload_n 0, 1) := by decide +kernel
theorem dK_init_5 : decode cK_init 5 = .ok (.aload_n 1, 1) := by decide +kernel
theorem dK_init_6 : decode cK_init 6 = .ok (.putfield 9, 3) := by decide +kernel
theorem dK_init_9 : decode cK_init 9 = .ok (.aload_n 0, 1) := by decide +kernel
theorem dK_init_10 : decode cK_init 10 = .ok (.aload_n 2, 1) := by decide +kernel
theorem dK_init_11 : decode cK_init 11 = .ok (.putfield 15, 3) := by decide +kernel
theorem dK_init_14 : decode cK_init 14 = .ok (.aload_n 0, 1) := by decide +kernel
theorem dK_init_15 : decode cK_init 15 = .ok (.new 19, 3) := by decide +kernel
theorem dK_init_18 : decode cK_init 18 = .ok (.dup, 1) := by decide +kernel
theorem dK_init_19 : decode cK_init 19 = .ok (.aload_n 1, 1) := by decide +kernel
theorem dK_init_20 : decode cK_init 20 = .ok (.invokespecial 21, 3) := by decide +kernel
theorem dK_init_23 : decode cK_init 23 = .ok (.putfield 24, 3) := by decide +kernel
theorem dK_init_26 : decode cK_init 26 = .ok (.aload_n 0, 1) := by decide +kernel
theorem dK_init_27 : decode cK_init 27 = .ok (.bipush 12, 2) := by decide +kernel
theorem dK_init_29 : decode cK_init 29 = .ok (.newarray .int, 2) := by decide +kernel
theorem dK_init_31 : decode cK_init 31 = .ok (.putfield 28, 3) := by decide +kernel
theorem dK_init_34 : decode cK_init 34 = .ok (.aload_n 0, 1) := by decide +kernel
theorem dK_init_35 : decode cK_init 35 = .ok (.bipush 24, 2) := by decide +kernel
theorem dK_init_37 : decode cK_init 37 = .ok (.newarray .int, 2) := by decide +kernel
theorem dK_init_39 : decode cK_init 39 = .ok (.putfield 32, 3) := by decide +kernel
theorem dK_init_42 : decode cK_init 42 = .ok (.aload_n 0, 1) := by decide +kernel
theorem dK_init_43 : decode cK_init 43 = .ok (.bipush 24, 2) := by decide +kernel
theorem dK_init_45 : decode cK_init 45 = .ok (.newarray .int, 2) := by decide +kernel
theorem dK_init_47 : decode cK_init 47 = .ok (.putfield 35, 3) := by decide +kernel
theorem dK_init_50 : decode cK_init 50 = .ok (.aload_n 0, 1) := by decide +kernel
theorem dK_init_51 : decode cK_init 51 = .ok (.bipush 12, 2) := by decide +kernel
theorem dK_init_53 : decode cK_init 53 = .ok (.newarray .int, 2) := by decide +kernel
theorem dK_init_55 : decode cK_init 55 = .ok (.putfield 38, 3) := by decide +kernel
theorem dK_init_58 : decode cK_init 58 = .ok (.aload_n 0, 1) := by decide +kernel
theorem dK_init_59 : decode cK_init 59 = .ok (.bipush 24, 2) := by decide +kernel
theorem dK_init_61 : decode cK_init 61 = .ok (.newarray .int, 2) := by decide +kernel
theorem dK_init_63 : decode cK_init 63 = .ok (.putfield 41, 3) := by decide +kernel
theorem dK_init_66 : decode cK_init 66 = .ok (.aload_n 0, 1) := by decide +kernel
theorem dK_init_67 : decode cK_init 67 = .ok (.iconst 0, 1) := by decide +kernel
theorem dK_init_68 : decode cK_init 68 = .ok (.putfield 44, 3) := by decide +kernel
theorem dK_init_71 : decode cK_init 71 = .ok (.return_, 1) := by decide +kernel
theorem dK_targetOf_0 : decode cK_targetOf 0 = .ok (.aload_n 0, 1) := by decide +kernel
theorem dK_targetOf_1 : decode cK_targetOf 1 = .ok (.getfield 15, 3) := by decide +kernel
theorem dK_targetOf_4 : decode cK_targetOf 4 = .ok (.getfield 48, 3) := by decide +kernel
theorem dK_targetOf_7 : decode cK_targetOf 7 = .ok (.iload_n 1, 1) := by decide +kernel
theorem dK_targetOf_8 : decode cK_targetOf 8 = .ok (.baload, 1) := by decide +kernel
theorem dK_targetOf_9 : decode cK_targetOf 9 = .ok (.ifCond .eq 7, 3) := by decide +kernel
theorem dK_targetOf_12 : decode cK_targetOf 12 = .ok (.iconst 1, 1) := by decide +kernel
theorem dK_targetOf_13 : decode cK_targetOf 13 = .ok (.goto 12, 3) := by decide +kernel
theorem dK_targetOf_16 : decode cK_targetOf 16 = .ok (.aload_n 0, 1) := by decide +kernel
theorem dK_targetOf_17 : decode cK_targetOf 17 = .ok (.getfield 9, 3) := by decide +kernel
theorem dK_targetOf_20 : decode cK_targetOf 20 = .ok (.getfield 54, 3) := by decide +kernel
theorem dK_targetOf_23 : decode cK_targetOf 23 = .ok (.iload_n 1, 1) := by decide +kernel
theorem dK_targetOf_24 : decode cK_targetOf 24 = .ok (.iaload, 1) := by decide +kernel
theorem dK_targetOf_25 : decode cK_targetOf 25 = .ok (.ireturn, 1) := by decide +kernel
theorem dK_incrementOf_0 : decode cK_incrementOf 0 = .ok (.aload_n 0, 1) := by decide +kernel
theorem dK_incrementOf_1 : decode cK_incrementOf 1 = .ok (.getfield 32, 3) := by decide +kernel
theorem dK_incrementOf_4 : decode cK_incrementOf 4 = .ok (.iload_n 1, 1) := by decide +kernel
theorem dK_incrementOf_5 : decode cK_incrementOf 5 = .ok (.iaload, 1) := by decide +kernel
theorem dK_incrementOf_6 : decode cK_incrementOf 6 = .ok (.aload_n 0, 1) := by decide +kernel
theorem dK_incrementOf_7 : decode cK_incrementOf 7 = .ok (.getfield 38, 3) := by decide +kernel
theorem dK_incrementOf_10 : decode cK_incrementOf 10 = .ok (.aload_n 0, 1) := by decide +kernel
theorem dK_incrementOf_11 : decode cK_incrementOf 11 = .ok (.getfield 9, 3) := by decide +kernel
theorem dK_incrementOf_14 : decode cK_incrementOf 14 = .ok (.getfield 59, 3) := by decide +kernel
theorem dK_incrementOf_17 : decode cK_incrementOf 17 = .ok (.iload_n 1, 1) := by decide +kernel
theorem dK_incrementOf_18 : decode cK_incrementOf 18 = .ok (.iaload, 1) := by decide +kernel
theorem dK_incrementOf_19 : decode cK_incrementOf 19 = .ok (.iaload, 1) := by decide +kernel
theorem dK_incrementOf_20 : decode cK_incrementOf 20 = .ok (.iadd, 1) := by decide +kernel
theorem dK_incrementOf_21 : decode cK_incrementOf 21 = .ok (.aload_n 0, 1) := by decide +kernel
theorem dK_incrementOf_22 : decode cK_incrementOf 22 = .ok (.getfield 38, 3) := by decide +kernel
theorem dK_incrementOf_25 : decode cK_incrementOf 25 = .ok (.aload_n 0, 1) := by decide +kernel
theorem dK_incrementOf_26 : decode cK_incrementOf 26 = .ok (.iload_n 1, 1) := by decide +kernel
theorem dK_incrementOf_27 : decode cK_incrementOf 27 = .ok (.invokevirtual 62, 3) := by decide +kernel
theorem dK_incrementOf_30 : decode cK_incrementOf 30 = .ok (.iaload, 1) := by decide +kernel
theorem dK_incrementOf_31 : decode cK_incrementOf 31 = .ok (.isub, 1) := by decide +kernel
theorem dK_incrementOf_32 : decode cK_incrementOf 32 = .ok (.ireturn, 1) := by decide +kernel
theorem dK_startIncrementOf_0 : decode cK_startIncrementOf 0 = .ok (.aload_n 0, 1) := by decide +kernel
theorem dK_startIncrementOf_1 : decode cK_startIncrementOf 1 = .ok (.getfield 35, 3) := by decide +kernel
theorem dK_startIncrementOf_4 : decode cK_startIncrementOf 4 = .ok (.iload_n 1, 1) := by decide +kernel
theorem dK_startIncrementOf_5 : decode cK_startIncrementOf 5 = .ok (.iaload, 1) := by decide +kernel
theorem dK_startIncrementOf_6 : decode cK_startIncrementOf 6 = .ok (.aload_n 0, 1) := by decide +kernel
theorem dK_startIncrementOf_7 : decode cK_startIncrementOf 7 = .ok (.getfield 38, 3) := by decide +kernel
theorem dK_startIncrementOf_10 : decode cK_startIncrementOf 10 = .ok (.iconst 0, 1) := by decide +kernel
theorem dK_startIncrementOf_11 : decode cK_startIncrementOf 11 = .ok (.iaload, 1) := by decide +kernel
theorem dK_startIncrementOf_12 : decode cK_startIncrementOf 12 = .ok (.iadd, 1) := by decide +kernel
theorem dK_startIncrementOf_13 : decode cK_startIncrementOf 13 = .ok (.aload_n 0, 1) := by decide +kernel
theorem dK_startIncrementOf_14 : decode cK_startIncrementOf 14 = .ok (.getfield 38, 3) := by decide +kernel
theorem dK_startIncrementOf_17 : decode cK_startIncrementOf 17 = .ok (.aload_n 0, 1) := by decide +kernel
theorem dK_startIncrementOf_18 : decode cK_startIncrementOf 18 = .ok (.getfield 9, 3) := by decide +kernel
theorem dK_startIncrementOf_21 : decode cK_startIncrementOf 21 = .ok (.getfield 54, 3) := by decide +kernel
theorem dK_startIncrementOf_24 : decode cK_startIncrementOf 24 = .ok (.iload_n 1, 1) := by decide +kernel
theorem dK_startIncrementOf_25 : decode cK_startIncrementOf 25 = .ok (.iaload, 1) := by decide +kernel
theorem dK_startIncrementOf_26 : decode cK_startIncrementOf 26 = .ok (.iaload, 1) := by decide +kernel
theorem dK_startIncrementOf_27 : decode cK_startIncrementOf 27 = .ok (.isub, 1) := by decide +kernel
theorem dK_startIncrementOf_28 : decode cK_startIncrementOf 28 = .ok (.ireturn, 1) := by decide +kernel
theorem dK_number_0 : decode cK_number 0 = .ok (.aload_n 0, 1) := by decide +kernel
theorem dK_number_1 : decode cK_number 1 = .ok (.getfield 28, 3) := by decide +kernel
theorem dK_number_4 : decode cK_number 4 = .ok (.iconst 1, 1) := by decide +kernel
theorem dK_number_5 : decode cK_number 5 = .ok (.iconst 1, 1) := by decide +kernel
theorem dK_number_6 : decode cK_number 6 = .ok (.iastore, 1) := by decide +kernel
theorem dK_number_7 : decode cK_number 7 = .ok (.iconst 0, 1) := by decide +kernel
theorem dK_number_8 : decode cK_number 8 = .ok (.istore_n 1, 1) := by decide +kernel
theorem dK_number_9 : decode cK_number 9 = .ok (.iload_n 1, 1) := by decide +kernel
theorem dK_number_10 : decode cK_number 10 = .ok (.aload_n 0, 1) := by decide +kernel
theorem dK_number_11 : decode cK_number 11 = .ok (.getfield 9, 3) := by decide +kernel
theorem dK_number_14 : decode cK_number 14 = .ok (.getfield 66, 3) := by decide +kernel
theorem dK_number_17 : decode cK_number 17 = .ok (.if_icmp .ge 35, 3) := by decide +kernel
theorem dK_number_20 : decode cK_number 20 = .ok (.aload_n 0, 1) := by decide +kernel
theorem dK_number_21 : decode cK_number 21 = .ok (.getfield 15, 3) := by decide +kernel
theorem dK_number_24 : decode cK_number 24 = .ok (.getfield 69, 3) := by decide +kernel
theorem dK_number_27 : decode cK_number 27 = .ok (.iload_n 1, 1) := by decide +kernel
theorem dK_number_28 : decode cK_number 28 = .ok (.iaload, 1) := by decide +kernel
theorem dK_number_29 : decode cK_number 29 = .ok (.istore_n 2, 1) := by decide +kernel
theorem dK_number_30 : decode cK_number 30 = .ok (.iload_n 2, 1) := by decide +kernel
theorem dK_number_31 : decode cK_number 31 = .ok (.iconst 1, 1) := by decide +kernel
theorem dK_number_32 : decode cK_number 32 = .ok (.if_icmp .eq 14, 3) := by decide +kernel
theorem dK_number_35 : decode cK_number 35 = .ok (.aload_n 0, 1) := by decide +kernel
theorem dK_number_36 : decode cK_number 36 = .ok (.getfield 28, 3) := by decide +kernel
theorem dK_number_39 : decode cK_number 39 = .ok (.iload_n 2, 1) := by decide +kernel
theorem dK_number_40 : decode cK_number 40 = .ok (.aload_n 0, 1) := by decide +kernel
theorem dK_number_41 : decode cK_number 41 = .ok (.iload_n 2, 1) := by decide +kernel
theorem dK_number_42 : decode cK_number 42 = .ok (.invokevirtual 72, 3) := by decide +kernel
theorem dK_number_45 : decode cK_number 45 = .ok (.iastore, 1) := by decide +kernel
theorem dK_number_46 : decode cK_number 46 = .ok (.iinc 1 1, 3) := by decide +kernel
theorem dK_number_49 : decode cK_number 49 = .ok (.goto (-40), 3) := by decide +kernel
theorem dK_number_52 : decode cK_number 52 = .ok (.aload_n 0, 1) := by decide +kernel
theorem dK_number_53 : decode cK_number 53 = .ok (.aload_n 0, 1) := by decide +kernel
theorem dK_number_54 : decode cK_number 54 = .ok (.aload_n 0, 1) := by decide +kernel
theorem dK_number_55 : decode cK_number 55 = .ok (.getfield 28, 3) := by decide +kernel
theorem dK_number_58 : decode cK_number 58 = .ok (.iconst 0, 1) := by decide +kernel
theorem dK_number_59 : decode cK_number 59 = .ok (.iaload, 1) := by decide +kernel
theorem dK_number_60 : decode cK_number 60 = .ok (.invokevirtual 75, 3) := by decide +kernel
theorem dK_number_63 : decode cK_number 63 = .ok (.putfield 44, 3) := by decide +kernel
theorem dK_number_66 : decode cK_number 66 = .ok (.return_, 1) := by decide +kernel
theorem dK_numberFrom_0 : decode cK_numberFrom 0 = .ok (.iconst 0, 1) := by decide +kernel
theorem dK_numberFrom_1 : decode cK_numberFrom 1 = .ok (.istore_n 2, 1) := by decide +kernel
theorem dK_numberFrom_2 : decode cK_numberFrom 2 = .ok (.iconst 0, 1) := by decide +kernel
theorem dK_numberFrom_3 : decode cK_numberFrom 3 = .ok (.istore_n 3, 1) := by decide +kernel
theorem dK_numberFrom_4 : decode cK_numberFrom 4 = .ok (.iload_n 3, 1) := by decide +kernel
theorem dK_numberFrom_5 : decode cK_numberFrom 5 = .ok (.aload_n 0, 1) := by decide +kernel
theorem dK_numberFrom_6 : decode cK_numberFrom 6 = .ok (.getfield 9, 3) := by decide +kernel
theorem dK_numberFrom_9 : decode cK_numberFrom 9 = .ok (.getfield 78, 3) := by decide +kernel
theorem dK_numberFrom_12 : decode cK_numberFrom 12 = .ok (.if_icmp .ge 42, 3) := by decide +kernel
theorem dK_numberFrom_15 : decode cK_numberFrom 15 = .ok (.aload_n 0, 1) := by decide +kernel
theorem dK_numberFrom_16 : decode cK_numberFrom 16 = .ok (.getfield 9, 3) := by decide +kernel
theorem dK_numberFrom_19 : decode cK_numberFrom 19 = .ok (.getfield 59, 3) := by decide +kernel
theorem dK_numberFrom_22 : decode cK_numberFrom 22 = .ok (.iload_n 3, 1) := by decide +kernel
theorem dK_numberFrom_23 : decode cK_numberFrom 23 = .ok (.iaload, 1) := by decide +kernel
theorem dK_numberFrom_24 : decode cK_numberFrom 24 = .ok (.iload_n 1, 1) := by decide +kernel
theorem dK_numberFrom_25 : decode cK_numberFrom 25 = .ok (.if_icmp .ne 23, 3) := by decide +kernel
theorem dK_numberFrom_28 : decode cK_numberFrom 28 = .ok (.aload_n 0, 1) := by decide +kernel
theorem dK_numberFrom_29 : decode cK_numberFrom 29 = .ok (.getfield 32, 3) := by decide +kernel
theorem dK_numberFrom_32 : decode cK_numberFrom 32 = .ok (.iload_n 3, 1) := by decide +kernel
theorem dK_numberFrom_33 : decode cK_numberFrom 33 = .ok (.iload_n 2, 1) := by decide +kernel
theorem dK_numberFrom_34 : decode cK_numberFrom 34 = .ok (.iastore, 1) := by decide +kernel
theorem dK_numberFrom_35 : decode cK_numberFrom 35 = .ok (.iload_n 2, 1) := by decide +kernel
theorem dK_numberFrom_36 : decode cK_numberFrom 36 = .ok (.aload_n 0, 1) := by decide +kernel
theorem dK_numberFrom_37 : decode cK_numberFrom 37 = .ok (.getfield 28, 3) := by decide +kernel
theorem dK_numberFrom_40 : decode cK_numberFrom 40 = .ok (.aload_n 0, 1) := by decide +kernel
theorem dK_numberFrom_41 : decode cK_numberFrom 41 = .ok (.iload_n 3, 1) := by decide +kernel
theorem dK_numberFrom_42 : decode cK_numberFrom 42 = .ok (.invokevirtual 62, 3) := by decide +kernel
theorem dK_numberFrom_45 : decode cK_numberFrom 45 = .ok (.iaload, 1) := by decide +kernel
theorem dK_numberFrom_46 : decode cK_numberFrom 46 = .ok (.iadd, 1) := by decide +kernel
theorem dK_numberFrom_47 : decode cK_numberFrom 47 = .ok (.istore_n 2, 1) := by decide +kernel
theorem dK_numberFrom_48 : decode cK_numberFrom 48 = .ok (.iinc 3 1, 3) := by decide +kernel
theorem dK_numberFrom_51 : decode cK_numberFrom 51 = .ok (.goto (-47), 3) := by decide +kernel
theorem dK_numberFrom_54 : decode cK_numberFrom 54 = .ok (.iload_n 2, 1) := by decide +kernel
theorem dK_numberFrom_55 : decode cK_numberFrom 55 = .ok (.ireturn, 1) := by decide +kernel
theorem dK_numberStarts_0 : decode cK_numberStarts 0 = .ok (.iload_n 1, 1) := by decide +kernel
theorem dK_numberStarts_1 : decode cK_numberStarts 1 = .ok (.istore_n 2, 1) := by decide +kernel
theorem dK_numberStarts_2 : decode cK_numberStarts 2 = .ok (.iconst 0, 1) := by decide +kernel
theorem dK_numberStarts_3 : decode cK_numberStarts 3 = .ok (.istore_n 3, 1) := by decide +kernel
theorem dK_numberStarts_4 : decode cK_numberStarts 4 = .ok (.iload_n 3, 1) := by decide +kernel
theorem dK_numberStarts_5 : decode cK_numberStarts 5 = .ok (.aload_n 0, 1) := by decide +kernel
theorem dK_numberStarts_6 : decode cK_numberStarts 6 = .ok (.getfield 9, 3) := by decide +kernel
theorem dK_numberStarts_9 : decode cK_numberStarts 9 = .ok (.getfield 78, 3) := by decide +kernel
theorem dK_numberStarts_12 : decode cK_numberStarts 12 = .ok (.if_icmp .ge 45, 3) := by decide +kernel
theorem dK_numberStarts_15 : decode cK_numberStarts 15 = .ok (.aload_n 0, 1) := by decide +kernel
theorem dK_numberStarts_16 : decode cK_numberStarts 16 = .ok (.getfield 15, 3) := by decide +kernel
theorem dK_numberStarts_19 : decode cK_numberStarts 19 = .ok (.getfield 48, 3) := by decide +kernel
theorem dK_numberStarts_22 : decode cK_numberStarts 22 = .ok (.iload_n 3, 1) := by decide +kernel
theorem dK_numberStarts_23 : decode cK_numberStarts 23 = .ok (.baload, 1) := by decide +kernel
theorem dK_numberStarts_24 : decode cK_numberStarts 24 = .ok (.ifCond .eq 27, 3) := by decide +kernel
theorem dK_numberStarts_27 : decode cK_numberStarts 27 = .ok (.aload_n 0, 1) := by decide +kernel
theorem dK_numberStarts_28 : decode cK_numberStarts 28 = .ok (.getfield 35, 3) := by decide +kernel
theorem dK_numberStarts_31 : decode cK_numberStarts 31 = .ok (.iload_n 3, 1) := by decide +kernel
theorem dK_numberStarts_32 : decode cK_numberStarts 32 = .ok (.iload_n 2, 1) := by decide +kernel
theorem dK_numberStarts_33 : decode cK_numberStarts 33 = .ok (.iastore, 1) := by decide +kernel
theorem dK_numberStarts_34 : decode cK_numberStarts 34 = .ok (.iload_n 2, 1) := by decide +kernel
theorem dK_numberStarts_35 : decode cK_numberStarts 35 = .ok (.aload_n 0, 1) := by decide +kernel
theorem dK_numberStarts_36 : decode cK_numberStarts 36 = .ok (.getfield 28, 3) := by decide +kernel
theorem dK_numberStarts_39 : decode cK_numberStarts 39 = .ok (.aload_n 0, 1) := by decide +kernel
theorem dK_numberStarts_40 : decode cK_numberStarts 40 = .ok (.getfield 9, 3) := by decide +kernel
theorem dK_numberStarts_43 : decode cK_numberStarts 43 = .ok (.getfield 54, 3) := by decide +kernel
theorem dK_numberStarts_46 : decode cK_numberStarts 46 = .ok (.iload_n 3, 1) := by decide +kernel
theorem dK_numberStarts_47 : decode cK_numberStarts 47 = .ok (.iaload, 1) := by decide +kernel
theorem dK_numberStarts_48 : decode cK_numberStarts 48 = .ok (.iaload, 1) := by decide +kernel
theorem dK_numberStarts_49 : decode cK_numberStarts 49 = .ok (.iadd, 1) := by decide +kernel
theorem dK_numberStarts_50 : decode cK_numberStarts 50 = .ok (.istore_n 2, 1) := by decide +kernel
theorem dK_numberStarts_51 : decode cK_numberStarts 51 = .ok (.iinc 3 1, 3) := by decide +kernel
theorem dK_numberStarts_54 : decode cK_numberStarts 54 = .ok (.goto (-50), 3) := by decide +kernel
theorem dK_numberStarts_57 : decode cK_numberStarts 57 = .ok (.iload_n 2, 1) := by decide +kernel
theorem dK_numberStarts_58 : decode cK_numberStarts 58 = .ok (.ireturn, 1) := by decide +kernel
theorem dK_spread_0 : decode cK_spread 0 = .ok (.aload_n 0, 1) := by decide +kernel
theorem dK_spread_1 : decode cK_spread 1 = .ok (.getfield 24, 3) := by decide +kernel
theorem dK_spread_4 : decode cK_spread 4 = .ok (.aload_n 0, 1) := by decide +kernel
theorem dK_spread_5 : decode cK_spread 5 = .ok (.getfield 41, 3) := by decide +kernel
theorem dK_spread_8 : decode cK_spread 8 = .ok (.aload_n 0, 1) := by decide +kernel
theorem dK_spread_9 : decode cK_spread 9 = .ok (.aload_n 1, 1) := by decide +kernel
theorem dK_spread_10 : decode cK_spread 10 = .ok (.invokevirtual 81, 3) := by decide +kernel
theorem dK_spread_13 : decode cK_spread 13 = .ok (.invokevirtual 85, 3) := by decide +kernel
theorem dK_spread_16 : decode cK_spread 16 = .ok (.iconst 0, 1) := by decide +kernel
theorem dK_spread_17 : decode cK_spread 17 = .ok (.invokestatic 89, 3) := by decide +kernel
theorem dK_spread_20 : decode cK_spread 20 = .ok (.iconst 1, 1) := by decide +kernel
theorem dK_spread_21 : decode cK_spread 21 = .ok (.invokestatic 89, 3) := by decide +kernel
theorem dK_spread_24 : decode cK_spread 24 = .ok (.ior, 1) := by decide +kernel
theorem dK_spread_25 : decode cK_spread 25 = .ok (.istore_n 2, 1) := by decide +kernel
theorem dK_spread_26 : decode cK_spread 26 = .ok (.iconst 1, 1) := by decide +kernel
theorem dK_spread_27 : decode cK_spread 27 = .ok (.istore_n 3, 1) := by decide +kernel
theorem dK_spread_28 : decode cK_spread 28 = .ok (.iload_n 3, 1) := by decide +kernel
theorem dK_spread_29 : decode cK_spread 29 = .ok (.aload_n 0, 1) := by decide +kernel
theorem dK_spread_30 : decode cK_spread 30 = .ok (.getfield 9, 3) := by decide +kernel
theorem dK_spread_33 : decode cK_spread 33 = .ok (.getfield 66, 3) := by decide +kernel
theorem dK_spread_36 : decode cK_spread 36 = .ok (.if_icmp .ge 51, 3) := by decide +kernel
theorem dK_spread_39 : decode cK_spread 39 = .ok (.iconst 0, 1) := by decide +kernel
theorem dK_spread_40 : decode cK_spread 40 = .ok (.istore 4, 2) := by decide +kernel
theorem dK_spread_42 : decode cK_spread 42 = .ok (.iload 4, 2) := by decide +kernel
theorem dK_spread_44 : decode cK_spread 44 = .ok (.aload_n 0, 1) := by decide +kernel
theorem dK_spread_45 : decode cK_spread 45 = .ok (.getfield 9, 3) := by decide +kernel
theorem dK_spread_48 : decode cK_spread 48 = .ok (.getfield 78, 3) := by decide +kernel
theorem dK_spread_51 : decode cK_spread 51 = .ok (.if_icmp .ge 30, 3) := by decide +kernel
theorem dK_spread_54 : decode cK_spread 54 = .ok (.aload_n 0, 1) := by decide +kernel
theorem dK_spread_55 : decode cK_spread 55 = .ok (.getfield 24, 3) := by decide +kernel
theorem dK_spread_58 : decode cK_spread 58 = .ok (.getfield 92, 3) := by decide +kernel
theorem dK_spread_61 : decode cK_spread 61 = .ok (.iload 4, 2) := by decide +kernel
theorem dK_spread_63 : decode cK_spread 63 = .ok (.baload, 1) := by decide +kernel
theorem dK_spread_64 : decode cK_spread 64 = .ok (.ifCond .eq 11, 3) := by decide +kernel
theorem dK_spread_67 : decode cK_spread 67 = .ok (.aload_n 0, 1) := by decide +kernel
theorem dK_spread_68 : decode cK_spread 68 = .ok (.iload 4, 2) := by decide +kernel
theorem dK_spread_70 : decode cK_spread 70 = .ok (.iload_n 2, 1) := by decide +kernel
theorem dK_spread_71 : decode cK_spread 71 = .ok (.invokevirtual 95, 3) := by decide +kernel
theorem dK_spread_74 : decode cK_spread 74 = .ok (.istore_n 2, 1) := by decide +kernel
theorem dK_spread_75 : decode cK_spread 75 = .ok (.iinc 4 1, 3) := by decide +kernel
theorem dK_spread_78 : decode cK_spread 78 = .ok (.goto (-36), 3) := by decide +kernel
theorem dK_spread_81 : decode cK_spread 81 = .ok (.iinc 3 1, 3) := by decide +kernel
theorem dK_spread_84 : decode cK_spread 84 = .ok (.goto (-56), 3) := by decide +kernel
theorem dK_spread_87 : decode cK_spread 87 = .ok (.return_, 1) := by decide +kernel
theorem dK_leaveOutBack_0 : decode cK_leaveOutBack 0 = .ok (.iconst 0, 1) := by decide +kernel
theorem dK_leaveOutBack_1 : decode cK_leaveOutBack 1 = .ok (.istore_n 2, 1) := by decide +kernel
theorem dK_leaveOutBack_2 : decode cK_leaveOutBack 2 = .ok (.iconst 0, 1) := by decide +kernel
theorem dK_leaveOutBack_3 : decode cK_leaveOutBack 3 = .ok (.istore_n 3, 1) := by decide +kernel
theorem dK_leaveOutBack_4 : decode cK_leaveOutBack 4 = .ok (.iload_n 3, 1) := by decide +kernel
theorem dK_leaveOutBack_5 : decode cK_leaveOutBack 5 = .ok (.aload_n 0, 1) := by decide +kernel
theorem dK_leaveOutBack_6 : decode cK_leaveOutBack 6 = .ok (.getfield 9, 3) := by decide +kernel
theorem dK_leaveOutBack_9 : decode cK_leaveOutBack 9 = .ok (.getfield 78, 3) := by decide +kernel
theorem dK_leaveOutBack_12 : decode cK_leaveOutBack 12 = .ok (.if_icmp .ge 35, 3) := by decide +kernel
theorem dK_leaveOutBack_15 : decode cK_leaveOutBack 15 = .ok (.aload_n 0, 1) := by decide +kernel
theorem dK_leaveOutBack_16 : decode cK_leaveOutBack 16 = .ok (.getfield 15, 3) := by decide +kernel
theorem dK_leaveOutBack_19 : decode cK_leaveOutBack 19 = .ok (.getfield 48, 3) := by decide +kernel
theorem dK_leaveOutBack_22 : decode cK_leaveOutBack 22 = .ok (.aload_n 1, 1) := by decide +kernel
theorem dK_leaveOutBack_23 : decode cK_leaveOutBack 23 = .ok (.iload_n 3, 1) := by decide +kernel
theorem dK_leaveOutBack_24 : decode cK_leaveOutBack 24 = .ok (.iaload, 1) := by decide +kernel
theorem dK_leaveOutBack_25 : decode cK_leaveOutBack 25 = .ok (.baload, 1) := by decide +kernel
theorem dK_leaveOutBack_26 : decode cK_leaveOutBack 26 = .ok (.ifCond .ne 15, 3) := by decide +kernel
theorem dK_leaveOutBack_29 : decode cK_leaveOutBack 29 = .ok (.aload_n 0, 1) := by decide +kernel
theorem dK_leaveOutBack_30 : decode cK_leaveOutBack 30 = .ok (.getfield 41, 3) := by decide +kernel
theorem dK_leaveOutBack_33 : decode cK_leaveOutBack 33 = .ok (.iload_n 2, 1) := by decide +kernel
theorem dK_leaveOutBack_34 : decode cK_leaveOutBack 34 = .ok (.aload_n 1, 1) := by decide +kernel
theorem dK_leaveOutBack_35 : decode cK_leaveOutBack 35 = .ok (.iload_n 3, 1) := by decide +kernel
theorem dK_leaveOutBack_36 : decode cK_leaveOutBack 36 = .ok (.iaload, 1) := by decide +kernel
theorem dK_leaveOutBack_37 : decode cK_leaveOutBack 37 = .ok (.iastore, 1) := by decide +kernel
theorem dK_leaveOutBack_38 : decode cK_leaveOutBack 38 = .ok (.iinc 2 1, 3) := by decide +kernel
theorem dK_leaveOutBack_41 : decode cK_leaveOutBack 41 = .ok (.iinc 3 1, 3) := by decide +kernel
theorem dK_leaveOutBack_44 : decode cK_leaveOutBack 44 = .ok (.goto (-40), 3) := by decide +kernel
theorem dK_leaveOutBack_47 : decode cK_leaveOutBack 47 = .ok (.iload_n 2, 1) := by decide +kernel
theorem dK_leaveOutBack_48 : decode cK_leaveOutBack 48 = .ok (.ireturn, 1) := by decide +kernel
theorem dK_spreadOver_0 : decode cK_spreadOver 0 = .ok (.aload_n 0, 1) := by decide +kernel
theorem dK_spreadOver_1 : decode cK_spreadOver 1 = .ok (.getfield 9, 3) := by decide +kernel
theorem dK_spreadOver_4 : decode cK_spreadOver 4 = .ok (.getfield 59, 3) := by decide +kernel
theorem dK_spreadOver_7 : decode cK_spreadOver 7 = .ok (.iload_n 1, 1) := by decide +kernel
theorem dK_spreadOver_8 : decode cK_spreadOver 8 = .ok (.iaload, 1) := by decide +kernel
theorem dK_spreadOver_9 : decode cK_spreadOver 9 = .ok (.istore_n 3, 1) := by decide +kernel
theorem dK_spreadOver_10 : decode cK_spreadOver 10 = .ok (.aload_n 0, 1) := by decide +kernel
theorem dK_spreadOver_11 : decode cK_spreadOver 11 = .ok (.getfield 9, 3) := by decide +kernel
theorem dK_spreadOver_14 : decode cK_spreadOver 14 = .ok (.getfield 54, 3) := by decide +kernel
theorem dK_spreadOver_17 : decode cK_spreadOver 17 = .ok (.iload_n 1, 1) := by decide +kernel
theorem dK_spreadOver_18 : decode cK_spreadOver 18 = .ok (.iaload, 1) := by decide +kernel
theorem dK_spreadOver_19 : decode cK_spreadOver 19 = .ok (.istore 4, 2) := by decide +kernel
theorem dK_spreadOver_21 : decode cK_spreadOver 21 = .ok (.iload_n 2, 1) := by decide +kernel
theorem dK_spreadOver_22 : decode cK_spreadOver 22 = .ok (.iload_n 3, 1) := by decide +kernel
theorem dK_spreadOver_23 : decode cK_spreadOver 23 = .ok (.invokestatic 99, 3) := by decide +kernel
theorem dK_spreadOver_26 : decode cK_spreadOver 26 = .ok (.ifCond .eq 35, 3) := by decide +kernel
theorem dK_spreadOver_29 : decode cK_spreadOver 29 = .ok (.iload_n 2, 1) := by decide +kernel
theorem dK_spreadOver_30 : decode cK_spreadOver 30 = .ok (.iload 4, 2) := by decide +kernel
theorem dK_spreadOver_32 : decode cK_spreadOver 32 = .ok (.invokestatic 99, 3) := by decide +kernel
theorem dK_spreadOver_35 : decode cK_spreadOver 35 = .ok (.ifCond .ne 26, 3) := by decide +kernel
theorem dK_spreadOver_38 : decode cK_spreadOver 38 = .ok (.aload_n 0, 1) := by decide +kernel
theorem dK_spreadOver_39 : decode cK_spreadOver 39 = .ok (.getfield 38, 3) := by decide +kernel
theorem dK_spreadOver_42 : decode cK_spreadOver 42 = .ok (.iload 4, 2) := by decide +kernel
theorem dK_spreadOver_44 : decode cK_spreadOver 44 = .ok (.aload_n 0, 1) := by decide +kernel
theorem dK_spreadOver_45 : decode cK_spreadOver 45 = .ok (.getfield 38, 3) := by decide +kernel
theorem dK_spreadOver_48 : decode cK_spreadOver 48 = .ok (.iload_n 3, 1) := by decide +kernel
theorem dK_spreadOver_49 : decode cK_spreadOver 49 = .ok (.iaload, 1) := by decide +kernel
theorem dK_spreadOver_50 : decode cK_spreadOver 50 = .ok (.aload_n 0, 1) := by decide +kernel
theorem dK_spreadOver_51 : decode cK_spreadOver 51 = .ok (.getfield 32, 3) := by decide +kernel
theorem dK_spreadOver_54 : decode cK_spreadOver 54 = .ok (.iload_n 1, 1) := by decide +kernel
theorem dK_spreadOver_55 : decode cK_spreadOver 55 = .ok (.iaload, 1) := by decide +kernel
theorem dK_spreadOver_56 : decode cK_spreadOver 56 = .ok (.iadd, 1) := by decide +kernel
theorem dK_spreadOver_57 : decode cK_spreadOver 57 = .ok (.iastore, 1) := by decide +kernel
theorem dK_spreadOver_58 : decode cK_spreadOver 58 = .ok (.goto 45, 3) := by decide +kernel
theorem dK_spreadOver_61 : decode cK_spreadOver 61 = .ok (.iload_n 2, 1) := by decide +kernel
theorem dK_spreadOver_62 : decode cK_spreadOver 62 = .ok (.iload 4, 2) := by decide +kernel
theorem dK_spreadOver_64 : decode cK_spreadOver 64 = .ok (.invokestatic 99, 3) := by decide +kernel
theorem dK_spreadOver_67 : decode cK_spreadOver 67 = .ok (.ifCond .eq 34, 3) := by decide +kernel
theorem dK_spreadOver_70 : decode cK_spreadOver 70 = .ok (.iload_n 2, 1) := by decide +kernel
theorem dK_spreadOver_71 : decode cK_spreadOver 71 = .ok (.iload_n 3, 1) := by decide +kernel
theorem dK_spreadOver_72 : decode cK_spreadOver 72 = .ok (.invokestatic 99, 3) := by decide +kernel
theorem dK_spreadOver_75 : decode cK_spreadOver 75 = .ok (.ifCond .ne 26, 3) := by decide +kernel
theorem dK_spreadOver_78 : decode cK_spreadOver 78 = .ok (.aload_n 0, 1) := by decide +kernel
theorem dK_spreadOver_79 : decode cK_spreadOver 79 = .ok (.getfield 38, 3) := by decide +kernel
theorem dK_spreadOver_82 : decode cK_spreadOver 82 = .ok (.iload_n 3, 1) := by decide +kernel
theorem dK_spreadOver_83 : decode cK_spreadOver 83 = .ok (.aload_n 0, 1) := by decide +kernel
theorem dK_spreadOver_84 : decode cK_spreadOver 84 = .ok (.getfield 38, 3) := by decide +kernel
theorem dK_spreadOver_87 : decode cK_spreadOver 87 = .ok (.iload 4, 2) := by decide +kernel
theorem dK_spreadOver_89 : decode cK_spreadOver 89 = .ok (.iaload, 1) := by decide +kernel
theorem dK_spreadOver_90 : decode cK_spreadOver 90 = .ok (.aload_n 0, 1) := by decide +kernel
theorem dK_spreadOver_91 : decode cK_spreadOver 91 = .ok (.getfield 32, 3) := by decide +kernel
theorem dK_spreadOver_94 : decode cK_spreadOver 94 = .ok (.iload_n 1, 1) := by decide +kernel
theorem dK_spreadOver_95 : decode cK_spreadOver 95 = .ok (.iaload, 1) := by decide +kernel
theorem dK_spreadOver_96 : decode cK_spreadOver 96 = .ok (.isub, 1) := by decide +kernel
theorem dK_spreadOver_97 : decode cK_spreadOver 97 = .ok (.iastore, 1) := by decide +kernel
theorem dK_spreadOver_98 : decode cK_spreadOver 98 = .ok (.goto 5, 3) := by decide +kernel
theorem dK_spreadOver_101 : decode cK_spreadOver 101 = .ok (.iload_n 2, 1) := by decide +kernel
theorem dK_spreadOver_102 : decode cK_spreadOver 102 = .ok (.ireturn, 1) := by decide +kernel
theorem dK_spreadOver_103 : decode cK_spreadOver 103 = .ok (.iload_n 2, 1) := by decide +kernel
theorem dK_spreadOver_104 : decode cK_spreadOver 104 = .ok (.iload_n 3, 1) := by decide +kernel
theorem dK_spreadOver_105 : decode cK_spreadOver 105 = .ok (.invokestatic 89, 3) := by decide +kernel
theorem dK_spreadOver_108 : decode cK_spreadOver 108 = .ok (.ior, 1) := by decide +kernel
theorem dK_spreadOver_109 : decode cK_spreadOver 109 = .ok (.iload 4, 2) := by decide +kernel
theorem dK_spreadOver_111 : decode cK_spreadOver 111 = .ok (.invokestatic 89, 3) := by decide +kernel
theorem dK_spreadOver_114 : decode cK_spreadOver 114 = .ok (.ior, 1) := by decide +kernel
theorem dK_spreadOver_115 : decode cK_spreadOver 115 = .ok (.ireturn, 1) := by decide +kernel
theorem dK_startOfWay_0 : decode cK_startOfWay 0 = .ok (.iconst (-1), 1) := by decide +kernel
theorem dK_startOfWay_1 : decode cK_startOfWay 1 = .ok (.istore_n 2, 1) := by decide +kernel
theorem dK_startOfWay_2 : decode cK_startOfWay 2 = .ok (.iconst 0, 1) := by decide +kernel
theorem dK_startOfWay_3 : decode cK_startOfWay 3 = .ok (.istore_n 3, 1) := by decide +kernel
theorem dK_startOfWay_4 : decode cK_startOfWay 4 = .ok (.iload_n 3, 1) := by decide +kernel
theorem dK_startOfWay_5 : decode cK_startOfWay 5 = .ok (.aload_n 0, 1) := by decide +kernel
theorem dK_startOfWay_6 : decode cK_startOfWay 6 = .ok (.getfield 9, 3) := by decide +kernel
theorem dK_startOfWay_9 : decode cK_startOfWay 9 = .ok (.getfield 78, 3) := by decide +kernel
theorem dK_startOfWay_12 : decode cK_startOfWay 12 = .ok (.if_icmp .ge 33, 3) := by decide +kernel
theorem dK_startOfWay_15 : decode cK_startOfWay 15 = .ok (.aload_n 0, 1) := by decide +kernel
theorem dK_startOfWay_16 : decode cK_startOfWay 16 = .ok (.getfield 15, 3) := by decide +kernel
theorem dK_startOfWay_19 : decode cK_startOfWay 19 = .ok (.getfield 48, 3) := by decide +kernel
theorem dK_startOfWay_22 : decode cK_startOfWay 22 = .ok (.iload_n 3, 1) := by decide +kernel
theorem dK_startOfWay_23 : decode cK_startOfWay 23 = .ok (.baload, 1) := by decide +kernel
theorem dK_startOfWay_24 : decode cK_startOfWay 24 = .ok (.ifCond .eq 15, 3) := by decide +kernel
theorem dK_startOfWay_27 : decode cK_startOfWay 27 = .ok (.aload_n 0, 1) := by decide +kernel
theorem dK_startOfWay_28 : decode cK_startOfWay 28 = .ok (.getfield 35, 3) := by decide +kernel
theorem dK_startOfWay_31 : decode cK_startOfWay 31 = .ok (.iload_n 3, 1) := by decide +kernel
theorem dK_startOfWay_32 : decode cK_startOfWay 32 = .ok (.iaload, 1) := by decide +kernel
theorem dK_startOfWay_33 : decode cK_startOfWay 33 = .ok (.iload_n 1, 1) := by decide +kernel
theorem dK_startOfWay_34 : decode cK_startOfWay 34 = .ok (.if_icmp .gt 5, 3) := by decide +kernel
theorem dK_startOfWay_37 : decode cK_startOfWay 37 = .ok (.iload_n 3, 1) := by decide +kernel
theorem dK_startOfWay_38 : decode cK_startOfWay 38 = .ok (.istore_n 2, 1) := by decide +kernel
theorem dK_startOfWay_39 : decode cK_startOfWay 39 = .ok (.iinc 3 1, 3) := by decide +kernel
theorem dK_startOfWay_42 : decode cK_startOfWay 42 = .ok (.goto (-38), 3) := by decide +kernel
theorem dK_startOfWay_45 : decode cK_startOfWay 45 = .ok (.iload_n 2, 1) := by decide +kernel
theorem dK_startOfWay_46 : decode cK_startOfWay 46 = .ok (.ireturn, 1) := by decide +kernel
theorem dK_edgeOfWay_0 : decode cK_edgeOfWay 0 = .ok (.iload_n 2, 1) := by decide +kernel
theorem dK_edgeOfWay_1 : decode cK_edgeOfWay 1 = .ok (.ifCond .ge 7, 3) := by decide +kernel
theorem dK_edgeOfWay_4 : decode cK_edgeOfWay 4 = .ok (.iconst 0, 1) := by decide +kernel
theorem dK_edgeOfWay_5 : decode cK_edgeOfWay 5 = .ok (.goto 12, 3) := by decide +kernel
theorem dK_edgeOfWay_8 : decode cK_edgeOfWay 8 = .ok (.aload_n 0, 1) := by decide +kernel
theorem dK_edgeOfWay_9 : decode cK_edgeOfWay 9 = .ok (.getfield 9, 3) := by decide +kernel
theorem dK_edgeOfWay_12 : decode cK_edgeOfWay 12 = .ok (.getfield 54, 3) := by decide +kernel
theorem dK_edgeOfWay_15 : decode cK_edgeOfWay 15 = .ok (.iload_n 2, 1) := by decide +kernel
theorem dK_edgeOfWay_16 : decode cK_edgeOfWay 16 = .ok (.iaload, 1) := by decide +kernel
theorem dK_edgeOfWay_17 : decode cK_edgeOfWay 17 = .ok (.istore 4, 2) := by decide +kernel
theorem dK_edgeOfWay_19 : decode cK_edgeOfWay 19 = .ok (.iload_n 2, 1) := by decide +kernel
theorem dK_edgeOfWay_20 : decode cK_edgeOfWay 20 = .ok (.ifCond .ge 7, 3) := by decide +kernel
theorem dK_edgeOfWay_23 : decode cK_edgeOfWay 23 = .ok (.iload_n 1, 1) := by decide +kernel
theorem dK_edgeOfWay_24 : decode cK_edgeOfWay 24 = .ok (.goto 11, 3) := by decide +kernel
theorem dK_edgeOfWay_27 : decode cK_edgeOfWay 27 = .ok (.iload_n 1, 1) := by decide +kernel
theorem dK_edgeOfWay_28 : decode cK_edgeOfWay 28 = .ok (.aload_n 0, 1) := by decide +kernel
theorem dK_edgeOfWay_29 : decode cK_edgeOfWay 29 = .ok (.getfield 35, 3) := by decide +kernel
theorem dK_edgeOfWay_32 : decode cK_edgeOfWay 32 = .ok (.iload_n 2, 1) := by decide +kernel
theorem dK_edgeOfWay_33 : decode cK_edgeOfWay 33 = .ok (.iaload, 1) := by decide +kernel
theorem dK_edgeOfWay_34 : decode cK_edgeOfWay 34 = .ok (.isub, 1) := by decide +kernel
theorem dK_edgeOfWay_35 : decode cK_edgeOfWay 35 = .ok (.istore 5, 2) := by decide +kernel
theorem dK_edgeOfWay_37 : decode cK_edgeOfWay 37 = .ok (.iconst 1, 1) := by decide +kernel
theorem dK_edgeOfWay_38 : decode cK_edgeOfWay 38 = .ok (.istore 6, 2) := by decide +kernel
theorem dK_edgeOfWay_40 : decode cK_edgeOfWay 40 = .ok (.iload 6, 2) := by decide +kernel
theorem dK_edgeOfWay_42 : decode cK_edgeOfWay 42 = .ok (.aload_n 0, 1) := by decide +kernel
theorem dK_edgeOfWay_43 : decode cK_edgeOfWay 43 = .ok (.getfield 9, 3) := by decide +kernel
theorem dK_edgeOfWay_46 : decode cK_edgeOfWay 46 = .ok (.getfield 66, 3) := by decide +kernel
theorem dK_edgeOfWay_49 : decode cK_edgeOfWay 49 = .ok (.if_icmp .ge 69, 3) := by decide +kernel
theorem dK_edgeOfWay_52 : decode cK_edgeOfWay 52 = .ok (.iload 4, 2) := by decide +kernel
theorem dK_edgeOfWay_54 : decode cK_edgeOfWay 54 = .ok (.iconst 1, 1) := by decide +kernel
theorem dK_edgeOfWay_55 : decode cK_edgeOfWay 55 = .ok (.if_icmp .eq 63, 3) := by decide +kernel
theorem dK_edgeOfWay_58 : decode cK_edgeOfWay 58 = .ok (.aload_n 0, 1) := by decide +kernel
theorem dK_edgeOfWay_59 : decode cK_edgeOfWay 59 = .ok (.iload 4, 2) := by decide +kernel
theorem dK_edgeOfWay_61 : decode cK_edgeOfWay 61 = .ok (.iload 5, 2) := by decide +kernel
theorem dK_edgeOfWay_63 : decode cK_edgeOfWay 63 = .ok (.invokevirtual 103, 3) := by decide +kernel
theorem dK_edgeOfWay_66 : decode cK_edgeOfWay 66 = .ok (.istore 7, 2) := by decide +kernel
theorem dK_edgeOfWay_68 : decode cK_edgeOfWay 68 = .ok (.iload 7, 2) := by decide +kernel
theorem dK_edgeOfWay_70 : decode cK_edgeOfWay 70 = .ok (.ifCond .lt 9, 3) := by decide +kernel
theorem dK_edgeOfWay_73 : decode cK_edgeOfWay 73 = .ok (.iload 6, 2) := by decide +kernel
theorem dK_edgeOfWay_75 : decode cK_edgeOfWay 75 = .ok (.iload_n 3, 1) := by decide +kernel
theorem dK_edgeOfWay_76 : decode cK_edgeOfWay 76 = .ok (.if_icmp .ne 16, 3) := by decide +kernel
theorem dK_edgeOfWay_79 : decode cK_edgeOfWay 79 = .ok (.iload 7, 2) := by decide +kernel
theorem dK_edgeOfWay_81 : decode cK_edgeOfWay 81 = .ok (.ifCond .ge 8, 3) := by decide +kernel
theorem dK_edgeOfWay_84 : decode cK_edgeOfWay 84 = .ok (.ldc 106, 2) := by decide +kernel
theorem dK_edgeOfWay_86 : decode cK_edgeOfWay 86 = .ok (.goto 5, 3) := by decide +kernel
theorem dK_edgeOfWay_89 : decode cK_edgeOfWay 89 = .ok (.iload 7, 2) := by decide +kernel
theorem dK_edgeOfWay_91 : decode cK_edgeOfWay 91 = .ok (.ireturn, 1) := by decide +kernel
theorem dK_edgeOfWay_92 : decode cK_edgeOfWay 92 = .ok (.iload 5, 2) := by decide +kernel
theorem dK_edgeOfWay_94 : decode cK_edgeOfWay 94 = .ok (.aload_n 0, 1) := by decide +kernel
theorem dK_edgeOfWay_95 : decode cK_edgeOfWay 95 = .ok (.getfield 32, 3) := by decide +kernel
theorem dK_edgeOfWay_98 : decode cK_edgeOfWay 98 = .ok (.iload 7, 2) := by decide +kernel
theorem dK_edgeOfWay_100 : decode cK_edgeOfWay 100 = .ok (.iaload, 1) := by decide +kernel
theorem dK_edgeOfWay_101 : decode cK_edgeOfWay 101 = .ok (.isub, 1) := by decide +kernel
theorem dK_edgeOfWay_102 : decode cK_edgeOfWay 102 = .ok (.istore 5, 2) := by decide +kernel
theorem dK_edgeOfWay_104 : decode cK_edgeOfWay 104 = .ok (.aload_n 0, 1) := by decide +kernel
theorem dK_edgeOfWay_105 : decode cK_edgeOfWay 105 = .ok (.iload 7, 2) := by decide +kernel
theorem dK_edgeOfWay_107 : decode cK_edgeOfWay 107 = .ok (.invokevirtual 62, 3) := by decide +kernel
theorem dK_edgeOfWay_110 : decode cK_edgeOfWay 110 = .ok (.istore 4, 2) := by decide +kernel
theorem dK_edgeOfWay_112 : decode cK_edgeOfWay 112 = .ok (.iinc 6 1, 3) := by decide +kernel
theorem dK_edgeOfWay_115 : decode cK_edgeOfWay 115 = .ok (.goto (-75), 3) := by decide +kernel
theorem dK_edgeOfWay_118 : decode cK_edgeOfWay 118 = .ok (.ldc 106, 2) := by decide +kernel
theorem dK_edgeOfWay_120 : decode cK_edgeOfWay 120 = .ok (.ireturn, 1) := by decide +kernel
theorem dK_linkFrom_0 : decode cK_linkFrom 0 = .ok (.iconst (-1), 1) := by decide +kernel
theorem dK_linkFrom_1 : decode cK_linkFrom 1 = .ok (.istore_n 3, 1) := by decide +kernel
theorem dK_linkFrom_2 : decode cK_linkFrom 2 = .ok (.iconst 0, 1) := by decide +kernel
theorem dK_linkFrom_3 : decode cK_linkFrom 3 = .ok (.istore 4, 2) := by decide +kernel
theorem dK_linkFrom_5 : decode cK_linkFrom 5 = .ok (.iload 4, 2) := by decide +kernel
theorem dK_linkFrom_7 : decode cK_linkFrom 7 = .ok (.aload_n 0, 1) := by decide +kernel
theorem dK_linkFrom_8 : decode cK_linkFrom 8 = .ok (.getfield 9, 3) := by decide +kernel
theorem dK_linkFrom_11 : decode cK_linkFrom 11 = .ok (.getfield 78, 3) := by decide +kernel
theorem dK_linkFrom_14 : decode cK_linkFrom 14 = .ok (.if_icmp .ge 37, 3) := by decide +kernel
theorem dK_linkFrom_17 : decode cK_linkFrom 17 = .ok (.aload_n 0, 1) := by decide +kernel
theorem dK_linkFrom_18 : decode cK_linkFrom 18 = .ok (.getfield 9, 3) := by decide +kernel
theorem dK_linkFrom_21 : decode cK_linkFrom 21 = .ok (.getfield 59, 3) := by decide +kernel
theorem dK_linkFrom_24 : decode cK_linkFrom 24 = .ok (.iload 4, 2) := by decide +kernel
theorem dK_linkFrom_26 : decode cK_linkFrom 26 = .ok (.iaload, 1) := by decide +kernel
theorem dK_linkFrom_27 : decode cK_linkFrom 27 = .ok (.iload_n 1, 1) := by decide +kernel
theorem dK_linkFrom_28 : decode cK_linkFrom 28 = .ok (.if_icmp .ne 17, 3) := by decide +kernel
theorem dK_linkFrom_31 : decode cK_linkFrom 31 = .ok (.aload_n 0, 1) := by decide +kernel
theorem dK_linkFrom_32 : decode cK_linkFrom 32 = .ok (.getfield 32, 3) := by decide +kernel
theorem dK_linkFrom_35 : decode cK_linkFrom 35 = .ok (.iload 4, 2) := by decide +kernel
theorem dK_linkFrom_37 : decode cK_linkFrom 37 = .ok (.iaload, 1) := by decide +kernel
theorem dK_linkFrom_38 : decode cK_linkFrom 38 = .ok (.iload_n 2, 1) := by decide +kernel
theorem dK_linkFrom_39 : decode cK_linkFrom 39 = .ok (.if_icmp .gt 6, 3) := by decide +kernel
