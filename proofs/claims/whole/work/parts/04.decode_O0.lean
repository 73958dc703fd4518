/-! rows that decode, O -/
theorem dO_init_0 : decode cO_init 0 = .ok (.aload_n 0, 1) := by decide +kernel
theorem dO_init_1 : decode cO_init 1 = .ok (.invokespecial 3, 3) := by decide +kernel
theorem dO_init_4 : decode cO_init 4 = .ok (.aload_n 0, 1) := by decide +kernel
theorem dO_init_5 : decode cO_init 5 = .ok (.aload_n 1, 1) := by decide +kernel
theorem dO_init_6 : decode cO_init 6 = .ok (.putfield 9, 3) := by decide +kernel
theorem dO_init_9 : decode cO_init 9 = .ok (.aload_n 0, 1) := by decide +kernel
theorem dO_init_10 : decode cO_init 10 = .ok (.aload_n 2, 1) := by decide +kernel
theorem dO_init_11 : decode cO_init 11 = .ok (.putfield 15, 3) := by decide +kernel
theorem dO_init_14 : decode cO_init 14 = .ok (.aload_n 0, 1) := by decide +kernel
theorem dO_init_15 : decode cO_init 15 = .ok (.bipush 12, 2) := by decide +kernel
theorem dO_init_17 : decode cO_init 17 = .ok (.newarray .int, 2) := by decide +kernel
theorem dO_init_19 : decode cO_init 19 = .ok (.putfield 19, 3) := by decide +kernel
theorem dO_init_22 : decode cO_init 22 = .ok (.aload_n 0, 1) := by decide +kernel
theorem dO_init_23 : decode cO_init 23 = .ok (.bipush 24, 2) := by decide +kernel
theorem dO_init_25 : decode cO_init 25 = .ok (.newarray .int, 2) := by decide +kernel
theorem dO_init_27 : decode cO_init 27 = .ok (.putfield 23, 3) := by decide +kernel
theorem dO_init_30 : decode cO_init 30 = .ok (.return_, 1) := by decide +kernel
theorem dO_measure_0 : decode cO_measure 0 = .ok (.iconst 0, 1) := by decide +kernel
theorem dO_measure_1 : decode cO_measure 1 = .ok (.istore_n 1, 1) := by decide +kernel
theorem dO_measure_2 : decode cO_measure 2 = .ok (.iload_n 1, 1) := by decide +kernel
theorem dO_measure_3 : decode cO_measure 3 = .ok (.aload_n 0, 1) := by decide +kernel
theorem dO_measure_4 : decode cO_measure 4 = .ok (.getfield 9, 3) := by decide +kernel
theorem dO_measure_7 : decode cO_measure 7 = .ok (.getfield 26, 3) := by decide +kernel
theorem dO_measure_10 : decode cO_measure 10 = .ok (.if_icmp .ge 30, 3) := by decide +kernel
theorem dO_measure_13 : decode cO_measure 13 = .ok (.aload_n 0, 1) := by decide +kernel
theorem dO_measure_14 : decode cO_measure 14 = .ok (.getfield 15, 3) := by decide +kernel
theorem dO_measure_17 : decode cO_measure 17 = .ok (.getfield 32, 3) := by decide +kernel
theorem dO_measure_20 : decode cO_measure 20 = .ok (.iload_n 1, 1) := by decide +kernel
theorem dO_measure_21 : decode cO_measure 21 = .ok (.baload, 1) := by decide +kernel
theorem dO_measure_22 : decode cO_measure 22 = .ok (.ifCond .eq 12, 3) := by decide +kernel
theorem dO_measure_25 : decode cO_measure 25 = .ok (.aload_n 0, 1) := by decide +kernel
theorem dO_measure_26 : decode cO_measure 26 = .ok (.aload_n 0, 1) := by decide +kernel
theorem dO_measure_27 : decode cO_measure 27 = .ok (.iload_n 1, 1) := by decide +kernel
theorem dO_measure_28 : decode cO_measure 28 = .ok (.invokevirtual 38, 3) := by decide +kernel
theorem dO_measure_31 : decode cO_measure 31 = .ok (.invokevirtual 42, 3) := by decide +kernel
theorem dO_measure_34 : decode cO_measure 34 = .ok (.iinc 1 1, 3) := by decide +kernel
theorem dO_measure_37 : decode cO_measure 37 = .ok (.goto (-35), 3) := by decide +kernel
theorem dO_measure_40 : decode cO_measure 40 = .ok (.aload_n 0, 1) := by decide +kernel
theorem dO_measure_41 : decode cO_measure 41 = .ok (.invokevirtual 46, 3) := by decide +kernel
theorem dO_measure_44 : decode cO_measure 44 = .ok (.return_, 1) := by decide +kernel
theorem dO_loopOf_0 : decode cO_loopOf 0 = .ok (.aload_n 0, 1) := by decide +kernel
theorem dO_loopOf_1 : decode cO_loopOf 1 = .ok (.getfield 9, 3) := by decide +kernel
theorem dO_loopOf_4 : decode cO_loopOf 4 = .ok (.getfield 49, 3) := by decide +kernel
theorem dO_loopOf_7 : decode cO_loopOf 7 = .ok (.iload_n 1, 1) := by decide +kernel
theorem dO_loopOf_8 : decode cO_loopOf 8 = .ok (.iaload, 1) := by decide +kernel
theorem dO_loopOf_9 : decode cO_loopOf 9 = .ok (.istore_n 2, 1) := by decide +kernel
theorem dO_loopOf_10 : decode cO_loopOf 10 = .ok (.iload_n 2, 1) := by decide +kernel
theorem dO_loopOf_11 : decode cO_loopOf 11 = .ok (.invokestatic 52, 3) := by decide +kernel
theorem dO_loopOf_14 : decode cO_loopOf 14 = .ok (.aload_n 0, 1) := by decide +kernel
theorem dO_loopOf_15 : decode cO_loopOf 15 = .ok (.getfield 9, 3) := by decide +kernel
theorem dO_loopOf_18 : decode cO_loopOf 18 = .ok (.aload_n 0, 1) := by decide +kernel
theorem dO_loopOf_19 : decode cO_loopOf 19 = .ok (.getfield 9, 3) := by decide +kernel
theorem dO_loopOf_22 : decode cO_loopOf 22 = .ok (.getfield 55, 3) := by decide +kernel
theorem dO_loopOf_25 : decode cO_loopOf 25 = .ok (.iload_n 1, 1) := by decide +kernel
theorem dO_loopOf_26 : decode cO_loopOf 26 = .ok (.iaload, 1) := by decide +kernel
theorem dO_loopOf_27 : decode cO_loopOf 27 = .ok (.iload_n 2, 1) := by decide +kernel
theorem dO_loopOf_28 : decode cO_loopOf 28 = .ok (.invokevirtual 58, 3) := by decide +kernel
theorem dO_loopOf_31 : decode cO_loopOf 31 = .ok (.ior, 1) := by decide +kernel
theorem dO_loopOf_32 : decode cO_loopOf 32 = .ok (.ireturn, 1) := by decide +kernel
theorem dO_deepen_0 : decode cO_deepen 0 = .ok (.iconst 0, 1) := by decide +kernel
theorem dO_deepen_1 : decode cO_deepen 1 = .ok (.istore_n 2, 1) := by decide +kernel
theorem dO_deepen_2 : decode cO_deepen 2 = .ok (.iload_n 2, 1) := by decide +kernel
theorem dO_deepen_3 : decode cO_deepen 3 = .ok (.aload_n 0, 1) := by decide +kernel
theorem dO_deepen_4 : decode cO_deepen 4 = .ok (.getfield 9, 3) := by decide +kernel
theorem dO_deepen_7 : decode cO_deepen 7 = .ok (.getfield 62, 3) := by decide +kernel
theorem dO_deepen_10 : decode cO_deepen 10 = .ok (.if_icmp .ge 27, 3) := by decide +kernel
theorem dO_deepen_13 : decode cO_deepen 13 = .ok (.iload_n 1, 1) := by decide +kernel
theorem dO_deepen_14 : decode cO_deepen 14 = .ok (.iload_n 2, 1) := by decide +kernel
theorem dO_deepen_15 : decode cO_deepen 15 = .ok (.invokestatic 65, 3) := by decide +kernel
theorem dO_deepen_18 : decode cO_deepen 18 = .ok (.ifCond .eq 13, 3) := by decide +kernel
theorem dO_deepen_21 : decode cO_deepen 21 = .ok (.aload_n 0, 1) := by decide +kernel
theorem dO_deepen_22 : decode cO_deepen 22 = .ok (.getfield 19, 3) := by decide +kernel
theorem dO_deepen_25 : decode cO_deepen 25 = .ok (.iload_n 2, 1) := by decide +kernel
theorem dO_deepen_26 : decode cO_deepen 26 = .ok (.dup2, 1) := by decide +kernel
theorem dO_deepen_27 : decode cO_deepen 27 = .ok (.iaload, 1) := by decide +kernel
theorem dO_deepen_28 : decode cO_deepen 28 = .ok (.iconst 1, 1) := by decide +kernel
theorem dO_deepen_29 : decode cO_deepen 29 = .ok (.iadd, 1) := by decide +kernel
theorem dO_deepen_30 : decode cO_deepen 30 = .ok (.iastore, 1) := by decide +kernel
theorem dO_deepen_31 : decode cO_deepen 31 = .ok (.iinc 2 1, 3) := by decide +kernel
theorem dO_deepen_34 : decode cO_deepen 34 = .ok (.goto (-32), 3) := by decide +kernel
theorem dO_deepen_37 : decode cO_deepen 37 = .ok (.return_, 1) := by decide +kernel
theorem dO_weightOf_0 : decode cO_weightOf 0 = .ok (.aload_n 0, 1) := by decide +kernel
theorem dO_weightOf_1 : decode cO_weightOf 1 = .ok (.getfield 19, 3) := by decide +kernel
theorem dO_weightOf_4 : decode cO_weightOf 4 = .ok (.aload_n 0, 1) := by decide +kernel
theorem dO_weightOf_5 : decode cO_weightOf 5 = .ok (.getfield 9, 3) := by decide +kernel
theorem dO_weightOf_8 : decode cO_weightOf 8 = .ok (.getfield 55, 3) := by decide +kernel
theorem dO_weightOf_11 : decode cO_weightOf 11 = .ok (.iload_n 1, 1) := by decide +kernel
theorem dO_weightOf_12 : decode cO_weightOf 12 = .ok (.iaload, 1) := by decide +kernel
theorem dO_weightOf_13 : decode cO_weightOf 13 = .ok (.iaload, 1) := by decide +kernel
theorem dO_weightOf_14 : decode cO_weightOf 14 = .ok (.aload_n 0, 1) := by decide +kernel
theorem dO_weightOf_15 : decode cO_weightOf 15 = .ok (.getfield 19, 3) := by decide +kernel
theorem dO_weightOf_18 : decode cO_weightOf 18 = .ok (.aload_n 0, 1) := by decide +kernel
theorem dO_weightOf_19 : decode cO_weightOf 19 = .ok (.getfield 9, 3) := by decide +kernel
theorem dO_weightOf_22 : decode cO_weightOf 22 = .ok (.getfield 49, 3) := by decide +kernel
theorem dO_weightOf_25 : decode cO_weightOf 25 = .ok (.iload_n 1, 1) := by decide +kernel
theorem dO_weightOf_26 : decode cO_weightOf 26 = .ok (.iaload, 1) := by decide +kernel
theorem dO_weightOf_27 : decode cO_weightOf 27 = .ok (.iaload, 1) := by decide +kernel
theorem dO_weightOf_28 : decode cO_weightOf 28 = .ok (.invokestatic 69, 3) := by decide +kernel
theorem dO_weightOf_31 : decode cO_weightOf 31 = .ok (.ireturn, 1) := by decide +kernel
theorem dO_putInOrder_0 : decode cO_putInOrder 0 = .ok (.iconst 0, 1) := by decide +kernel
theorem dO_putInOrder_1 : decode cO_putInOrder 1 = .ok (.istore_n 1, 1) := by decide +kernel
theorem dO_putInOrder_2 : decode cO_putInOrder 2 = .ok (.aload_n 0, 1) := by decide +kernel
theorem dO_putInOrder_3 : decode cO_putInOrder 3 = .ok (.getfield 9, 3) := by decide +kernel
theorem dO_putInOrder_6 : decode cO_putInOrder 6 = .ok (.getfield 26, 3) := by decide +kernel
theorem dO_putInOrder_9 : decode cO_putInOrder 9 = .ok (.istore_n 2, 1) := by decide +kernel
theorem dO_putInOrder_10 : decode cO_putInOrder 10 = .ok (.iload_n 2, 1) := by decide +kernel
theorem dO_putInOrder_11 : decode cO_putInOrder 11 = .ok (.ifCond .lt 47, 3) := by decide +kernel
theorem dO_putInOrder_14 : decode cO_putInOrder 14 = .ok (.iconst 0, 1) := by decide +kernel
theorem dO_putInOrder_15 : decode cO_putInOrder 15 = .ok (.istore_n 3, 1) := by decide +kernel
theorem dO_putInOrder_16 : decode cO_putInOrder 16 = .ok (.iload_n 3, 1) := by decide +kernel
theorem dO_putInOrder_17 : decode cO_putInOrder 17 = .ok (.aload_n 0, 1) := by decide +kernel
theorem dO_putInOrder_18 : decode cO_putInOrder 18 = .ok (.getfield 9, 3) := by decide +kernel
theorem dO_putInOrder_21 : decode cO_putInOrder 21 = .ok (.getfield 26, 3) := by decide +kernel
theorem dO_putInOrder_24 : decode cO_putInOrder 24 = .ok (.if_icmp .ge 28, 3) := by decide +kernel
theorem dO_putInOrder_27 : decode cO_putInOrder 27 = .ok (.aload_n 0, 1) := by decide +kernel
theorem dO_putInOrder_28 : decode cO_putInOrder 28 = .ok (.iload_n 3, 1) := by decide +kernel
theorem dO_putInOrder_29 : decode cO_putInOrder 29 = .ok (.invokevirtual 74, 3) := by decide +kernel
theorem dO_putInOrder_32 : decode cO_putInOrder 32 = .ok (.iload_n 2, 1) := by decide +kernel
theorem dO_putInOrder_33 : decode cO_putInOrder 33 = .ok (.if_icmp .ne 13, 3) := by decide +kernel
theorem dO_putInOrder_36 : decode cO_putInOrder 36 = .ok (.aload_n 0, 1) := by decide +kernel
theorem dO_putInOrder_37 : decode cO_putInOrder 37 = .ok (.getfield 23, 3) := by decide +kernel
theorem dO_putInOrder_40 : decode cO_putInOrder 40 = .ok (.iload_n 1, 1) := by decide +kernel
theorem dO_putInOrder_41 : decode cO_putInOrder 41 = .ok (.iload_n 3, 1) := by decide +kernel
theorem dO_putInOrder_42 : decode cO_putInOrder 42 = .ok (.iastore, 1) := by decide +kernel
theorem dO_putInOrder_43 : decode cO_putInOrder 43 = .ok (.iinc 1 1, 3) := by decide +kernel
theorem dO_putInOrder_46 : decode cO_putInOrder 46 = .ok (.iinc 3 1, 3) := by decide +kernel
theorem dO_putInOrder_49 : decode cO_putInOrder 49 = .ok (.goto (-33), 3) := by decide +kernel
theorem dO_putInOrder_52 : decode cO_putInOrder 52 = .ok (.iinc 2 (-1), 3) := by decide +kernel
theorem dO_putInOrder_55 : decode cO_putInOrder 55 = .ok (.goto (-45), 3) := by decide +kernel
theorem dO_putInOrder_58 : decode cO_putInOrder 58 = .ok (.return_, 1) := by decide +kernel
