/-! rows that decode, A -/
theorem dA_clear_7 : decode cA_clear 7 = .ok (.aload_n 0, 1) := by decide +kernel
theorem dA_clear_8 : decode cA_clear 8 = .ok (.invokevirtual 170, 3) := by decide +kernel
theorem dA_clear_11 : decode cA_clear 11 = .ok (.return_, 1) := by decide +kernel
theorem dA_knowsEdge_0 : decode cA_knowsEdge 0 = .ok (.aload_n 0, 1) := by decide +kernel
theorem dA_knowsEdge_1 : decode cA_knowsEdge 1 = .ok (.getfield 70, 3) := by decide +kernel
theorem dA_knowsEdge_4 : decode cA_knowsEdge 4 = .ok (.ifCond .eq 18, 3) := by decide +kernel
theorem dA_knowsEdge_7 : decode cA_knowsEdge 7 = .ok (.aload_n 0, 1) := by decide +kernel
theorem dA_knowsEdge_8 : decode cA_knowsEdge 8 = .ok (.getfield 25, 3) := by decide +kernel
theorem dA_knowsEdge_11 : decode cA_knowsEdge 11 = .ok (.iload_n 1, 1) := by decide +kernel
theorem dA_knowsEdge_12 : decode cA_knowsEdge 12 = .ok (.invokevirtual 152, 3) := by decide +kernel
theorem dA_knowsEdge_15 : decode cA_knowsEdge 15 = .ok (.ifCond .eq 7, 3) := by decide +kernel
theorem dA_knowsEdge_18 : decode cA_knowsEdge 18 = .ok (.iconst 1, 1) := by decide +kernel
theorem dA_knowsEdge_19 : decode cA_knowsEdge 19 = .ok (.goto 4, 3) := by decide +kernel
theorem dA_knowsEdge_22 : decode cA_knowsEdge 22 = .ok (.iconst 0, 1) := by decide +kernel
theorem dA_knowsEdge_23 : decode cA_knowsEdge 23 = .ok (.ireturn, 1) := by decide +kernel
theorem dA_knowsBlock_0 : decode cA_knowsBlock 0 = .ok (.aload_n 0, 1) := by decide +kernel
theorem dA_knowsBlock_1 : decode cA_knowsBlock 1 = .ok (.getfield 70, 3) := by decide +kernel
theorem dA_knowsBlock_4 : decode cA_knowsBlock 4 = .ok (.ifCond .eq 18, 3) := by decide +kernel
theorem dA_knowsBlock_7 : decode cA_knowsBlock 7 = .ok (.aload_n 0, 1) := by decide +kernel
theorem dA_knowsBlock_8 : decode cA_knowsBlock 8 = .ok (.getfield 25, 3) := by decide +kernel
theorem dA_knowsBlock_11 : decode cA_knowsBlock 11 = .ok (.iload_n 1, 1) := by decide +kernel
theorem dA_knowsBlock_12 : decode cA_knowsBlock 12 = .ok (.invokevirtual 81, 3) := by decide +kernel
theorem dA_knowsBlock_15 : decode cA_knowsBlock 15 = .ok (.ifCond .eq 7, 3) := by decide +kernel
theorem dA_knowsBlock_18 : decode cA_knowsBlock 18 = .ok (.iconst 1, 1) := by decide +kernel
theorem dA_knowsBlock_19 : decode cA_knowsBlock 19 = .ok (.goto 4, 3) := by decide +kernel
theorem dA_knowsBlock_22 : decode cA_knowsBlock 22 = .ok (.iconst 0, 1) := by decide +kernel
theorem dA_knowsBlock_23 : decode cA_knowsBlock 23 = .ok (.ireturn, 1) := by decide +kernel
theorem dA_knowsWay_0 : decode cA_knowsWay 0 = .ok (.aload_n 0, 1) := by decide +kernel
theorem dA_knowsWay_1 : decode cA_knowsWay 1 = .ok (.getfield 70, 3) := by decide +kernel
theorem dA_knowsWay_4 : decode cA_knowsWay 4 = .ok (.ifCond .eq 22, 3) := by decide +kernel
theorem dA_knowsWay_7 : decode cA_knowsWay 7 = .ok (.iload_n 1, 1) := by decide +kernel
theorem dA_knowsWay_8 : decode cA_knowsWay 8 = .ok (.ifCond .lt 18, 3) := by decide +kernel
theorem dA_knowsWay_11 : decode cA_knowsWay 11 = .ok (.iload_n 1, 1) := by decide +kernel
theorem dA_knowsWay_12 : decode cA_knowsWay 12 = .ok (.aload_n 0, 1) := by decide +kernel
theorem dA_knowsWay_13 : decode cA_knowsWay 13 = .ok (.getfield 57, 3) := by decide +kernel
theorem dA_knowsWay_16 : decode cA_knowsWay 16 = .ok (.getfield 104, 3) := by decide +kernel
theorem dA_knowsWay_19 : decode cA_knowsWay 19 = .ok (.if_icmp .ge 7, 3) := by decide +kernel
theorem dA_knowsWay_22 : decode cA_knowsWay 22 = .ok (.iconst 1, 1) := by decide +kernel
theorem dA_knowsWay_23 : decode cA_knowsWay 23 = .ok (.goto 4, 3) := by decide +kernel
theorem dA_knowsWay_26 : decode cA_knowsWay 26 = .ok (.iconst 0, 1) := by decide +kernel
theorem dA_knowsWay_27 : decode cA_knowsWay 27 = .ok (.ireturn, 1) := by decide +kernel
theorem dA_isUnderWay_0 : decode cA_isUnderWay 0 = .ok (.aload_n 0, 1) := by decide +kernel
theorem dA_isUnderWay_1 : decode cA_isUnderWay 1 = .ok (.getfield 74, 3) := by decide +kernel
theorem dA_isUnderWay_4 : decode cA_isUnderWay 4 = .ok (.iconst (-1), 1) := by decide +kernel
theorem dA_isUnderWay_5 : decode cA_isUnderWay 5 = .ok (.if_icmp .eq 7, 3) := by decide +kernel
theorem dA_isUnderWay_8 : decode cA_isUnderWay 8 = .ok (.iconst 1, 1) := by decide +kernel
theorem dA_isUnderWay_9 : decode cA_isUnderWay 9 = .ok (.goto 4, 3) := by decide +kernel
theorem dA_isUnderWay_12 : decode cA_isUnderWay 12 = .ok (.iconst 0, 1) := by decide +kernel
theorem dA_isUnderWay_13 : decode cA_isUnderWay 13 = .ok (.ireturn, 1) := by decide +kernel
theorem dA_pass_0 : decode cA_pass 0 = .ok (.aload_n 0, 1) := by decide +kernel
theorem dA_pass_1 : decode cA_pass 1 = .ok (.getfield 66, 3) := by decide +kernel
theorem dA_pass_4 : decode cA_pass 4 = .ok (.iload_n 1, 1) := by decide +kernel
theorem dA_pass_5 : decode cA_pass 5 = .ok (.invokevirtual 205, 3) := by decide +kernel
theorem dA_pass_8 : decode cA_pass 8 = .ok (.aload_n 0, 1) := by decide +kernel
theorem dA_pass_9 : decode cA_pass 9 = .ok (.dup, 1) := by decide +kernel
theorem dA_pass_10 : decode cA_pass 10 = .ok (.getfield 78, 3) := by decide +kernel
theorem dA_pass_13 : decode cA_pass 13 = .ok (.aload_n 0, 1) := by decide +kernel
theorem dA_pass_14 : decode cA_pass 14 = .ok (.getfield 57, 3) := by decide +kernel
theorem dA_pass_17 : decode cA_pass 17 = .ok (.iload_n 1, 1) := by decide +kernel
theorem dA_pass_18 : decode cA_pass 18 = .ok (.invokevirtual 141, 3) := by decide +kernel
theorem dA_pass_21 : decode cA_pass 21 = .ok (.iadd, 1) := by decide +kernel
theorem dA_pass_22 : decode cA_pass 22 = .ok (.putfield 78, 3) := by decide +kernel
theorem dA_pass_25 : decode cA_pass 25 = .ok (.aload_n 0, 1) := by decide +kernel
theorem dA_pass_26 : decode cA_pass 26 = .ok (.aload_n 0, 1) := by decide +kernel
theorem dA_pass_27 : decode cA_pass 27 = .ok (.getfield 25, 3) := by decide +kernel
theorem dA_pass_30 : decode cA_pass 30 = .ok (.getfield 161, 3) := by decide +kernel
theorem dA_pass_33 : decode cA_pass 33 = .ok (.iload_n 1, 1) := by decide +kernel
theorem dA_pass_34 : decode cA_pass 34 = .ok (.iaload, 1) := by decide +kernel
theorem dA_pass_35 : decode cA_pass 35 = .ok (.putfield 74, 3) := by decide +kernel
theorem dA_pass_38 : decode cA_pass 38 = .ok (.aload_n 0, 1) := by decide +kernel
theorem dA_pass_39 : decode cA_pass 39 = .ok (.getfield 34, 3) := by decide +kernel
theorem dA_pass_42 : decode cA_pass 42 = .ok (.getfield 128, 3) := by decide +kernel
theorem dA_pass_45 : decode cA_pass 45 = .ok (.iload_n 1, 1) := by decide +kernel
theorem dA_pass_46 : decode cA_pass 46 = .ok (.baload, 1) := by decide +kernel
theorem dA_pass_47 : decode cA_pass 47 = .ok (.ifCond .eq 22, 3) := by decide +kernel
theorem dA_pass_50 : decode cA_pass 50 = .ok (.aload_n 0, 1) := by decide +kernel
theorem dA_pass_51 : decode cA_pass 51 = .ok (.invokevirtual 208, 3) := by decide +kernel
theorem dA_pass_54 : decode cA_pass 54 = .ok (.aload_n 0, 1) := by decide +kernel
theorem dA_pass_55 : decode cA_pass 55 = .ok (.aload_n 0, 1) := by decide +kernel
theorem dA_pass_56 : decode cA_pass 56 = .ok (.getfield 57, 3) := by decide +kernel
theorem dA_pass_59 : decode cA_pass 59 = .ok (.iload_n 1, 1) := by decide +kernel
theorem dA_pass_60 : decode cA_pass 60 = .ok (.invokevirtual 146, 3) := by decide +kernel
theorem dA_pass_63 : decode cA_pass 63 = .ok (.putfield 78, 3) := by decide +kernel
theorem dA_pass_66 : decode cA_pass 66 = .ok (.goto 19, 3) := by decide +kernel
theorem dA_pass_69 : decode cA_pass 69 = .ok (.aload_n 0, 1) := by decide +kernel
theorem dA_pass_70 : decode cA_pass 70 = .ok (.getfield 74, 3) := by decide +kernel
theorem dA_pass_73 : decode cA_pass 73 = .ok (.iconst 1, 1) := by decide +kernel
theorem dA_pass_74 : decode cA_pass 74 = .ok (.if_icmp .ne 11, 3) := by decide +kernel
theorem dA_pass_77 : decode cA_pass 77 = .ok (.aload_n 0, 1) := by decide +kernel
theorem dA_pass_78 : decode cA_pass 78 = .ok (.invokevirtual 208, 3) := by decide +kernel
theorem dA_pass_81 : decode cA_pass 81 = .ok (.aload_n 0, 1) := by decide +kernel
theorem dA_pass_82 : decode cA_pass 82 = .ok (.invokevirtual 170, 3) := by decide +kernel
theorem dA_pass_85 : decode cA_pass 85 = .ok (.return_, 1) := by decide +kernel
theorem dA_completeWay_0 : decode cA_completeWay 0 = .ok (.aload_n 0, 1) := by decide +kernel
theorem dA_completeWay_1 : decode cA_completeWay 1 = .ok (.aload_n 0, 1) := by decide +kernel
theorem dA_completeWay_2 : decode cA_completeWay 2 = .ok (.getfield 78, 3) := by decide +kernel
theorem dA_completeWay_5 : decode cA_completeWay 5 = .ok (.invokevirtual 179, 3) := by decide +kernel
theorem dA_completeWay_8 : decode cA_completeWay 8 = .ok (.ifCond .eq 19, 3) := by decide +kernel
theorem dA_completeWay_11 : decode cA_completeWay 11 = .ok (.aload_n 0, 1) := by decide +kernel
theorem dA_completeWay_12 : decode cA_completeWay 12 = .ok (.getfield 66, 3) := by decide +kernel
theorem dA_completeWay_15 : decode cA_completeWay 15 = .ok (.getfield 182, 3) := by decide +kernel
theorem dA_completeWay_18 : decode cA_completeWay 18 = .ok (.aload_n 0, 1) := by decide +kernel
theorem dA_completeWay_19 : decode cA_completeWay 19 = .ok (.getfield 78, 3) := by decide +kernel
theorem dA_completeWay_22 : decode cA_completeWay 22 = .ok (.dup2, 1) := by decide +kernel
theorem dA_completeWay_23 : decode cA_completeWay 23 = .ok (.iaload, 1) := by decide +kernel
theorem dA_completeWay_24 : decode cA_completeWay 24 = .ok (.iconst 1, 1) := by decide +kernel
theorem dA_completeWay_25 : decode cA_completeWay 25 = .ok (.iadd, 1) := by decide +kernel
theorem dA_completeWay_26 : decode cA_completeWay 26 = .ok (.iastore, 1) := by decide +kernel
theorem dA_completeWay_27 : decode cA_completeWay 27 = .ok (.return_, 1) := by decide +kernel
theorem dA_endRun_0 : decode cA_endRun 0 = .ok (.aload_n 0, 1) := by decide +kernel
theorem dA_endRun_1 : decode cA_endRun 1 = .ok (.iconst (-1), 1) := by decide +kernel
theorem dA_endRun_2 : decode cA_endRun 2 = .ok (.putfield 74, 3) := by decide +kernel
theorem dA_endRun_5 : decode cA_endRun 5 = .ok (.aload_n 0, 1) := by decide +kernel
theorem dA_endRun_6 : decode cA_endRun 6 = .ok (.iconst 0, 1) := by decide +kernel
theorem dA_endRun_7 : decode cA_endRun 7 = .ok (.putfield 78, 3) := by decide +kernel
theorem dA_endRun_10 : decode cA_endRun 10 = .ok (.return_, 1) := by decide +kernel
theorem dA_bit_0 : decode cA_bit 0 = .ok (.iconst 1, 1) := by decide +kernel
theorem dA_bit_1 : decode cA_bit 1 = .ok (.iload_n 0, 1) := by decide +kernel
theorem dA_bit_2 : decode cA_bit 2 = .ok (.ishl, 1) := by decide +kernel
theorem dA_bit_3 : decode cA_bit 3 = .ok (.ireturn, 1) := by decide +kernel
theorem dA_isIn_0 : decode cA_isIn 0 = .ok (.iload_n 0, 1) := by decide +kernel
theorem dA_isIn_1 : decode cA_isIn 1 = .ok (.iload_n 1, 1) := by decide +kernel
theorem dA_isIn_2 : decode cA_isIn 2 = .ok (.ishr, 1) := by decide +kernel
theorem dA_isIn_3 : decode cA_isIn 3 = .ok (.iconst 1, 1) := by decide +kernel
theorem dA_isIn_4 : decode cA_isIn 4 = .ok (.iand, 1) := by decide +kernel
theorem dA_isIn_5 : decode cA_isIn 5 = .ok (.ifCond .eq 7, 3) := by decide +kernel
theorem dA_isIn_8 : decode cA_isIn 8 = .ok (.iconst 1, 1) := by decide +kernel
theorem dA_isIn_9 : decode cA_isIn 9 = .ok (.goto 4, 3) := by decide +kernel
theorem dA_isIn_12 : decode cA_isIn 12 = .ok (.iconst 0, 1) := by decide +kernel
theorem dA_isIn_13 : decode cA_isIn 13 = .ok (.ireturn, 1) := by decide +kernel
