/-! rows that decode, G -/
theorem dG_init_0 : decode cG_init 0 = .ok (.aload_n 0, 1) := by decide +kernel
theorem dG_init_1 : decode cG_init 1 = .ok (.invokespecial 3, 3) := by decide +kernel
theorem dG_init_4 : decode cG_init 4 = .ok (.aload_n 0, 1) := by decide +kernel
theorem dG_init_5 : decode cG_init 5 = .ok (.iload_n 1, 1) := by decide +kernel
theorem dG_init_6 : decode cG_init 6 = .ok (.putfield 9, 3) := by decide +kernel
theorem dG_init_9 : decode cG_init 9 = .ok (.aload_n 0, 1) := by decide +kernel
theorem dG_init_10 : decode cG_init 10 = .ok (.bipush 24, 2) := by decide +kernel
theorem dG_init_12 : decode cG_init 12 = .ok (.newarray .int, 2) := by decide +kernel
theorem dG_init_14 : decode cG_init 14 = .ok (.putfield 15, 3) := by decide +kernel
theorem dG_init_17 : decode cG_init 17 = .ok (.aload_n 0, 1) := by decide +kernel
theorem dG_init_18 : decode cG_init 18 = .ok (.bipush 24, 2) := by decide +kernel
theorem dG_init_20 : decode cG_init 20 = .ok (.newarray .int, 2) := by decide +kernel
theorem dG_init_22 : decode cG_init 22 = .ok (.putfield 19, 3) := by decide +kernel
theorem dG_init_25 : decode cG_init 25 = .ok (.aload_n 0, 1) := by decide +kernel
theorem dG_init_26 : decode cG_init 26 = .ok (.iconst 0, 1) := by decide +kernel
theorem dG_init_27 : decode cG_init 27 = .ok (.putfield 22, 3) := by decide +kernel
theorem dG_init_30 : decode cG_init 30 = .ok (.return_, 1) := by decide +kernel
theorem dG_hasBlock_0 : decode cG_hasBlock 0 = .ok (.iload_n 1, 1) := by decide +kernel
theorem dG_hasBlock_1 : decode cG_hasBlock 1 = .ok (.ifCond .lt 15, 3) := by decide +kernel
theorem dG_hasBlock_4 : decode cG_hasBlock 4 = .ok (.iload_n 1, 1) := by decide +kernel
theorem dG_hasBlock_5 : decode cG_hasBlock 5 = .ok (.aload_n 0, 1) := by decide +kernel
theorem dG_hasBlock_6 : decode cG_hasBlock 6 = .ok (.getfield 9, 3) := by decide +kernel
theorem dG_hasBlock_9 : decode cG_hasBlock 9 = .ok (.if_icmp .ge 7, 3) := by decide +kernel
theorem dG_hasBlock_12 : decode cG_hasBlock 12 = .ok (.iconst 1, 1) := by decide +kernel
theorem dG_hasBlock_13 : decode cG_hasBlock 13 = .ok (.goto 4, 3) := by decide +kernel
theorem dG_hasBlock_16 : decode cG_hasBlock 16 = .ok (.iconst 0, 1) := by decide +kernel
theorem dG_hasBlock_17 : decode cG_hasBlock 17 = .ok (.ireturn, 1) := by decide +kernel
theorem dG_hasEdge_0 : decode cG_hasEdge 0 = .ok (.iload_n 1, 1) := by decide +kernel
theorem dG_hasEdge_1 : decode cG_hasEdge 1 = .ok (.ifCond .lt 15, 3) := by decide +kernel
theorem dG_hasEdge_4 : decode cG_hasEdge 4 = .ok (.iload_n 1, 1) := by decide +kernel
theorem dG_hasEdge_5 : decode cG_hasEdge 5 = .ok (.aload_n 0, 1) := by decide +kernel
theorem dG_hasEdge_6 : decode cG_hasEdge 6 = .ok (.getfield 22, 3) := by decide +kernel
theorem dG_hasEdge_9 : decode cG_hasEdge 9 = .ok (.if_icmp .ge 7, 3) := by decide +kernel
theorem dG_hasEdge_12 : decode cG_hasEdge 12 = .ok (.iconst 1, 1) := by decide +kernel
theorem dG_hasEdge_13 : decode cG_hasEdge 13 = .ok (.goto 4, 3) := by decide +kernel
theorem dG_hasEdge_16 : decode cG_hasEdge 16 = .ok (.iconst 0, 1) := by decide +kernel
theorem dG_hasEdge_17 : decode cG_hasEdge 17 = .ok (.ireturn, 1) := by decide +kernel
theorem dG_add_0 : decode cG_add 0 = .ok (.aload_n 0, 1) := by decide +kernel
theorem dG_add_1 : decode cG_add 1 = .ok (.getfield 15, 3) := by decide +kernel
theorem dG_add_4 : decode cG_add 4 = .ok (.aload_n 0, 1) := by decide +kernel
theorem dG_add_5 : decode cG_add 5 = .ok (.getfield 22, 3) := by decide +kernel
theorem dG_add_8 : decode cG_add 8 = .ok (.iload_n 1, 1) := by decide +kernel
theorem dG_add_9 : decode cG_add 9 = .ok (.iastore, 1) := by decide +kernel
theorem dG_add_10 : decode cG_add 10 = .ok (.aload_n 0, 1) := by decide +kernel
theorem dG_add_11 : decode cG_add 11 = .ok (.getfield 19, 3) := by decide +kernel
theorem dG_add_14 : decode cG_add 14 = .ok (.aload_n 0, 1) := by decide +kernel
theorem dG_add_15 : decode cG_add 15 = .ok (.getfield 22, 3) := by decide +kernel
theorem dG_add_18 : decode cG_add 18 = .ok (.iload_n 2, 1) := by decide +kernel
theorem dG_add_19 : decode cG_add 19 = .ok (.iastore, 1) := by decide +kernel
theorem dG_add_20 : decode cG_add 20 = .ok (.aload_n 0, 1) := by decide +kernel
theorem dG_add_21 : decode cG_add 21 = .ok (.dup, 1) := by decide +kernel
theorem dG_add_22 : decode cG_add 22 = .ok (.getfield 22, 3) := by decide +kernel
theorem dG_add_25 : decode cG_add 25 = .ok (.iconst 1, 1) := by decide +kernel
theorem dG_add_26 : decode cG_add 26 = .ok (.iadd, 1) := by decide +kernel
theorem dG_add_27 : decode cG_add 27 = .ok (.putfield 22, 3) := by decide +kernel
theorem dG_add_30 : decode cG_add 30 = .ok (.aload_n 0, 1) := by decide +kernel
theorem dG_add_31 : decode cG_add 31 = .ok (.getfield 22, 3) := by decide +kernel
theorem dG_add_34 : decode cG_add 34 = .ok (.iconst 1, 1) := by decide +kernel
theorem dG_add_35 : decode cG_add 35 = .ok (.isub, 1) := by decide +kernel
theorem dG_add_36 : decode cG_add 36 = .ok (.ireturn, 1) := by decide +kernel
theorem dG_nextFrom_0 : decode cG_nextFrom 0 = .ok (.iload_n 2, 1) := by decide +kernel
theorem dG_nextFrom_1 : decode cG_nextFrom 1 = .ok (.istore_n 3, 1) := by decide +kernel
theorem dG_nextFrom_2 : decode cG_nextFrom 2 = .ok (.iload_n 3, 1) := by decide +kernel
theorem dG_nextFrom_3 : decode cG_nextFrom 3 = .ok (.aload_n 0, 1) := by decide +kernel
theorem dG_nextFrom_4 : decode cG_nextFrom 4 = .ok (.getfield 22, 3) := by decide +kernel
theorem dG_nextFrom_7 : decode cG_nextFrom 7 = .ok (.if_icmp .ge 21, 3) := by decide +kernel
theorem dG_nextFrom_10 : decode cG_nextFrom 10 = .ok (.aload_n 0, 1) := by decide +kernel
theorem dG_nextFrom_11 : decode cG_nextFrom 11 = .ok (.getfield 15, 3) := by decide +kernel
theorem dG_nextFrom_14 : decode cG_nextFrom 14 = .ok (.iload_n 3, 1) := by decide +kernel
theorem dG_nextFrom_15 : decode cG_nextFrom 15 = .ok (.iaload, 1) := by decide +kernel
theorem dG_nextFrom_16 : decode cG_nextFrom 16 = .ok (.iload_n 1, 1) := by decide +kernel
theorem dG_nextFrom_17 : decode cG_nextFrom 17 = .ok (.if_icmp .ne 5, 3) := by decide +kernel
theorem dG_nextFrom_20 : decode cG_nextFrom 20 = .ok (.iload_n 3, 1) := by decide +kernel
theorem dG_nextFrom_21 : decode cG_nextFrom 21 = .ok (.ireturn, 1) := by decide +kernel
theorem dG_nextFrom_22 : decode cG_nextFrom 22 = .ok (.iinc 3 1, 3) := by decide +kernel
theorem dG_nextFrom_25 : decode cG_nextFrom 25 = .ok (.goto (-23), 3) := by decide +kernel
theorem dG_nextFrom_28 : decode cG_nextFrom 28 = .ok (.iconst (-1), 1) := by decide +kernel
theorem dG_nextFrom_29 : decode cG_nextFrom 29 = .ok (.ireturn, 1) := by decide +kernel
theorem dG_pickFrom_0 : decode cG_pickFrom 0 = .ok (.iconst 0, 1) := by decide +kernel
theorem dG_pickFrom_1 : decode cG_pickFrom 1 = .ok (.istore_n 3, 1) := by decide +kernel
theorem dG_pickFrom_2 : decode cG_pickFrom 2 = .ok (.iconst 0, 1) := by decide +kernel
theorem dG_pickFrom_3 : decode cG_pickFrom 3 = .ok (.istore 4, 2) := by decide +kernel
theorem dG_pickFrom_5 : decode cG_pickFrom 5 = .ok (.iload 4, 2) := by decide +kernel
theorem dG_pickFrom_7 : decode cG_pickFrom 7 = .ok (.aload_n 0, 1) := by decide +kernel
theorem dG_pickFrom_8 : decode cG_pickFrom 8 = .ok (.getfield 22, 3) := by decide +kernel
theorem dG_pickFrom_11 : decode cG_pickFrom 11 = .ok (.if_icmp .ge 23, 3) := by decide +kernel
theorem dG_pickFrom_14 : decode cG_pickFrom 14 = .ok (.aload_n 0, 1) := by decide +kernel
theorem dG_pickFrom_15 : decode cG_pickFrom 15 = .ok (.getfield 15, 3) := by decide +kernel
theorem dG_pickFrom_18 : decode cG_pickFrom 18 = .ok (.iload 4, 2) := by decide +kernel
theorem dG_pickFrom_20 : decode cG_pickFrom 20 = .ok (.iaload, 1) := by decide +kernel
theorem dG_pickFrom_21 : decode cG_pickFrom 21 = .ok (.iload_n 1, 1) := by decide +kernel
theorem dG_pickFrom_22 : decode cG_pickFrom 22 = .ok (.if_icmp .ne 6, 3) := by decide +kernel
theorem dG_pickFrom_25 : decode cG_pickFrom 25 = .ok (.iinc 3 1, 3) := by decide +kernel
theorem dG_pickFrom_28 : decode cG_pickFrom 28 = .ok (.iinc 4 1, 3) := by decide +kernel
theorem dG_pickFrom_31 : decode cG_pickFrom 31 = .ok (.goto (-26), 3) := by decide +kernel
theorem dG_pickFrom_34 : decode cG_pickFrom 34 = .ok (.iload_n 3, 1) := by decide +kernel
theorem dG_pickFrom_35 : decode cG_pickFrom 35 = .ok (.ifCond .ne 5, 3) := by decide +kernel
theorem dG_pickFrom_38 : decode cG_pickFrom 38 = .ok (.iconst (-1), 1) := by decide +kernel
theorem dG_pickFrom_39 : decode cG_pickFrom 39 = .ok (.ireturn, 1) := by decide +kernel
theorem dG_pickFrom_40 : decode cG_pickFrom 40 = .ok (.aload_n 0, 1) := by decide +kernel
theorem dG_pickFrom_41 : decode cG_pickFrom 41 = .ok (.iload_n 1, 1) := by decide +kernel
theorem dG_pickFrom_42 : decode cG_pickFrom 42 = .ok (.iconst 0, 1) := by decide +kernel
theorem dG_pickFrom_43 : decode cG_pickFrom 43 = .ok (.invokevirtual 25, 3) := by decide +kernel
theorem dG_pickFrom_46 : decode cG_pickFrom 46 = .ok (.istore 4, 2) := by decide +kernel
theorem dG_pickFrom_48 : decode cG_pickFrom 48 = .ok (.iload_n 2, 1) := by decide +kernel
theorem dG_pickFrom_49 : decode cG_pickFrom 49 = .ok (.iload_n 3, 1) := by decide +kernel
theorem dG_pickFrom_50 : decode cG_pickFrom 50 = .ok (.irem, 1) := by decide +kernel
theorem dG_pickFrom_51 : decode cG_pickFrom 51 = .ok (.istore 5, 2) := by decide +kernel
theorem dG_pickFrom_53 : decode cG_pickFrom 53 = .ok (.iload 5, 2) := by decide +kernel
theorem dG_pickFrom_55 : decode cG_pickFrom 55 = .ok (.ifCond .le 20, 3) := by decide +kernel
theorem dG_pickFrom_58 : decode cG_pickFrom 58 = .ok (.aload_n 0, 1) := by decide +kernel
theorem dG_pickFrom_59 : decode cG_pickFrom 59 = .ok (.iload_n 1, 1) := by decide +kernel
theorem dG_pickFrom_60 : decode cG_pickFrom 60 = .ok (.iload 4, 2) := by decide +kernel
theorem dG_pickFrom_62 : decode cG_pickFrom 62 = .ok (.iconst 1, 1) := by decide +kernel
theorem dG_pickFrom_63 : decode cG_pickFrom 63 = .ok (.iadd, 1) := by decide +kernel
theorem dG_pickFrom_64 : decode cG_pickFrom 64 = .ok (.invokevirtual 25, 3) := by decide +kernel
theorem dG_pickFrom_67 : decode cG_pickFrom 67 = .ok (.istore 4, 2) := by decide +kernel
theorem dG_pickFrom_69 : decode cG_pickFrom 69 = .ok (.iinc 5 (-1), 3) := by decide +kernel
theorem dG_pickFrom_72 : decode cG_pickFrom 72 = .ok (.goto (-19), 3) := by decide +kernel
theorem dG_pickFrom_75 : decode cG_pickFrom 75 = .ok (.iload 4, 2) := by decide +kernel
theorem dG_pickFrom_77 : decode cG_pickFrom 77 = .ok (.ireturn, 1) := by decide +kernel
theorem dG_allReachExit_0 : decode cG_allReachExit 0 = .ok (.aload_n 0, 1) := by decide +kernel
theorem dG_allReachExit_1 : decode cG_allReachExit 1 = .ok (.iconst 1, 1) := by decide +kernel
theorem dG_allReachExit_2 : decode cG_allReachExit 2 = .ok (.iconst (-1), 1) := by decide +kernel
theorem dG_allReachExit_3 : decode cG_allReachExit 3 = .ok (.invokevirtual 29, 3) := by decide +kernel
theorem dG_allReachExit_6 : decode cG_allReachExit 6 = .ok (.aload_n 0, 1) := by decide +kernel
theorem dG_allReachExit_7 : decode cG_allReachExit 7 = .ok (.invokevirtual 32, 3) := by decide +kernel
theorem dG_allReachExit_10 : decode cG_allReachExit 10 = .ok (.if_icmp .ne 7, 3) := by decide +kernel
theorem dG_allReachExit_13 : decode cG_allReachExit 13 = .ok (.iconst 1, 1) := by decide +kernel
theorem dG_allReachExit_14 : decode cG_allReachExit 14 = .ok (.goto 4, 3) := by decide +kernel
theorem dG_allReachExit_17 : decode cG_allReachExit 17 = .ok (.iconst 0, 1) := by decide +kernel
theorem dG_allReachExit_18 : decode cG_allReachExit 18 = .ok (.ireturn, 1) := by decide +kernel
theorem dG_allBlocks_0 : decode cG_allBlocks 0 = .ok (.aload_n 0, 1) := by decide +kernel
theorem dG_allBlocks_1 : decode cG_allBlocks 1 = .ok (.getfield 9, 3) := by decide +kernel
theorem dG_allBlocks_4 : decode cG_allBlocks 4 = .ok (.invokestatic 36, 3) := by decide +kernel
theorem dG_allBlocks_7 : decode cG_allBlocks 7 = .ok (.iconst 1, 1) := by decide +kernel
theorem dG_allBlocks_8 : decode cG_allBlocks 8 = .ok (.isub, 1) := by decide +kernel
theorem dG_allBlocks_9 : decode cG_allBlocks 9 = .ok (.ireturn, 1) := by decide +kernel
theorem dG_blocksReaching_0 : decode cG_blocksReaching 0 = .ok (.iload_n 1, 1) := by decide +kernel
theorem dG_blocksReaching_1 : decode cG_blocksReaching 1 = .ok (.iload_n 2, 1) := by decide +kernel
theorem dG_blocksReaching_2 : decode cG_blocksReaching 2 = .ok (.if_icmp .ne 7, 3) := by decide +kernel
theorem dG_blocksReaching_5 : decode cG_blocksReaching 5 = .ok (.iconst 0, 1) := by decide +kernel
theorem dG_blocksReaching_6 : decode cG_blocksReaching 6 = .ok (.goto 7, 3) := by decide +kernel
theorem dG_blocksReaching_9 : decode cG_blocksReaching 9 = .ok (.iload_n 1, 1) := by decide +kernel
theorem dG_blocksReaching_10 : decode cG_blocksReaching 10 = .ok (.invokestatic 36, 3) := by decide +kernel
theorem dG_blocksReaching_13 : decode cG_blocksReaching 13 = .ok (.istore_n 3, 1) := by decide +kernel
theorem dG_blocksReaching_14 : decode cG_blocksReaching 14 = .ok (.iconst 1, 1) := by decide +kernel
theorem dG_blocksReaching_15 : decode cG_blocksReaching 15 = .ok (.istore 4, 2) := by decide +kernel
theorem dG_blocksReaching_17 : decode cG_blocksReaching 17 = .ok (.iload 4, 2) := by decide +kernel
theorem dG_blocksReaching_19 : decode cG_blocksReaching 19 = .ok (.aload_n 0, 1) := by decide +kernel
theorem dG_blocksReaching_20 : decode cG_blocksReaching 20 = .ok (.getfield 9, 3) := by decide +kernel
theorem dG_blocksReaching_23 : decode cG_blocksReaching 23 = .ok (.if_icmp .ge 65, 3) := by decide +kernel
theorem dG_blocksReaching_26 : decode cG_blocksReaching 26 = .ok (.iconst 0, 1) := by decide +kernel
theorem dG_blocksReaching_27 : decode cG_blocksReaching 27 = .ok (.istore 5, 2) := by decide +kernel
theorem dG_blocksReaching_29 : decode cG_blocksReaching 29 = .ok (.iload 5, 2) := by decide +kernel
theorem dG_blocksReaching_31 : decode cG_blocksReaching 31 = .ok (.aload_n 0, 1) := by decide +kernel
theorem dG_blocksReaching_32 : decode cG_blocksReaching 32 = .ok (.getfield 22, 3) := by decide +kernel
theorem dG_blocksReaching_35 : decode cG_blocksReaching 35 = .ok (.if_icmp .ge 47, 3) := by decide +kernel
theorem dG_blocksReaching_38 : decode cG_blocksReaching 38 = .ok (.iload_n 3, 1) := by decide +kernel
theorem dG_blocksReaching_39 : decode cG_blocksReaching 39 = .ok (.aload_n 0, 1) := by decide +kernel
theorem dG_blocksReaching_40 : decode cG_blocksReaching 40 = .ok (.getfield 19, 3) := by decide +kernel
theorem dG_blocksReaching_43 : decode cG_blocksReaching 43 = .ok (.iload 5, 2) := by decide +kernel
theorem dG_blocksReaching_45 : decode cG_blocksReaching 45 = .ok (.iaload, 1) := by decide +kernel
theorem dG_blocksReaching_46 : decode cG_blocksReaching 46 = .ok (.invokestatic 40, 3) := by decide +kernel
theorem dG_blocksReaching_49 : decode cG_blocksReaching 49 = .ok (.ifCond .eq 27, 3) := by decide +kernel
theorem dG_blocksReaching_52 : decode cG_blocksReaching 52 = .ok (.aload_n 0, 1) := by decide +kernel
theorem dG_blocksReaching_53 : decode cG_blocksReaching 53 = .ok (.getfield 15, 3) := by decide +kernel
theorem dG_blocksReaching_56 : decode cG_blocksReaching 56 = .ok (.iload 5, 2) := by decide +kernel
theorem dG_blocksReaching_58 : decode cG_blocksReaching 58 = .ok (.iaload, 1) := by decide +kernel
theorem dG_blocksReaching_59 : decode cG_blocksReaching 59 = .ok (.iload_n 2, 1) := by decide +kernel
theorem dG_blocksReaching_60 : decode cG_blocksReaching 60 = .ok (.if_icmp .eq 16, 3) := by decide +kernel
theorem dG_blocksReaching_63 : decode cG_blocksReaching 63 = .ok (.iload_n 3, 1) := by decide +kernel
theorem dG_blocksReaching_64 : decode cG_blocksReaching 64 = .ok (.aload_n 0, 1) := by decide +kernel
theorem dG_blocksReaching_65 : decode cG_blocksReaching 65 = .ok (.getfield 15, 3) := by decide +kernel
theorem dG_blocksReaching_68 : decode cG_blocksReaching 68 = .ok (.iload 5, 2) := by decide +kernel
theorem dG_blocksReaching_70 : decode cG_blocksReaching 70 = .ok (.iaload, 1) := by decide +kernel
theorem dG_blocksReaching_71 : decode cG_blocksReaching 71 = .ok (.invokestatic 36, 3) := by decide +kernel
theorem dG_blocksReaching_74 : decode cG_blocksReaching 74 = .ok (.ior, 1) := by decide +kernel
theorem dG_blocksReaching_75 : decode cG_blocksReaching 75 = .ok (.istore_n 3, 1) := by decide +kernel
theorem dG_blocksReaching_76 : decode cG_blocksReaching 76 = .ok (.iinc 5 1, 3) := by decide +kernel
theorem dG_blocksReaching_79 : decode cG_blocksReaching 79 = .ok (.goto (-50), 3) := by decide +kernel
theorem dG_blocksReaching_82 : decode cG_blocksReaching 82 = .ok (.iinc 4 1, 3) := by decide +kernel
theorem dG_blocksReaching_85 : decode cG_blocksReaching 85 = .ok (.goto (-68), 3) := by decide +kernel
theorem dG_blocksReaching_88 : decode cG_blocksReaching 88 = .ok (.iload_n 3, 1) := by decide +kernel
theorem dG_blocksReaching_89 : decode cG_blocksReaching 89 = .ok (.ireturn, 1) := by decide +kernel
