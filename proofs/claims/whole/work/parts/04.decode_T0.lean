/-! rows that decode, T -/
theorem dT_init_0 : decode cT_init 0 = .ok (.aload_n 0, 1) := by decide +kernel
theorem dT_init_1 : decode cT_init 1 = .ok (.invokespecial 3, 3) := by decide +kernel
theorem dT_init_4 : decode cT_init 4 = .ok (.aload_n 0, 1) := by decide +kernel
theorem dT_init_5 : decode cT_init 5 = .ok (.aload_n 1, 1) := by decide +kernel
theorem dT_init_6 : decode cT_init 6 = .ok (.putfield 9, 3) := by decide +kernel
theorem dT_init_9 : decode cT_init 9 = .ok (.aload_n 0, 1) := by decide +kernel
theorem dT_init_10 : decode cT_init 10 = .ok (.bipush 24, 2) := by decide +kernel
theorem dT_init_12 : decode cT_init 12 = .ok (.newarray .boolean, 2) := by decide +kernel
theorem dT_init_14 : decode cT_init 14 = .ok (.putfield 15, 3) := by decide +kernel
theorem dT_init_17 : decode cT_init 17 = .ok (.aload_n 0, 1) := by decide +kernel
theorem dT_init_18 : decode cT_init 18 = .ok (.bipush 12, 2) := by decide +kernel
theorem dT_init_20 : decode cT_init 20 = .ok (.newarray .int, 2) := by decide +kernel
theorem dT_init_22 : decode cT_init 22 = .ok (.putfield 19, 3) := by decide +kernel
theorem dT_init_25 : decode cT_init 25 = .ok (.return_, 1) := by decide +kernel
theorem dT_grow_0 : decode cT_grow 0 = .ok (.iconst 0, 1) := by decide +kernel
theorem dT_grow_1 : decode cT_grow 1 = .ok (.istore_n 3, 1) := by decide +kernel
theorem dT_grow_2 : decode cT_grow 2 = .ok (.iload_n 3, 1) := by decide +kernel
theorem dT_grow_3 : decode cT_grow 3 = .ok (.aload_n 0, 1) := by decide +kernel
theorem dT_grow_4 : decode cT_grow 4 = .ok (.getfield 9, 3) := by decide +kernel
theorem dT_grow_7 : decode cT_grow 7 = .ok (.getfield 23, 3) := by decide +kernel
theorem dT_grow_10 : decode cT_grow 10 = .ok (.if_icmp .ge 16, 3) := by decide +kernel
theorem dT_grow_13 : decode cT_grow 13 = .ok (.aload_n 0, 1) := by decide +kernel
theorem dT_grow_14 : decode cT_grow 14 = .ok (.getfield 19, 3) := by decide +kernel
theorem dT_grow_17 : decode cT_grow 17 = .ok (.iload_n 3, 1) := by decide +kernel
theorem dT_grow_18 : decode cT_grow 18 = .ok (.iload_n 3, 1) := by decide +kernel
theorem dT_grow_19 : decode cT_grow 19 = .ok (.iastore, 1) := by decide +kernel
theorem dT_grow_20 : decode cT_grow 20 = .ok (.iinc 3 1, 3) := by decide +kernel
theorem dT_grow_23 : decode cT_grow 23 = .ok (.goto (-21), 3) := by decide +kernel
theorem dT_grow_26 : decode cT_grow 26 = .ok (.aload_n 0, 1) := by decide +kernel
theorem dT_grow_27 : decode cT_grow 27 = .ok (.iconst 0, 1) := by decide +kernel
theorem dT_grow_28 : decode cT_grow 28 = .ok (.iconst 1, 1) := by decide +kernel
theorem dT_grow_29 : decode cT_grow 29 = .ok (.invokevirtual 29, 3) := by decide +kernel
theorem dT_grow_32 : decode cT_grow 32 = .ok (.pop, 1) := by decide +kernel
theorem dT_grow_33 : decode cT_grow 33 = .ok (.iconst 0, 1) := by decide +kernel
theorem dT_grow_34 : decode cT_grow 34 = .ok (.istore_n 3, 1) := by decide +kernel
theorem dT_grow_35 : decode cT_grow 35 = .ok (.iload_n 3, 1) := by decide +kernel
theorem dT_grow_36 : decode cT_grow 36 = .ok (.iload_n 2, 1) := by decide +kernel
theorem dT_grow_37 : decode cT_grow 37 = .ok (.if_icmp .ge 45, 3) := by decide +kernel
theorem dT_grow_40 : decode cT_grow 40 = .ok (.aload_n 1, 1) := by decide +kernel
theorem dT_grow_41 : decode cT_grow 41 = .ok (.iload_n 3, 1) := by decide +kernel
theorem dT_grow_42 : decode cT_grow 42 = .ok (.iaload, 1) := by decide +kernel
theorem dT_grow_43 : decode cT_grow 43 = .ok (.istore 4, 2) := by decide +kernel
theorem dT_grow_45 : decode cT_grow 45 = .ok (.aload_n 0, 1) := by decide +kernel
theorem dT_grow_46 : decode cT_grow 46 = .ok (.getfield 15, 3) := by decide +kernel
theorem dT_grow_49 : decode cT_grow 49 = .ok (.iload 4, 2) := by decide +kernel
theorem dT_grow_51 : decode cT_grow 51 = .ok (.aload_n 0, 1) := by decide +kernel
theorem dT_grow_52 : decode cT_grow 52 = .ok (.aload_n 0, 1) := by decide +kernel
theorem dT_grow_53 : decode cT_grow 53 = .ok (.getfield 9, 3) := by decide +kernel
theorem dT_grow_56 : decode cT_grow 56 = .ok (.getfield 33, 3) := by decide +kernel
theorem dT_grow_59 : decode cT_grow 59 = .ok (.iload 4, 2) := by decide +kernel
theorem dT_grow_61 : decode cT_grow 61 = .ok (.iaload, 1) := by decide +kernel
theorem dT_grow_62 : decode cT_grow 62 = .ok (.aload_n 0, 1) := by decide +kernel
theorem dT_grow_63 : decode cT_grow 63 = .ok (.getfield 9, 3) := by decide +kernel
theorem dT_grow_66 : decode cT_grow 66 = .ok (.getfield 36, 3) := by decide +kernel
theorem dT_grow_69 : decode cT_grow 69 = .ok (.iload 4, 2) := by decide +kernel
theorem dT_grow_71 : decode cT_grow 71 = .ok (.iaload, 1) := by decide +kernel
theorem dT_grow_72 : decode cT_grow 72 = .ok (.invokevirtual 29, 3) := by decide +kernel
theorem dT_grow_75 : decode cT_grow 75 = .ok (.bastore, 1) := by decide +kernel
theorem dT_grow_76 : decode cT_grow 76 = .ok (.iinc 3 1, 3) := by decide +kernel
theorem dT_grow_79 : decode cT_grow 79 = .ok (.goto (-44), 3) := by decide +kernel
theorem dT_grow_82 : decode cT_grow 82 = .ok (.return_, 1) := by decide +kernel
theorem dT_join_0 : decode cT_join 0 = .ok (.aload_n 0, 1) := by decide +kernel
theorem dT_join_1 : decode cT_join 1 = .ok (.getfield 19, 3) := by decide +kernel
theorem dT_join_4 : decode cT_join 4 = .ok (.iload_n 1, 1) := by decide +kernel
theorem dT_join_5 : decode cT_join 5 = .ok (.iaload, 1) := by decide +kernel
theorem dT_join_6 : decode cT_join 6 = .ok (.istore_n 3, 1) := by decide +kernel
theorem dT_join_7 : decode cT_join 7 = .ok (.aload_n 0, 1) := by decide +kernel
theorem dT_join_8 : decode cT_join 8 = .ok (.getfield 19, 3) := by decide +kernel
theorem dT_join_11 : decode cT_join 11 = .ok (.iload_n 2, 1) := by decide +kernel
theorem dT_join_12 : decode cT_join 12 = .ok (.iaload, 1) := by decide +kernel
theorem dT_join_13 : decode cT_join 13 = .ok (.istore 4, 2) := by decide +kernel
theorem dT_join_15 : decode cT_join 15 = .ok (.iconst 0, 1) := by decide +kernel
theorem dT_join_16 : decode cT_join 16 = .ok (.istore 5, 2) := by decide +kernel
theorem dT_join_18 : decode cT_join 18 = .ok (.iload 5, 2) := by decide +kernel
theorem dT_join_20 : decode cT_join 20 = .ok (.aload_n 0, 1) := by decide +kernel
theorem dT_join_21 : decode cT_join 21 = .ok (.getfield 9, 3) := by decide +kernel
theorem dT_join_24 : decode cT_join 24 = .ok (.getfield 23, 3) := by decide +kernel
theorem dT_join_27 : decode cT_join 27 = .ok (.if_icmp .ge 29, 3) := by decide +kernel
theorem dT_join_30 : decode cT_join 30 = .ok (.aload_n 0, 1) := by decide +kernel
theorem dT_join_31 : decode cT_join 31 = .ok (.getfield 19, 3) := by decide +kernel
theorem dT_join_34 : decode cT_join 34 = .ok (.iload 5, 2) := by decide +kernel
theorem dT_join_36 : decode cT_join 36 = .ok (.iaload, 1) := by decide +kernel
theorem dT_join_37 : decode cT_join 37 = .ok (.iload 4, 2) := by decide +kernel
theorem dT_join_39 : decode cT_join 39 = .ok (.if_icmp .ne 11, 3) := by decide +kernel
theorem dT_join_42 : decode cT_join 42 = .ok (.aload_n 0, 1) := by decide +kernel
theorem dT_join_43 : decode cT_join 43 = .ok (.getfield 19, 3) := by decide +kernel
theorem dT_join_46 : decode cT_join 46 = .ok (.iload 5, 2) := by decide +kernel
theorem dT_join_48 : decode cT_join 48 = .ok (.iload_n 3, 1) := by decide +kernel
theorem dT_join_49 : decode cT_join 49 = .ok (.iastore, 1) := by decide +kernel
theorem dT_join_50 : decode cT_join 50 = .ok (.iinc 5 1, 3) := by decide +kernel
theorem dT_join_53 : decode cT_join 53 = .ok (.goto (-35), 3) := by decide +kernel
theorem dT_join_56 : decode cT_join 56 = .ok (.iload_n 3, 1) := by decide +kernel
theorem dT_join_57 : decode cT_join 57 = .ok (.iload 4, 2) := by decide +kernel
theorem dT_join_59 : decode cT_join 59 = .ok (.if_icmp .eq 7, 3) := by decide +kernel
theorem dT_join_62 : decode cT_join 62 = .ok (.iconst 1, 1) := by decide +kernel
theorem dT_join_63 : decode cT_join 63 = .ok (.goto 4, 3) := by decide +kernel
theorem dT_join_66 : decode cT_join 66 = .ok (.iconst 0, 1) := by decide +kernel
theorem dT_join_67 : decode cT_join 67 = .ok (.ireturn, 1) := by decide +kernel
theorem dT_blocksBehind_0 : decode cT_blocksBehind 0 = .ok (.iconst 0, 1) := by decide +kernel
theorem dT_blocksBehind_1 : decode cT_blocksBehind 1 = .ok (.invokestatic 39, 3) := by decide +kernel
theorem dT_blocksBehind_4 : decode cT_blocksBehind 4 = .ok (.iconst 1, 1) := by decide +kernel
theorem dT_blocksBehind_5 : decode cT_blocksBehind 5 = .ok (.invokestatic 39, 3) := by decide +kernel
theorem dT_blocksBehind_8 : decode cT_blocksBehind 8 = .ok (.ior, 1) := by decide +kernel
theorem dT_blocksBehind_9 : decode cT_blocksBehind 9 = .ok (.istore_n 2, 1) := by decide +kernel
theorem dT_blocksBehind_10 : decode cT_blocksBehind 10 = .ok (.iconst 1, 1) := by decide +kernel
theorem dT_blocksBehind_11 : decode cT_blocksBehind 11 = .ok (.istore_n 3, 1) := by decide +kernel
theorem dT_blocksBehind_12 : decode cT_blocksBehind 12 = .ok (.iload_n 3, 1) := by decide +kernel
theorem dT_blocksBehind_13 : decode cT_blocksBehind 13 = .ok (.aload_n 0, 1) := by decide +kernel
theorem dT_blocksBehind_14 : decode cT_blocksBehind 14 = .ok (.getfield 9, 3) := by decide +kernel
theorem dT_blocksBehind_17 : decode cT_blocksBehind 17 = .ok (.getfield 23, 3) := by decide +kernel
theorem dT_blocksBehind_20 : decode cT_blocksBehind 20 = .ok (.if_icmp .ge 87, 3) := by decide +kernel
theorem dT_blocksBehind_23 : decode cT_blocksBehind 23 = .ok (.iconst 0, 1) := by decide +kernel
theorem dT_blocksBehind_24 : decode cT_blocksBehind 24 = .ok (.istore 4, 2) := by decide +kernel
theorem dT_blocksBehind_26 : decode cT_blocksBehind 26 = .ok (.iload 4, 2) := by decide +kernel
theorem dT_blocksBehind_28 : decode cT_blocksBehind 28 = .ok (.aload_n 0, 1) := by decide +kernel
theorem dT_blocksBehind_29 : decode cT_blocksBehind 29 = .ok (.getfield 9, 3) := by decide +kernel
theorem dT_blocksBehind_32 : decode cT_blocksBehind 32 = .ok (.getfield 43, 3) := by decide +kernel
theorem dT_blocksBehind_35 : decode cT_blocksBehind 35 = .ok (.if_icmp .ge 66, 3) := by decide +kernel
theorem dT_blocksBehind_38 : decode cT_blocksBehind 38 = .ok (.aload_n 0, 1) := by decide +kernel
theorem dT_blocksBehind_39 : decode cT_blocksBehind 39 = .ok (.getfield 9, 3) := by decide +kernel
theorem dT_blocksBehind_42 : decode cT_blocksBehind 42 = .ok (.getfield 33, 3) := by decide +kernel
theorem dT_blocksBehind_45 : decode cT_blocksBehind 45 = .ok (.iload 4, 2) := by decide +kernel
theorem dT_blocksBehind_47 : decode cT_blocksBehind 47 = .ok (.iaload, 1) := by decide +kernel
theorem dT_blocksBehind_48 : decode cT_blocksBehind 48 = .ok (.invokestatic 39, 3) := by decide +kernel
theorem dT_blocksBehind_51 : decode cT_blocksBehind 51 = .ok (.aload_n 0, 1) := by decide +kernel
theorem dT_blocksBehind_52 : decode cT_blocksBehind 52 = .ok (.getfield 9, 3) := by decide +kernel
theorem dT_blocksBehind_55 : decode cT_blocksBehind 55 = .ok (.getfield 36, 3) := by decide +kernel
theorem dT_blocksBehind_58 : decode cT_blocksBehind 58 = .ok (.iload 4, 2) := by decide +kernel
theorem dT_blocksBehind_60 : decode cT_blocksBehind 60 = .ok (.iaload, 1) := by decide +kernel
theorem dT_blocksBehind_61 : decode cT_blocksBehind 61 = .ok (.invokestatic 39, 3) := by decide +kernel
theorem dT_blocksBehind_64 : decode cT_blocksBehind 64 = .ok (.ior, 1) := by decide +kernel
theorem dT_blocksBehind_65 : decode cT_blocksBehind 65 = .ok (.istore 5, 2) := by decide +kernel
theorem dT_blocksBehind_67 : decode cT_blocksBehind 67 = .ok (.aload_n 0, 1) := by decide +kernel
theorem dT_blocksBehind_68 : decode cT_blocksBehind 68 = .ok (.getfield 15, 3) := by decide +kernel
theorem dT_blocksBehind_71 : decode cT_blocksBehind 71 = .ok (.iload 4, 2) := by decide +kernel
theorem dT_blocksBehind_73 : decode cT_blocksBehind 73 = .ok (.baload, 1) := by decide +kernel
theorem dT_blocksBehind_74 : decode cT_blocksBehind 74 = .ok (.ifCond .eq 21, 3) := by decide +kernel
theorem dT_blocksBehind_77 : decode cT_blocksBehind 77 = .ok (.iload 4, 2) := by decide +kernel
theorem dT_blocksBehind_79 : decode cT_blocksBehind 79 = .ok (.iload_n 1, 1) := by decide +kernel
theorem dT_blocksBehind_80 : decode cT_blocksBehind 80 = .ok (.if_icmp .eq 15, 3) := by decide +kernel
theorem dT_blocksBehind_83 : decode cT_blocksBehind 83 = .ok (.iload_n 2, 1) := by decide +kernel
theorem dT_blocksBehind_84 : decode cT_blocksBehind 84 = .ok (.iload 5, 2) := by decide +kernel
theorem dT_blocksBehind_86 : decode cT_blocksBehind 86 = .ok (.iand, 1) := by decide +kernel
theorem dT_blocksBehind_87 : decode cT_blocksBehind 87 = .ok (.ifCond .eq 8, 3) := by decide +kernel
theorem dT_blocksBehind_90 : decode cT_blocksBehind 90 = .ok (.iload_n 2, 1) := by decide +kernel
theorem dT_blocksBehind_91 : decode cT_blocksBehind 91 = .ok (.iload 5, 2) := by decide +kernel
theorem dT_blocksBehind_93 : decode cT_blocksBehind 93 = .ok (.ior, 1) := by decide +kernel
theorem dT_blocksBehind_94 : decode cT_blocksBehind 94 = .ok (.istore_n 2, 1) := by decide +kernel
theorem dT_blocksBehind_95 : decode cT_blocksBehind 95 = .ok (.iinc 4 1, 3) := by decide +kernel
theorem dT_blocksBehind_98 : decode cT_blocksBehind 98 = .ok (.goto (-72), 3) := by decide +kernel
theorem dT_blocksBehind_101 : decode cT_blocksBehind 101 = .ok (.iinc 3 1, 3) := by decide +kernel
theorem dT_blocksBehind_104 : decode cT_blocksBehind 104 = .ok (.goto (-92), 3) := by decide +kernel
theorem dT_blocksBehind_107 : decode cT_blocksBehind 107 = .ok (.aload_n 0, 1) := by decide +kernel
theorem dT_blocksBehind_108 : decode cT_blocksBehind 108 = .ok (.getfield 9, 3) := by decide +kernel
theorem dT_blocksBehind_111 : decode cT_blocksBehind 111 = .ok (.invokevirtual 46, 3) := by decide +kernel
theorem dT_blocksBehind_114 : decode cT_blocksBehind 114 = .ok (.iload_n 2, 1) := by decide +kernel
theorem dT_blocksBehind_115 : decode cT_blocksBehind 115 = .ok (.iconst (-1), 1) := by decide +kernel
theorem dT_blocksBehind_116 : decode cT_blocksBehind 116 = .ok (.ixor, 1) := by decide +kernel
theorem dT_blocksBehind_117 : decode cT_blocksBehind 117 = .ok (.iand, 1) := by decide +kernel
theorem dT_blocksBehind_118 : decode cT_blocksBehind 118 = .ok (.ireturn, 1) := by decide +kernel
