/-! rows that decode, S -/
theorem dS_init_0 : decode cS_init 0 = .ok (.aload_n 0, 1) := by decide +kernel
theorem dS_init_1 : decode cS_init 1 = .ok (.invokespecial 3, 3) := by decide +kernel
theorem dS_init_4 : decode cS_init 4 = .ok (.aload_n 0, 1) := by decide +kernel
theorem dS_init_5 : decode cS_init 5 = .ok (.aload_n 1, 1) := by decide +kernel
theorem dS_init_6 : decode cS_init 6 = .ok (.putfield 9, 3) := by decide +kernel
theorem dS_init_9 : decode cS_init 9 = .ok (.aload_n 0, 1) := by decide +kernel
theorem dS_init_10 : decode cS_init 10 = .ok (.bipush 24, 2) := by decide +kernel
theorem dS_init_12 : decode cS_init 12 = .ok (.newarray .boolean, 2) := by decide +kernel
theorem dS_init_14 : decode cS_init 14 = .ok (.putfield 15, 3) := by decide +kernel
theorem dS_init_17 : decode cS_init 17 = .ok (.aload_n 0, 1) := by decide +kernel
theorem dS_init_18 : decode cS_init 18 = .ok (.bipush 12, 2) := by decide +kernel
theorem dS_init_20 : decode cS_init 20 = .ok (.newarray .int, 2) := by decide +kernel
theorem dS_init_22 : decode cS_init 22 = .ok (.putfield 19, 3) := by decide +kernel
theorem dS_init_25 : decode cS_init 25 = .ok (.aload_n 0, 1) := by decide +kernel
theorem dS_init_26 : decode cS_init 26 = .ok (.bipush 12, 2) := by decide +kernel
theorem dS_init_28 : decode cS_init 28 = .ok (.newarray .int, 2) := by decide +kernel
theorem dS_init_30 : decode cS_init 30 = .ok (.putfield 23, 3) := by decide +kernel
theorem dS_init_33 : decode cS_init 33 = .ok (.aload_n 0, 1) := by decide +kernel
theorem dS_init_34 : decode cS_init 34 = .ok (.bipush 12, 2) := by decide +kernel
theorem dS_init_36 : decode cS_init 36 = .ok (.newarray .int, 2) := by decide +kernel
theorem dS_init_38 : decode cS_init 38 = .ok (.putfield 26, 3) := by decide +kernel
theorem dS_init_41 : decode cS_init 41 = .ok (.aload_n 0, 1) := by decide +kernel
theorem dS_init_42 : decode cS_init 42 = .ok (.iconst 0, 1) := by decide +kernel
theorem dS_init_43 : decode cS_init 43 = .ok (.putfield 29, 3) := by decide +kernel
theorem dS_init_46 : decode cS_init 46 = .ok (.aload_n 0, 1) := by decide +kernel
theorem dS_init_47 : decode cS_init 47 = .ok (.iconst 0, 1) := by decide +kernel
theorem dS_init_48 : decode cS_init 48 = .ok (.putfield 33, 3) := by decide +kernel
theorem dS_init_51 : decode cS_init 51 = .ok (.aload_n 0, 1) := by decide +kernel
theorem dS_init_52 : decode cS_init 52 = .ok (.iconst 0, 1) := by decide +kernel
theorem dS_init_53 : decode cS_init 53 = .ok (.putfield 36, 3) := by decide +kernel
theorem dS_init_56 : decode cS_init 56 = .ok (.return_, 1) := by decide +kernel
theorem dS_metAll_0 : decode cS_metAll 0 = .ok (.aload_n 0, 1) := by decide +kernel
theorem dS_metAll_1 : decode cS_metAll 1 = .ok (.getfield 29, 3) := by decide +kernel
theorem dS_metAll_4 : decode cS_metAll 4 = .ok (.aload_n 0, 1) := by decide +kernel
theorem dS_metAll_5 : decode cS_metAll 5 = .ok (.getfield 9, 3) := by decide +kernel
theorem dS_metAll_8 : decode cS_metAll 8 = .ok (.invokevirtual 39, 3) := by decide +kernel
theorem dS_metAll_11 : decode cS_metAll 11 = .ok (.if_icmp .ne 7, 3) := by decide +kernel
theorem dS_metAll_14 : decode cS_metAll 14 = .ok (.iconst 1, 1) := by decide +kernel
theorem dS_metAll_15 : decode cS_metAll 15 = .ok (.goto 4, 3) := by decide +kernel
theorem dS_metAll_18 : decode cS_metAll 18 = .ok (.iconst 0, 1) := by decide +kernel
theorem dS_metAll_19 : decode cS_metAll 19 = .ok (.ireturn, 1) := by decide +kernel
theorem dS_explore_0 : decode cS_explore 0 = .ok (.aload_n 0, 1) := by decide +kernel
theorem dS_explore_1 : decode cS_explore 1 = .ok (.iconst 0, 1) := by decide +kernel
theorem dS_explore_2 : decode cS_explore 2 = .ok (.putfield 29, 3) := by decide +kernel
theorem dS_explore_5 : decode cS_explore 5 = .ok (.aload_n 0, 1) := by decide +kernel
theorem dS_explore_6 : decode cS_explore 6 = .ok (.iconst 0, 1) := by decide +kernel
theorem dS_explore_7 : decode cS_explore 7 = .ok (.putfield 33, 3) := by decide +kernel
theorem dS_explore_10 : decode cS_explore 10 = .ok (.aload_n 0, 1) := by decide +kernel
theorem dS_explore_11 : decode cS_explore 11 = .ok (.iconst 0, 1) := by decide +kernel
theorem dS_explore_12 : decode cS_explore 12 = .ok (.putfield 36, 3) := by decide +kernel
theorem dS_explore_15 : decode cS_explore 15 = .ok (.iconst 0, 1) := by decide +kernel
theorem dS_explore_16 : decode cS_explore 16 = .ok (.istore_n 1, 1) := by decide +kernel
theorem dS_explore_17 : decode cS_explore 17 = .ok (.aload_n 0, 1) := by decide +kernel
theorem dS_explore_18 : decode cS_explore 18 = .ok (.iconst 0, 1) := by decide +kernel
theorem dS_explore_19 : decode cS_explore 19 = .ok (.invokevirtual 45, 3) := by decide +kernel
theorem dS_explore_22 : decode cS_explore 22 = .ok (.aload_n 0, 1) := by decide +kernel
theorem dS_explore_23 : decode cS_explore 23 = .ok (.getfield 9, 3) := by decide +kernel
theorem dS_explore_26 : decode cS_explore 26 = .ok (.getfield 49, 3) := by decide +kernel
theorem dS_explore_29 : decode cS_explore 29 = .ok (.aload_n 0, 1) := by decide +kernel
theorem dS_explore_30 : decode cS_explore 30 = .ok (.getfield 9, 3) := by decide +kernel
theorem dS_explore_33 : decode cS_explore 33 = .ok (.getfield 52, 3) := by decide +kernel
theorem dS_explore_36 : decode cS_explore 36 = .ok (.iadd, 1) := by decide +kernel
theorem dS_explore_37 : decode cS_explore 37 = .ok (.istore_n 2, 1) := by decide +kernel
theorem dS_explore_38 : decode cS_explore 38 = .ok (.iconst 0, 1) := by decide +kernel
theorem dS_explore_39 : decode cS_explore 39 = .ok (.istore_n 3, 1) := by decide +kernel
theorem dS_explore_40 : decode cS_explore 40 = .ok (.iload_n 3, 1) := by decide +kernel
theorem dS_explore_41 : decode cS_explore 41 = .ok (.iload_n 2, 1) := by decide +kernel
theorem dS_explore_42 : decode cS_explore 42 = .ok (.if_icmp .ge 109, 3) := by decide +kernel
theorem dS_explore_45 : decode cS_explore 45 = .ok (.aload_n 0, 1) := by decide +kernel
theorem dS_explore_46 : decode cS_explore 46 = .ok (.getfield 36, 3) := by decide +kernel
theorem dS_explore_49 : decode cS_explore 49 = .ok (.ifCond .le 102, 3) := by decide +kernel
theorem dS_explore_52 : decode cS_explore 52 = .ok (.aload_n 0, 1) := by decide +kernel
theorem dS_explore_53 : decode cS_explore 53 = .ok (.getfield 23, 3) := by decide +kernel
theorem dS_explore_56 : decode cS_explore 56 = .ok (.aload_n 0, 1) := by decide +kernel
theorem dS_explore_57 : decode cS_explore 57 = .ok (.getfield 36, 3) := by decide +kernel
theorem dS_explore_60 : decode cS_explore 60 = .ok (.iconst 1, 1) := by decide +kernel
theorem dS_explore_61 : decode cS_explore 61 = .ok (.isub, 1) := by decide +kernel
theorem dS_explore_62 : decode cS_explore 62 = .ok (.iaload, 1) := by decide +kernel
theorem dS_explore_63 : decode cS_explore 63 = .ok (.istore 4, 2) := by decide +kernel
theorem dS_explore_65 : decode cS_explore 65 = .ok (.aload_n 0, 1) := by decide +kernel
theorem dS_explore_66 : decode cS_explore 66 = .ok (.getfield 9, 3) := by decide +kernel
theorem dS_explore_69 : decode cS_explore 69 = .ok (.iload 4, 2) := by decide +kernel
theorem dS_explore_71 : decode cS_explore 71 = .ok (.aload_n 0, 1) := by decide +kernel
theorem dS_explore_72 : decode cS_explore 72 = .ok (.getfield 26, 3) := by decide +kernel
theorem dS_explore_75 : decode cS_explore 75 = .ok (.iload 4, 2) := by decide +kernel
theorem dS_explore_77 : decode cS_explore 77 = .ok (.iaload, 1) := by decide +kernel
theorem dS_explore_78 : decode cS_explore 78 = .ok (.invokevirtual 55, 3) := by decide +kernel
theorem dS_explore_81 : decode cS_explore 81 = .ok (.istore 5, 2) := by decide +kernel
theorem dS_explore_83 : decode cS_explore 83 = .ok (.iload 5, 2) := by decide +kernel
theorem dS_explore_85 : decode cS_explore 85 = .ok (.ifCond .ge 43, 3) := by decide +kernel
theorem dS_explore_88 : decode cS_explore 88 = .ok (.aload_n 0, 1) := by decide +kernel
theorem dS_explore_89 : decode cS_explore 89 = .ok (.dup, 1) := by decide +kernel
theorem dS_explore_90 : decode cS_explore 90 = .ok (.getfield 36, 3) := by decide +kernel
theorem dS_explore_93 : decode cS_explore 93 = .ok (.iconst 1, 1) := by decide +kernel
theorem dS_explore_94 : decode cS_explore 94 = .ok (.isub, 1) := by decide +kernel
theorem dS_explore_95 : decode cS_explore 95 = .ok (.putfield 36, 3) := by decide +kernel
theorem dS_explore_98 : decode cS_explore 98 = .ok (.aload_n 0, 1) := by decide +kernel
theorem dS_explore_99 : decode cS_explore 99 = .ok (.dup, 1) := by decide +kernel
theorem dS_explore_100 : decode cS_explore 100 = .ok (.getfield 33, 3) := by decide +kernel
theorem dS_explore_103 : decode cS_explore 103 = .ok (.iload 4, 2) := by decide +kernel
theorem dS_explore_105 : decode cS_explore 105 = .ok (.invokestatic 59, 3) := by decide +kernel
theorem dS_explore_108 : decode cS_explore 108 = .ok (.iconst (-1), 1) := by decide +kernel
theorem dS_explore_109 : decode cS_explore 109 = .ok (.ixor, 1) := by decide +kernel
theorem dS_explore_110 : decode cS_explore 110 = .ok (.iand, 1) := by decide +kernel
theorem dS_explore_111 : decode cS_explore 111 = .ok (.putfield 33, 3) := by decide +kernel
theorem dS_explore_114 : decode cS_explore 114 = .ok (.aload_n 0, 1) := by decide +kernel
theorem dS_explore_115 : decode cS_explore 115 = .ok (.getfield 19, 3) := by decide +kernel
theorem dS_explore_118 : decode cS_explore 118 = .ok (.iload_n 1, 1) := by decide +kernel
theorem dS_explore_119 : decode cS_explore 119 = .ok (.iload 4, 2) := by decide +kernel
theorem dS_explore_121 : decode cS_explore 121 = .ok (.iastore, 1) := by decide +kernel
theorem dS_explore_122 : decode cS_explore 122 = .ok (.iinc 1 1, 3) := by decide +kernel
theorem dS_explore_125 : decode cS_explore 125 = .ok (.goto 20, 3) := by decide +kernel
theorem dS_explore_128 : decode cS_explore 128 = .ok (.aload_n 0, 1) := by decide +kernel
theorem dS_explore_129 : decode cS_explore 129 = .ok (.getfield 26, 3) := by decide +kernel
theorem dS_explore_132 : decode cS_explore 132 = .ok (.iload 4, 2) := by decide +kernel
theorem dS_explore_134 : decode cS_explore 134 = .ok (.iload 5, 2) := by decide +kernel
theorem dS_explore_136 : decode cS_explore 136 = .ok (.iconst 1, 1) := by decide +kernel
theorem dS_explore_137 : decode cS_explore 137 = .ok (.iadd, 1) := by decide +kernel
theorem dS_explore_138 : decode cS_explore 138 = .ok (.iastore, 1) := by decide +kernel
theorem dS_explore_139 : decode cS_explore 139 = .ok (.aload_n 0, 1) := by decide +kernel
theorem dS_explore_140 : decode cS_explore 140 = .ok (.iload 5, 2) := by decide +kernel
theorem dS_explore_142 : decode cS_explore 142 = .ok (.invokevirtual 63, 3) := by decide +kernel
theorem dS_explore_145 : decode cS_explore 145 = .ok (.iinc 3 1, 3) := by decide +kernel
theorem dS_explore_148 : decode cS_explore 148 = .ok (.goto (-108), 3) := by decide +kernel
theorem dS_explore_151 : decode cS_explore 151 = .ok (.return_, 1) := by decide +kernel
theorem dS_enter_0 : decode cS_enter 0 = .ok (.aload_n 0, 1) := by decide +kernel
theorem dS_enter_1 : decode cS_enter 1 = .ok (.dup, 1) := by decide +kernel
theorem dS_enter_2 : decode cS_enter 2 = .ok (.getfield 29, 3) := by decide +kernel
theorem dS_enter_5 : decode cS_enter 5 = .ok (.iload_n 1, 1) := by decide +kernel
theorem dS_enter_6 : decode cS_enter 6 = .ok (.invokestatic 59, 3) := by decide +kernel
theorem dS_enter_9 : decode cS_enter 9 = .ok (.ior, 1) := by decide +kernel
theorem dS_enter_10 : decode cS_enter 10 = .ok (.putfield 29, 3) := by decide +kernel
theorem dS_enter_13 : decode cS_enter 13 = .ok (.aload_n 0, 1) := by decide +kernel
theorem dS_enter_14 : decode cS_enter 14 = .ok (.dup, 1) := by decide +kernel
theorem dS_enter_15 : decode cS_enter 15 = .ok (.getfield 33, 3) := by decide +kernel
theorem dS_enter_18 : decode cS_enter 18 = .ok (.iload_n 1, 1) := by decide +kernel
theorem dS_enter_19 : decode cS_enter 19 = .ok (.invokestatic 59, 3) := by decide +kernel
theorem dS_enter_22 : decode cS_enter 22 = .ok (.ior, 1) := by decide +kernel
theorem dS_enter_23 : decode cS_enter 23 = .ok (.putfield 33, 3) := by decide +kernel
theorem dS_enter_26 : decode cS_enter 26 = .ok (.aload_n 0, 1) := by decide +kernel
theorem dS_enter_27 : decode cS_enter 27 = .ok (.getfield 26, 3) := by decide +kernel
theorem dS_enter_30 : decode cS_enter 30 = .ok (.iload_n 1, 1) := by decide +kernel
theorem dS_enter_31 : decode cS_enter 31 = .ok (.iconst 0, 1) := by decide +kernel
theorem dS_enter_32 : decode cS_enter 32 = .ok (.iastore, 1) := by decide +kernel
theorem dS_enter_33 : decode cS_enter 33 = .ok (.aload_n 0, 1) := by decide +kernel
theorem dS_enter_34 : decode cS_enter 34 = .ok (.getfield 23, 3) := by decide +kernel
theorem dS_enter_37 : decode cS_enter 37 = .ok (.aload_n 0, 1) := by decide +kernel
theorem dS_enter_38 : decode cS_enter 38 = .ok (.getfield 36, 3) := by decide +kernel
theorem dS_enter_41 : decode cS_enter 41 = .ok (.iload_n 1, 1) := by decide +kernel
theorem dS_enter_42 : decode cS_enter 42 = .ok (.iastore, 1) := by decide +kernel
theorem dS_enter_43 : decode cS_enter 43 = .ok (.aload_n 0, 1) := by decide +kernel
theorem dS_enter_44 : decode cS_enter 44 = .ok (.dup, 1) := by decide +kernel
theorem dS_enter_45 : decode cS_enter 45 = .ok (.getfield 36, 3) := by decide +kernel
theorem dS_enter_48 : decode cS_enter 48 = .ok (.iconst 1, 1) := by decide +kernel
theorem dS_enter_49 : decode cS_enter 49 = .ok (.iadd, 1) := by decide +kernel
theorem dS_enter_50 : decode cS_enter 50 = .ok (.putfield 36, 3) := by decide +kernel
theorem dS_enter_53 : decode cS_enter 53 = .ok (.return_, 1) := by decide +kernel
theorem dS_lookAt_0 : decode cS_lookAt 0 = .ok (.aload_n 0, 1) := by decide +kernel
theorem dS_lookAt_1 : decode cS_lookAt 1 = .ok (.getfield 9, 3) := by decide +kernel
theorem dS_lookAt_4 : decode cS_lookAt 4 = .ok (.getfield 66, 3) := by decide +kernel
theorem dS_lookAt_7 : decode cS_lookAt 7 = .ok (.iload_n 1, 1) := by decide +kernel
theorem dS_lookAt_8 : decode cS_lookAt 8 = .ok (.iaload, 1) := by decide +kernel
theorem dS_lookAt_9 : decode cS_lookAt 9 = .ok (.istore_n 2, 1) := by decide +kernel
theorem dS_lookAt_10 : decode cS_lookAt 10 = .ok (.aload_n 0, 1) := by decide +kernel
theorem dS_lookAt_11 : decode cS_lookAt 11 = .ok (.getfield 15, 3) := by decide +kernel
theorem dS_lookAt_14 : decode cS_lookAt 14 = .ok (.iload_n 1, 1) := by decide +kernel
theorem dS_lookAt_15 : decode cS_lookAt 15 = .ok (.aload_n 0, 1) := by decide +kernel
theorem dS_lookAt_16 : decode cS_lookAt 16 = .ok (.getfield 33, 3) := by decide +kernel
theorem dS_lookAt_19 : decode cS_lookAt 19 = .ok (.iload_n 2, 1) := by decide +kernel
theorem dS_lookAt_20 : decode cS_lookAt 20 = .ok (.invokestatic 69, 3) := by decide +kernel
theorem dS_lookAt_23 : decode cS_lookAt 23 = .ok (.bastore, 1) := by decide +kernel
theorem dS_lookAt_24 : decode cS_lookAt 24 = .ok (.aload_n 0, 1) := by decide +kernel
theorem dS_lookAt_25 : decode cS_lookAt 25 = .ok (.getfield 29, 3) := by decide +kernel
theorem dS_lookAt_28 : decode cS_lookAt 28 = .ok (.iload_n 2, 1) := by decide +kernel
theorem dS_lookAt_29 : decode cS_lookAt 29 = .ok (.invokestatic 69, 3) := by decide +kernel
theorem dS_lookAt_32 : decode cS_lookAt 32 = .ok (.ifCond .ne 8, 3) := by decide +kernel
theorem dS_lookAt_35 : decode cS_lookAt 35 = .ok (.aload_n 0, 1) := by decide +kernel
theorem dS_lookAt_36 : decode cS_lookAt 36 = .ok (.iload_n 2, 1) := by decide +kernel
theorem dS_lookAt_37 : decode cS_lookAt 37 = .ok (.invokevirtual 45, 3) := by decide +kernel
theorem dS_lookAt_40 : decode cS_lookAt 40 = .ok (.return_, 1) := by decide +kernel
