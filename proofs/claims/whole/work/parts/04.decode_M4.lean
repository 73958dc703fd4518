/-! rows that decode, M -/
theorem dM_along_34 : decode cM_along 34 = .ok (.iaload, 1) := by decide +kernel
theorem dM_along_35 : decode cM_along 35 = .ok (.istore_n 3, 1) := by decide +kernel
theorem dM_along_36 : decode cM_along 36 = .ok (.iload_n 2, 1) := by decide +kernel
theorem dM_along_37 : decode cM_along 37 = .ok (.ifCond .ne 18, 3) := by decide +kernel
theorem dM_along_40 : decode cM_along 40 = .ok (.iload_n 3, 1) := by decide +kernel
theorem dM_along_41 : decode cM_along 41 = .ok (.bipush 24, 2) := by decide +kernel
theorem dM_along_43 : decode cM_along 43 = .ok (.if_icmp .lt 10, 3) := by decide +kernel
theorem dM_along_46 : decode cM_along 46 = .ok (.iload_n 3, 1) := by decide +kernel
theorem dM_along_47 : decode cM_along 47 = .ok (.bipush 24, 2) := by decide +kernel
theorem dM_along_49 : decode cM_along 49 = .ok (.isub, 1) := by decide +kernel
theorem dM_along_50 : decode cM_along 50 = .ok (.goto 4, 3) := by decide +kernel
theorem dM_along_53 : decode cM_along 53 = .ok (.iconst (-1), 1) := by decide +kernel
theorem dM_along_54 : decode cM_along 54 = .ok (.ireturn, 1) := by decide +kernel
theorem dM_along_55 : decode cM_along 55 = .ok (.iload_n 3, 1) := by decide +kernel
theorem dM_along_56 : decode cM_along 56 = .ok (.bipush 24, 2) := by decide +kernel
theorem dM_along_58 : decode cM_along 58 = .ok (.if_icmp .lt 7, 3) := by decide +kernel
theorem dM_along_61 : decode cM_along 61 = .ok (.iload_n 2, 1) := by decide +kernel
theorem dM_along_62 : decode cM_along 62 = .ok (.goto 6, 3) := by decide +kernel
theorem dM_along_65 : decode cM_along 65 = .ok (.iload_n 2, 1) := by decide +kernel
theorem dM_along_66 : decode cM_along 66 = .ok (.iconst 1, 1) := by decide +kernel
theorem dM_along_67 : decode cM_along 67 = .ok (.isub, 1) := by decide +kernel
theorem dM_along_68 : decode cM_along 68 = .ok (.istore 4, 2) := by decide +kernel
theorem dM_along_70 : decode cM_along 70 = .ok (.iload 4, 2) := by decide +kernel
theorem dM_along_72 : decode cM_along 72 = .ok (.aload_n 0, 1) := by decide +kernel
theorem dM_along_73 : decode cM_along 73 = .ok (.getfield 68, 3) := by decide +kernel
theorem dM_along_76 : decode cM_along 76 = .ok (.iload_n 1, 1) := by decide +kernel
theorem dM_along_77 : decode cM_along 77 = .ok (.iaload, 1) := by decide +kernel
theorem dM_along_78 : decode cM_along 78 = .ok (.if_icmp .ge 18, 3) := by decide +kernel
theorem dM_along_81 : decode cM_along 81 = .ok (.aload_n 0, 1) := by decide +kernel
theorem dM_along_82 : decode cM_along 82 = .ok (.getfield 71, 3) := by decide +kernel
theorem dM_along_85 : decode cM_along 85 = .ok (.bipush 16, 2) := by decide +kernel
theorem dM_along_87 : decode cM_along 87 = .ok (.iload_n 1, 1) := by decide +kernel
theorem dM_along_88 : decode cM_along 88 = .ok (.imul, 1) := by decide +kernel
theorem dM_along_89 : decode cM_along 89 = .ok (.iload 4, 2) := by decide +kernel
theorem dM_along_91 : decode cM_along 91 = .ok (.iadd, 1) := by decide +kernel
theorem dM_along_92 : decode cM_along 92 = .ok (.iaload, 1) := by decide +kernel
theorem dM_along_93 : decode cM_along 93 = .ok (.goto 5, 3) := by decide +kernel
theorem dM_along_96 : decode cM_along 96 = .ok (.ldc 181, 2) := by decide +kernel
theorem dM_along_98 : decode cM_along 98 = .ok (.ireturn, 1) := by decide +kernel
theorem dM_stopped_0 : decode cM_stopped 0 = .ok (.aload_n 0, 1) := by decide +kernel
theorem dM_stopped_1 : decode cM_stopped 1 = .ok (.getfield 96, 3) := by decide +kernel
theorem dM_stopped_4 : decode cM_stopped 4 = .ok (.ifCond .eq 20, 3) := by decide +kernel
theorem dM_stopped_7 : decode cM_stopped 7 = .ok (.aload_n 0, 1) := by decide +kernel
theorem dM_stopped_8 : decode cM_stopped 8 = .ok (.iload_n 1, 1) := by decide +kernel
theorem dM_stopped_9 : decode cM_stopped 9 = .ok (.invokevirtual 103, 3) := by decide +kernel
theorem dM_stopped_12 : decode cM_stopped 12 = .ok (.ifCond .eq 12, 3) := by decide +kernel
theorem dM_stopped_15 : decode cM_stopped 15 = .ok (.aload_n 0, 1) := by decide +kernel
theorem dM_stopped_16 : decode cM_stopped 16 = .ok (.getfield 89, 3) := by decide +kernel
theorem dM_stopped_19 : decode cM_stopped 19 = .ok (.iload_n 1, 1) := by decide +kernel
theorem dM_stopped_20 : decode cM_stopped 20 = .ok (.iaload, 1) := by decide +kernel
theorem dM_stopped_21 : decode cM_stopped 21 = .ok (.goto 4, 3) := by decide +kernel
theorem dM_stopped_24 : decode cM_stopped 24 = .ok (.iconst (-1), 1) := by decide +kernel
theorem dM_stopped_25 : decode cM_stopped 25 = .ok (.ireturn, 1) := by decide +kernel
theorem dM_covered_0 : decode cM_covered 0 = .ok (.aload_n 0, 1) := by decide +kernel
theorem dM_covered_1 : decode cM_covered 1 = .ok (.getfield 96, 3) := by decide +kernel
theorem dM_covered_4 : decode cM_covered 4 = .ok (.ifCond .eq 12, 3) := by decide +kernel
theorem dM_covered_7 : decode cM_covered 7 = .ok (.iload_n 1, 1) := by decide +kernel
theorem dM_covered_8 : decode cM_covered 8 = .ok (.ifCond .lt 8, 3) := by decide +kernel
theorem dM_covered_11 : decode cM_covered 11 = .ok (.iload_n 1, 1) := by decide +kernel
theorem dM_covered_12 : decode cM_covered 12 = .ok (.iconst 4, 1) := by decide +kernel
theorem dM_covered_13 : decode cM_covered 13 = .ok (.if_icmp .le 5, 3) := by decide +kernel
theorem dM_covered_16 : decode cM_covered 16 = .ok (.iconst (-1), 1) := by decide +kernel
theorem dM_covered_17 : decode cM_covered 17 = .ok (.ireturn, 1) := by decide +kernel
theorem dM_covered_18 : decode cM_covered 18 = .ok (.iload_n 1, 1) := by decide +kernel
theorem dM_covered_19 : decode cM_covered 19 = .ok (.iconst 2, 1) := by decide +kernel
theorem dM_covered_20 : decode cM_covered 20 = .ok (.if_icmp .le 20, 3) := by decide +kernel
theorem dM_covered_23 : decode cM_covered 23 = .ok (.iload_n 1, 1) := by decide +kernel
theorem dM_covered_24 : decode cM_covered 24 = .ok (.iconst 3, 1) := by decide +kernel
theorem dM_covered_25 : decode cM_covered 25 = .ok (.if_icmp .ne 10, 3) := by decide +kernel
theorem dM_covered_28 : decode cM_covered 28 = .ok (.aload_n 0, 1) := by decide +kernel
theorem dM_covered_29 : decode cM_covered 29 = .ok (.getfield 191, 3) := by decide +kernel
theorem dM_covered_32 : decode cM_covered 32 = .ok (.goto 7, 3) := by decide +kernel
theorem dM_covered_35 : decode cM_covered 35 = .ok (.aload_n 0, 1) := by decide +kernel
theorem dM_covered_36 : decode cM_covered 36 = .ok (.getfield 200, 3) := by decide +kernel
theorem dM_covered_39 : decode cM_covered 39 = .ok (.ireturn, 1) := by decide +kernel
theorem dM_covered_40 : decode cM_covered 40 = .ok (.iconst 0, 1) := by decide +kernel
theorem dM_covered_41 : decode cM_covered 41 = .ok (.istore_n 2, 1) := by decide +kernel
theorem dM_covered_42 : decode cM_covered 42 = .ok (.iconst 0, 1) := by decide +kernel
theorem dM_covered_43 : decode cM_covered 43 = .ok (.istore_n 3, 1) := by decide +kernel
theorem dM_covered_44 : decode cM_covered 44 = .ok (.iload_n 3, 1) := by decide +kernel
theorem dM_covered_45 : decode cM_covered 45 = .ok (.aload_n 0, 1) := by decide +kernel
theorem dM_covered_46 : decode cM_covered 46 = .ok (.getfield 92, 3) := by decide +kernel
theorem dM_covered_49 : decode cM_covered 49 = .ok (.if_icmp .ge 30, 3) := by decide +kernel
theorem dM_covered_52 : decode cM_covered 52 = .ok (.iload_n 1, 1) := by decide +kernel
theorem dM_covered_53 : decode cM_covered 53 = .ok (.ifCond .ne 26, 3) := by decide +kernel
theorem dM_covered_56 : decode cM_covered 56 = .ok (.aload_n 0, 1) := by decide +kernel
theorem dM_covered_57 : decode cM_covered 57 = .ok (.getfield 83, 3) := by decide +kernel
theorem dM_covered_60 : decode cM_covered 60 = .ok (.iload_n 3, 1) := by decide +kernel
theorem dM_covered_61 : decode cM_covered 61 = .ok (.iaload, 1) := by decide +kernel
theorem dM_covered_62 : decode cM_covered 62 = .ok (.ifCond .le 9, 3) := by decide +kernel
theorem dM_covered_65 : decode cM_covered 65 = .ok (.iload_n 2, 1) := by decide +kernel
theorem dM_covered_66 : decode cM_covered 66 = .ok (.iconst 1, 1) := by decide +kernel
theorem dM_covered_67 : decode cM_covered 67 = .ok (.iadd, 1) := by decide +kernel
theorem dM_covered_68 : decode cM_covered 68 = .ok (.goto 4, 3) := by decide +kernel
theorem dM_covered_71 : decode cM_covered 71 = .ok (.iload_n 2, 1) := by decide +kernel
theorem dM_covered_72 : decode cM_covered 72 = .ok (.istore_n 2, 1) := by decide +kernel
theorem dM_covered_73 : decode cM_covered 73 = .ok (.iinc 3 1, 3) := by decide +kernel
theorem dM_covered_76 : decode cM_covered 76 = .ok (.goto (-32), 3) := by decide +kernel
theorem dM_covered_79 : decode cM_covered 79 = .ok (.iconst 0, 1) := by decide +kernel
theorem dM_covered_80 : decode cM_covered 80 = .ok (.istore_n 3, 1) := by decide +kernel
theorem dM_covered_81 : decode cM_covered 81 = .ok (.iload_n 3, 1) := by decide +kernel
theorem dM_covered_82 : decode cM_covered 82 = .ok (.aload_n 0, 1) := by decide +kernel
theorem dM_covered_83 : decode cM_covered 83 = .ok (.getfield 100, 3) := by decide +kernel
theorem dM_covered_86 : decode cM_covered 86 = .ok (.if_icmp .ge 31, 3) := by decide +kernel
theorem dM_covered_89 : decode cM_covered 89 = .ok (.iload_n 1, 1) := by decide +kernel
theorem dM_covered_90 : decode cM_covered 90 = .ok (.iconst 1, 1) := by decide +kernel
theorem dM_covered_91 : decode cM_covered 91 = .ok (.if_icmp .ne 26, 3) := by decide +kernel
theorem dM_covered_94 : decode cM_covered 94 = .ok (.aload_n 0, 1) := by decide +kernel
theorem dM_covered_95 : decode cM_covered 95 = .ok (.getfield 80, 3) := by decide +kernel
theorem dM_covered_98 : decode cM_covered 98 = .ok (.iload_n 3, 1) := by decide +kernel
theorem dM_covered_99 : decode cM_covered 99 = .ok (.iaload, 1) := by decide +kernel
theorem dM_covered_100 : decode cM_covered 100 = .ok (.ifCond .le 9, 3) := by decide +kernel
theorem dM_covered_103 : decode cM_covered 103 = .ok (.iload_n 2, 1) := by decide +kernel
theorem dM_covered_104 : decode cM_covered 104 = .ok (.iconst 1, 1) := by decide +kernel
theorem dM_covered_105 : decode cM_covered 105 = .ok (.iadd, 1) := by decide +kernel
theorem dM_covered_106 : decode cM_covered 106 = .ok (.goto 4, 3) := by decide +kernel
theorem dM_covered_109 : decode cM_covered 109 = .ok (.iload_n 2, 1) := by decide +kernel
theorem dM_covered_110 : decode cM_covered 110 = .ok (.istore_n 2, 1) := by decide +kernel
theorem dM_covered_111 : decode cM_covered 111 = .ok (.iinc 3 1, 3) := by decide +kernel
theorem dM_covered_114 : decode cM_covered 114 = .ok (.goto (-33), 3) := by decide +kernel
theorem dM_covered_117 : decode cM_covered 117 = .ok (.iconst 0, 1) := by decide +kernel
theorem dM_covered_118 : decode cM_covered 118 = .ok (.istore_n 3, 1) := by decide +kernel
theorem dM_covered_119 : decode cM_covered 119 = .ok (.iload_n 3, 1) := by decide +kernel
theorem dM_covered_120 : decode cM_covered 120 = .ok (.aload_n 0, 1) := by decide +kernel
theorem dM_covered_121 : decode cM_covered 121 = .ok (.getfield 144, 3) := by decide +kernel
theorem dM_covered_124 : decode cM_covered 124 = .ok (.if_icmp .ge 31, 3) := by decide +kernel
theorem dM_covered_127 : decode cM_covered 127 = .ok (.iload_n 1, 1) := by decide +kernel
theorem dM_covered_128 : decode cM_covered 128 = .ok (.iconst 2, 1) := by decide +kernel
theorem dM_covered_129 : decode cM_covered 129 = .ok (.if_icmp .ne 26, 3) := by decide +kernel
theorem dM_covered_132 : decode cM_covered 132 = .ok (.aload_n 0, 1) := by decide +kernel
theorem dM_covered_133 : decode cM_covered 133 = .ok (.getfield 86, 3) := by decide +kernel
theorem dM_covered_136 : decode cM_covered 136 = .ok (.iload_n 3, 1) := by decide +kernel
theorem dM_covered_137 : decode cM_covered 137 = .ok (.iaload, 1) := by decide +kernel
theorem dM_covered_138 : decode cM_covered 138 = .ok (.ifCond .le 9, 3) := by decide +kernel
theorem dM_covered_141 : decode cM_covered 141 = .ok (.iload_n 2, 1) := by decide +kernel
theorem dM_covered_142 : decode cM_covered 142 = .ok (.iconst 1, 1) := by decide +kernel
theorem dM_covered_143 : decode cM_covered 143 = .ok (.iadd, 1) := by decide +kernel
theorem dM_covered_144 : decode cM_covered 144 = .ok (.goto 4, 3) := by decide +kernel
theorem dM_covered_147 : decode cM_covered 147 = .ok (.iload_n 2, 1) := by decide +kernel
theorem dM_covered_148 : decode cM_covered 148 = .ok (.istore_n 2, 1) := by decide +kernel
theorem dM_covered_149 : decode cM_covered 149 = .ok (.iinc 3 1, 3) := by decide +kernel
theorem dM_covered_152 : decode cM_covered 152 = .ok (.goto (-33), 3) := by decide +kernel
theorem dM_covered_155 : decode cM_covered 155 = .ok (.iload_n 2, 1) := by decide +kernel
theorem dM_covered_156 : decode cM_covered 156 = .ok (.ireturn, 1) := by decide +kernel
theorem dM_clear_0 : decode cM_clear 0 = .ok (.iconst 0, 1) := by decide +kernel
theorem dM_clear_1 : decode cM_clear 1 = .ok (.istore_n 1, 1) := by decide +kernel
theorem dM_clear_2 : decode cM_clear 2 = .ok (.iload_n 1, 1) := by decide +kernel
theorem dM_clear_3 : decode cM_clear 3 = .ok (.bipush 24, 2) := by decide +kernel
theorem dM_clear_5 : decode cM_clear 5 = .ok (.if_icmp .ge 16, 3) := by decide +kernel
theorem dM_clear_8 : decode cM_clear 8 = .ok (.aload_n 0, 1) := by decide +kernel
theorem dM_clear_9 : decode cM_clear 9 = .ok (.getfield 80, 3) := by decide +kernel
theorem dM_clear_12 : decode cM_clear 12 = .ok (.iload_n 1, 1) := by decide +kernel
theorem dM_clear_13 : decode cM_clear 13 = .ok (.iconst 0, 1) := by decide +kernel
theorem dM_clear_14 : decode cM_clear 14 = .ok (.iastore, 1) := by decide +kernel
theorem dM_clear_15 : decode cM_clear 15 = .ok (.iinc 1 1, 3) := by decide +kernel
theorem dM_clear_18 : decode cM_clear 18 = .ok (.goto (-16), 3) := by decide +kernel
theorem dM_clear_21 : decode cM_clear 21 = .ok (.iconst 0, 1) := by decide +kernel
theorem dM_clear_22 : decode cM_clear 22 = .ok (.istore_n 1, 1) := by decide +kernel
theorem dM_clear_23 : decode cM_clear 23 = .ok (.iload_n 1, 1) := by decide +kernel
theorem dM_clear_24 : decode cM_clear 24 = .ok (.bipush 12, 2) := by decide +kernel
theorem dM_clear_26 : decode cM_clear 26 = .ok (.if_icmp .ge 23, 3) := by decide +kernel
theorem dM_clear_29 : decode cM_clear 29 = .ok (.aload_n 0, 1) := by decide +kernel
theorem dM_clear_30 : decode cM_clear 30 = .ok (.getfield 83, 3) := by decide +kernel
theorem dM_clear_33 : decode cM_clear 33 = .ok (.iload_n 1, 1) := by decide +kernel
theorem dM_clear_34 : decode cM_clear 34 = .ok (.iconst 0, 1) := by decide +kernel
theorem dM_clear_35 : decode cM_clear 35 = .ok (.iastore, 1) := by decide +kernel
theorem dM_clear_36 : decode cM_clear 36 = .ok (.aload_n 0, 1) := by decide +kernel
theorem dM_clear_37 : decode cM_clear 37 = .ok (.getfield 89, 3) := by decide +kernel
theorem dM_clear_40 : decode cM_clear 40 = .ok (.iload_n 1, 1) := by decide +kernel
theorem dM_clear_41 : decode cM_clear 41 = .ok (.iconst 0, 1) := by decide +kernel
theorem dM_clear_42 : decode cM_clear 42 = .ok (.iastore, 1) := by decide +kernel
theorem dM_clear_43 : decode cM_clear 43 = .ok (.iinc 1 1, 3) := by decide +kernel
theorem dM_clear_46 : decode cM_clear 46 = .ok (.goto (-23), 3) := by decide +kernel
theorem dM_clear_49 : decode cM_clear 49 = .ok (.iconst 0, 1) := by decide +kernel
theorem dM_clear_50 : decode cM_clear 50 = .ok (.istore_n 1, 1) := by decide +kernel
theorem dM_clear_51 : decode cM_clear 51 = .ok (.iload_n 1, 1) := by decide +kernel
theorem dM_clear_52 : decode cM_clear 52 = .ok (.sipush 200, 3) := by decide +kernel
theorem dM_clear_55 : decode cM_clear 55 = .ok (.if_icmp .ge 16, 3) := by decide +kernel
theorem dM_clear_58 : decode cM_clear 58 = .ok (.aload_n 0, 1) := by decide +kernel
theorem dM_clear_59 : decode cM_clear 59 = .ok (.getfield 86, 3) := by decide +kernel
theorem dM_clear_62 : decode cM_clear 62 = .ok (.iload_n 1, 1) := by decide +kernel
theorem dM_clear_63 : decode cM_clear 63 = .ok (.iconst 0, 1) := by decide +kernel
theorem dM_clear_64 : decode cM_clear 64 = .ok (.iastore, 1) := by decide +kernel
theorem dM_clear_65 : decode cM_clear 65 = .ok (.iinc 1 1, 3) := by decide +kernel
theorem dM_clear_68 : decode cM_clear 68 = .ok (.goto (-17), 3) := by decide +kernel
theorem dM_clear_71 : decode cM_clear 71 = .ok (.aload_n 0, 1) := by decide +kernel
theorem dM_clear_72 : decode cM_clear 72 = .ok (.iconst 0, 1) := by decide +kernel
theorem dM_clear_73 : decode cM_clear 73 = .ok (.putfield 191, 3) := by decide +kernel
theorem dM_clear_76 : decode cM_clear 76 = .ok (.aload_n 0, 1) := by decide +kernel
theorem dM_clear_77 : decode cM_clear 77 = .ok (.iconst 0, 1) := by decide +kernel
theorem dM_clear_78 : decode cM_clear 78 = .ok (.putfield 200, 3) := by decide +kernel
theorem dM_clear_81 : decode cM_clear 81 = .ok (.aload_n 0, 1) := by decide +kernel
theorem dM_clear_82 : decode cM_clear 82 = .ok (.iconst 0, 1) := by decide +kernel
theorem dM_clear_83 : decode cM_clear 83 = .ok (.putfield 182, 3) := by decide +kernel
theorem dM_clear_86 : decode cM_clear 86 = .ok (.return_, 1) := by decide +kernel
