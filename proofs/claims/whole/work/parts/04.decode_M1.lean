/-! rows that decode, M -/
theorem dM_deepen_70 : decode cM_deepen 70 = .ok (.iaload, 1) := by decide +kernel
theorem dM_deepen_71 : decode cM_deepen 71 = .ok (.if_icmp .ne 12, 3) := by decide +kernel
theorem dM_deepen_74 : decode cM_deepen 74 = .ok (.iload_n 3, 1) := by decide +kernel
theorem dM_deepen_75 : decode cM_deepen 75 = .ok (.iload_n 2, 1) := by decide +kernel
theorem dM_deepen_76 : decode cM_deepen 76 = .ok (.if_icmp .eq 7, 3) := by decide +kernel
theorem dM_deepen_79 : decode cM_deepen 79 = .ok (.iconst 1, 1) := by decide +kernel
theorem dM_deepen_80 : decode cM_deepen 80 = .ok (.goto 4, 3) := by decide +kernel
theorem dM_deepen_83 : decode cM_deepen 83 = .ok (.iconst 0, 1) := by decide +kernel
theorem dM_deepen_84 : decode cM_deepen 84 = .ok (.bastore, 1) := by decide +kernel
theorem dM_deepen_85 : decode cM_deepen 85 = .ok (.iinc 3 1, 3) := by decide +kernel
theorem dM_deepen_88 : decode cM_deepen 88 = .ok (.goto (-37), 3) := by decide +kernel
theorem dM_deepen_91 : decode cM_deepen 91 = .ok (.aload_n 0, 1) := by decide +kernel
theorem dM_deepen_92 : decode cM_deepen 92 = .ok (.iload_n 2, 1) := by decide +kernel
theorem dM_deepen_93 : decode cM_deepen 93 = .ok (.invokevirtual 111, 3) := by decide +kernel
theorem dM_deepen_96 : decode cM_deepen 96 = .ok (.aload_n 0, 1) := by decide +kernel
theorem dM_deepen_97 : decode cM_deepen 97 = .ok (.getfield 29, 3) := by decide +kernel
theorem dM_deepen_100 : decode cM_deepen 100 = .ok (.iload_n 2, 1) := by decide +kernel
theorem dM_deepen_101 : decode cM_deepen 101 = .ok (.iconst 1, 1) := by decide +kernel
theorem dM_deepen_102 : decode cM_deepen 102 = .ok (.bastore, 1) := by decide +kernel
theorem dM_deepen_103 : decode cM_deepen 103 = .ok (.iconst 0, 1) := by decide +kernel
theorem dM_deepen_104 : decode cM_deepen 104 = .ok (.istore_n 3, 1) := by decide +kernel
theorem dM_deepen_105 : decode cM_deepen 105 = .ok (.iload_n 3, 1) := by decide +kernel
theorem dM_deepen_106 : decode cM_deepen 106 = .ok (.aload_n 0, 1) := by decide +kernel
theorem dM_deepen_107 : decode cM_deepen 107 = .ok (.getfield 92, 3) := by decide +kernel
theorem dM_deepen_110 : decode cM_deepen 110 = .ok (.if_icmp .ge 41, 3) := by decide +kernel
theorem dM_deepen_113 : decode cM_deepen 113 = .ok (.aload_n 0, 1) := by decide +kernel
theorem dM_deepen_114 : decode cM_deepen 114 = .ok (.getfield 32, 3) := by decide +kernel
theorem dM_deepen_117 : decode cM_deepen 117 = .ok (.iload_n 3, 1) := by decide +kernel
theorem dM_deepen_118 : decode cM_deepen 118 = .ok (.aload_n 0, 1) := by decide +kernel
theorem dM_deepen_119 : decode cM_deepen 119 = .ok (.getfield 29, 3) := by decide +kernel
theorem dM_deepen_122 : decode cM_deepen 122 = .ok (.iload_n 3, 1) := by decide +kernel
theorem dM_deepen_123 : decode cM_deepen 123 = .ok (.baload, 1) := by decide +kernel
theorem dM_deepen_124 : decode cM_deepen 124 = .ok (.ifCond .eq 14, 3) := by decide +kernel
theorem dM_deepen_127 : decode cM_deepen 127 = .ok (.aload_n 0, 1) := by decide +kernel
theorem dM_deepen_128 : decode cM_deepen 128 = .ok (.getfield 32, 3) := by decide +kernel
theorem dM_deepen_131 : decode cM_deepen 131 = .ok (.iload_n 3, 1) := by decide +kernel
theorem dM_deepen_132 : decode cM_deepen 132 = .ok (.iaload, 1) := by decide +kernel
theorem dM_deepen_133 : decode cM_deepen 133 = .ok (.iconst 1, 1) := by decide +kernel
theorem dM_deepen_134 : decode cM_deepen 134 = .ok (.iadd, 1) := by decide +kernel
theorem dM_deepen_135 : decode cM_deepen 135 = .ok (.goto 9, 3) := by decide +kernel
theorem dM_deepen_138 : decode cM_deepen 138 = .ok (.aload_n 0, 1) := by decide +kernel
theorem dM_deepen_139 : decode cM_deepen 139 = .ok (.getfield 32, 3) := by decide +kernel
theorem dM_deepen_142 : decode cM_deepen 142 = .ok (.iload_n 3, 1) := by decide +kernel
theorem dM_deepen_143 : decode cM_deepen 143 = .ok (.iaload, 1) := by decide +kernel
theorem dM_deepen_144 : decode cM_deepen 144 = .ok (.iastore, 1) := by decide +kernel
theorem dM_deepen_145 : decode cM_deepen 145 = .ok (.iinc 3 1, 3) := by decide +kernel
theorem dM_deepen_148 : decode cM_deepen 148 = .ok (.goto (-43), 3) := by decide +kernel
theorem dM_deepen_151 : decode cM_deepen 151 = .ok (.iinc 1 1, 3) := by decide +kernel
theorem dM_deepen_154 : decode cM_deepen 154 = .ok (.goto (-129), 3) := by decide +kernel
theorem dM_deepen_157 : decode cM_deepen 157 = .ok (.return_, 1) := by decide +kernel
theorem dM_weight_0 : decode cM_weight 0 = .ok (.aload_n 0, 1) := by decide +kernel
theorem dM_weight_1 : decode cM_weight 1 = .ok (.getfield 32, 3) := by decide +kernel
theorem dM_weight_4 : decode cM_weight 4 = .ok (.aload_n 0, 1) := by decide +kernel
theorem dM_weight_5 : decode cM_weight 5 = .ok (.getfield 7, 3) := by decide +kernel
theorem dM_weight_8 : decode cM_weight 8 = .ok (.iload_n 1, 1) := by decide +kernel
theorem dM_weight_9 : decode cM_weight 9 = .ok (.iaload, 1) := by decide +kernel
theorem dM_weight_10 : decode cM_weight 10 = .ok (.iaload, 1) := by decide +kernel
theorem dM_weight_11 : decode cM_weight 11 = .ok (.istore_n 2, 1) := by decide +kernel
theorem dM_weight_12 : decode cM_weight 12 = .ok (.aload_n 0, 1) := by decide +kernel
theorem dM_weight_13 : decode cM_weight 13 = .ok (.getfield 32, 3) := by decide +kernel
theorem dM_weight_16 : decode cM_weight 16 = .ok (.aload_n 0, 1) := by decide +kernel
theorem dM_weight_17 : decode cM_weight 17 = .ok (.getfield 13, 3) := by decide +kernel
theorem dM_weight_20 : decode cM_weight 20 = .ok (.iload_n 1, 1) := by decide +kernel
theorem dM_weight_21 : decode cM_weight 21 = .ok (.iaload, 1) := by decide +kernel
theorem dM_weight_22 : decode cM_weight 22 = .ok (.iaload, 1) := by decide +kernel
theorem dM_weight_23 : decode cM_weight 23 = .ok (.istore_n 3, 1) := by decide +kernel
theorem dM_weight_24 : decode cM_weight 24 = .ok (.iload_n 2, 1) := by decide +kernel
theorem dM_weight_25 : decode cM_weight 25 = .ok (.iload_n 3, 1) := by decide +kernel
theorem dM_weight_26 : decode cM_weight 26 = .ok (.if_icmp .ge 7, 3) := by decide +kernel
theorem dM_weight_29 : decode cM_weight 29 = .ok (.iload_n 2, 1) := by decide +kernel
theorem dM_weight_30 : decode cM_weight 30 = .ok (.goto 4, 3) := by decide +kernel
theorem dM_weight_33 : decode cM_weight 33 = .ok (.iload_n 3, 1) := by decide +kernel
theorem dM_weight_34 : decode cM_weight 34 = .ok (.ireturn, 1) := by decide +kernel
theorem dM_sort_0 : decode cM_sort 0 = .ok (.iconst 0, 1) := by decide +kernel
theorem dM_sort_1 : decode cM_sort 1 = .ok (.istore_n 1, 1) := by decide +kernel
theorem dM_sort_2 : decode cM_sort 2 = .ok (.iload_n 1, 1) := by decide +kernel
theorem dM_sort_3 : decode cM_sort 3 = .ok (.aload_n 0, 1) := by decide +kernel
theorem dM_sort_4 : decode cM_sort 4 = .ok (.getfield 100, 3) := by decide +kernel
theorem dM_sort_7 : decode cM_sort 7 = .ok (.if_icmp .ge 76, 3) := by decide +kernel
theorem dM_sort_10 : decode cM_sort 10 = .ok (.iconst 0, 1) := by decide +kernel
theorem dM_sort_11 : decode cM_sort 11 = .ok (.istore_n 2, 1) := by decide +kernel
theorem dM_sort_12 : decode cM_sort 12 = .ok (.aload_n 0, 1) := by decide +kernel
theorem dM_sort_13 : decode cM_sort 13 = .ok (.iload_n 1, 1) := by decide +kernel
theorem dM_sort_14 : decode cM_sort 14 = .ok (.invokevirtual 115, 3) := by decide +kernel
theorem dM_sort_17 : decode cM_sort 17 = .ok (.istore_n 3, 1) := by decide +kernel
theorem dM_sort_18 : decode cM_sort 18 = .ok (.iconst 0, 1) := by decide +kernel
theorem dM_sort_19 : decode cM_sort 19 = .ok (.istore 4, 2) := by decide +kernel
theorem dM_sort_21 : decode cM_sort 21 = .ok (.iload 4, 2) := by decide +kernel
theorem dM_sort_23 : decode cM_sort 23 = .ok (.aload_n 0, 1) := by decide +kernel
theorem dM_sort_24 : decode cM_sort 24 = .ok (.getfield 100, 3) := by decide +kernel
theorem dM_sort_27 : decode cM_sort 27 = .ok (.if_icmp .ge 43, 3) := by decide +kernel
theorem dM_sort_30 : decode cM_sort 30 = .ok (.aload_n 0, 1) := by decide +kernel
theorem dM_sort_31 : decode cM_sort 31 = .ok (.iload 4, 2) := by decide +kernel
theorem dM_sort_33 : decode cM_sort 33 = .ok (.invokevirtual 115, 3) := by decide +kernel
theorem dM_sort_36 : decode cM_sort 36 = .ok (.istore 5, 2) := by decide +kernel
theorem dM_sort_38 : decode cM_sort 38 = .ok (.iload 5, 2) := by decide +kernel
theorem dM_sort_40 : decode cM_sort 40 = .ok (.iload_n 3, 1) := by decide +kernel
theorem dM_sort_41 : decode cM_sort 41 = .ok (.if_icmp .gt 15, 3) := by decide +kernel
theorem dM_sort_44 : decode cM_sort 44 = .ok (.iload 5, 2) := by decide +kernel
theorem dM_sort_46 : decode cM_sort 46 = .ok (.iload_n 3, 1) := by decide +kernel
theorem dM_sort_47 : decode cM_sort 47 = .ok (.if_icmp .ne 15, 3) := by decide +kernel
theorem dM_sort_50 : decode cM_sort 50 = .ok (.iload 4, 2) := by decide +kernel
theorem dM_sort_52 : decode cM_sort 52 = .ok (.iload_n 1, 1) := by decide +kernel
theorem dM_sort_53 : decode cM_sort 53 = .ok (.if_icmp .ge 9, 3) := by decide +kernel
theorem dM_sort_56 : decode cM_sort 56 = .ok (.iload_n 2, 1) := by decide +kernel
theorem dM_sort_57 : decode cM_sort 57 = .ok (.iconst 1, 1) := by decide +kernel
theorem dM_sort_58 : decode cM_sort 58 = .ok (.iadd, 1) := by decide +kernel
theorem dM_sort_59 : decode cM_sort 59 = .ok (.goto 4, 3) := by decide +kernel
theorem dM_sort_62 : decode cM_sort 62 = .ok (.iload_n 2, 1) := by decide +kernel
theorem dM_sort_63 : decode cM_sort 63 = .ok (.istore_n 2, 1) := by decide +kernel
theorem dM_sort_64 : decode cM_sort 64 = .ok (.iinc 4 1, 3) := by decide +kernel
theorem dM_sort_67 : decode cM_sort 67 = .ok (.goto (-46), 3) := by decide +kernel
theorem dM_sort_70 : decode cM_sort 70 = .ok (.aload_n 0, 1) := by decide +kernel
theorem dM_sort_71 : decode cM_sort 71 = .ok (.getfield 35, 3) := by decide +kernel
theorem dM_sort_74 : decode cM_sort 74 = .ok (.iload_n 2, 1) := by decide +kernel
theorem dM_sort_75 : decode cM_sort 75 = .ok (.iload_n 1, 1) := by decide +kernel
theorem dM_sort_76 : decode cM_sort 76 = .ok (.iastore, 1) := by decide +kernel
theorem dM_sort_77 : decode cM_sort 77 = .ok (.iinc 1 1, 3) := by decide +kernel
theorem dM_sort_80 : decode cM_sort 80 = .ok (.goto (-78), 3) := by decide +kernel
theorem dM_sort_83 : decode cM_sort 83 = .ok (.return_, 1) := by decide +kernel
theorem dM_joined_0 : decode cM_joined 0 = .ok (.iconst 0, 1) := by decide +kernel
theorem dM_joined_1 : decode cM_joined 1 = .ok (.istore_n 3, 1) := by decide +kernel
theorem dM_joined_2 : decode cM_joined 2 = .ok (.iload_n 3, 1) := by decide +kernel
theorem dM_joined_3 : decode cM_joined 3 = .ok (.aload_n 0, 1) := by decide +kernel
theorem dM_joined_4 : decode cM_joined 4 = .ok (.getfield 92, 3) := by decide +kernel
theorem dM_joined_7 : decode cM_joined 7 = .ok (.if_icmp .ge 25, 3) := by decide +kernel
theorem dM_joined_10 : decode cM_joined 10 = .ok (.aload_n 0, 1) := by decide +kernel
theorem dM_joined_11 : decode cM_joined 11 = .ok (.getfield 29, 3) := by decide +kernel
theorem dM_joined_14 : decode cM_joined 14 = .ok (.iload_n 3, 1) := by decide +kernel
theorem dM_joined_15 : decode cM_joined 15 = .ok (.iload_n 3, 1) := by decide +kernel
theorem dM_joined_16 : decode cM_joined 16 = .ok (.iload_n 1, 1) := by decide +kernel
theorem dM_joined_17 : decode cM_joined 17 = .ok (.if_icmp .ne 7, 3) := by decide +kernel
theorem dM_joined_20 : decode cM_joined 20 = .ok (.iconst 1, 1) := by decide +kernel
theorem dM_joined_21 : decode cM_joined 21 = .ok (.goto 4, 3) := by decide +kernel
theorem dM_joined_24 : decode cM_joined 24 = .ok (.iconst 0, 1) := by decide +kernel
theorem dM_joined_25 : decode cM_joined 25 = .ok (.bastore, 1) := by decide +kernel
theorem dM_joined_26 : decode cM_joined 26 = .ok (.iinc 3 1, 3) := by decide +kernel
theorem dM_joined_29 : decode cM_joined 29 = .ok (.goto (-27), 3) := by decide +kernel
theorem dM_joined_32 : decode cM_joined 32 = .ok (.iconst 0, 1) := by decide +kernel
theorem dM_joined_33 : decode cM_joined 33 = .ok (.istore_n 3, 1) := by decide +kernel
theorem dM_joined_34 : decode cM_joined 34 = .ok (.iload_n 3, 1) := by decide +kernel
theorem dM_joined_35 : decode cM_joined 35 = .ok (.aload_n 0, 1) := by decide +kernel
theorem dM_joined_36 : decode cM_joined 36 = .ok (.getfield 92, 3) := by decide +kernel
theorem dM_joined_39 : decode cM_joined 39 = .ok (.if_icmp .ge 133, 3) := by decide +kernel
theorem dM_joined_42 : decode cM_joined 42 = .ok (.iconst 0, 1) := by decide +kernel
theorem dM_joined_43 : decode cM_joined 43 = .ok (.istore 4, 2) := by decide +kernel
theorem dM_joined_45 : decode cM_joined 45 = .ok (.iload 4, 2) := by decide +kernel
theorem dM_joined_47 : decode cM_joined 47 = .ok (.aload_n 0, 1) := by decide +kernel
theorem dM_joined_48 : decode cM_joined 48 = .ok (.getfield 118, 3) := by decide +kernel
theorem dM_joined_51 : decode cM_joined 51 = .ok (.if_icmp .ge 74, 3) := by decide +kernel
theorem dM_joined_54 : decode cM_joined 54 = .ok (.aload_n 0, 1) := by decide +kernel
theorem dM_joined_55 : decode cM_joined 55 = .ok (.getfield 29, 3) := by decide +kernel
theorem dM_joined_58 : decode cM_joined 58 = .ok (.aload_n 0, 1) := by decide +kernel
theorem dM_joined_59 : decode cM_joined 59 = .ok (.getfield 62, 3) := by decide +kernel
theorem dM_joined_62 : decode cM_joined 62 = .ok (.iload 4, 2) := by decide +kernel
theorem dM_joined_64 : decode cM_joined 64 = .ok (.iaload, 1) := by decide +kernel
theorem dM_joined_65 : decode cM_joined 65 = .ok (.baload, 1) := by decide +kernel
theorem dM_joined_66 : decode cM_joined 66 = .ok (.ifCond .ne 18, 3) := by decide +kernel
theorem dM_joined_69 : decode cM_joined 69 = .ok (.aload_n 0, 1) := by decide +kernel
theorem dM_joined_70 : decode cM_joined 70 = .ok (.getfield 29, 3) := by decide +kernel
theorem dM_joined_73 : decode cM_joined 73 = .ok (.aload_n 0, 1) := by decide +kernel
theorem dM_joined_74 : decode cM_joined 74 = .ok (.getfield 65, 3) := by decide +kernel
theorem dM_joined_77 : decode cM_joined 77 = .ok (.iload 4, 2) := by decide +kernel
theorem dM_joined_79 : decode cM_joined 79 = .ok (.iaload, 1) := by decide +kernel
theorem dM_joined_80 : decode cM_joined 80 = .ok (.baload, 1) := by decide +kernel
theorem dM_joined_81 : decode cM_joined 81 = .ok (.ifCond .eq 7, 3) := by decide +kernel
theorem dM_joined_84 : decode cM_joined 84 = .ok (.iconst 1, 1) := by decide +kernel
theorem dM_joined_85 : decode cM_joined 85 = .ok (.goto 4, 3) := by decide +kernel
theorem dM_joined_88 : decode cM_joined 88 = .ok (.iconst 0, 1) := by decide +kernel
theorem dM_joined_89 : decode cM_joined 89 = .ok (.istore 5, 2) := by decide +kernel
theorem dM_joined_91 : decode cM_joined 91 = .ok (.aload_n 0, 1) := by decide +kernel
theorem dM_joined_92 : decode cM_joined 92 = .ok (.getfield 29, 3) := by decide +kernel
theorem dM_joined_95 : decode cM_joined 95 = .ok (.aload_n 0, 1) := by decide +kernel
theorem dM_joined_96 : decode cM_joined 96 = .ok (.getfield 62, 3) := by decide +kernel
theorem dM_joined_99 : decode cM_joined 99 = .ok (.iload 4, 2) := by decide +kernel
theorem dM_joined_101 : decode cM_joined 101 = .ok (.iaload, 1) := by decide +kernel
theorem dM_joined_102 : decode cM_joined 102 = .ok (.iload 5, 2) := by decide +kernel
theorem dM_joined_104 : decode cM_joined 104 = .ok (.bastore, 1) := by decide +kernel
theorem dM_joined_105 : decode cM_joined 105 = .ok (.aload_n 0, 1) := by decide +kernel
theorem dM_joined_106 : decode cM_joined 106 = .ok (.getfield 29, 3) := by decide +kernel
theorem dM_joined_109 : decode cM_joined 109 = .ok (.aload_n 0, 1) := by decide +kernel
theorem dM_joined_110 : decode cM_joined 110 = .ok (.getfield 65, 3) := by decide +kernel
theorem dM_joined_113 : decode cM_joined 113 = .ok (.iload 4, 2) := by decide +kernel
theorem dM_joined_115 : decode cM_joined 115 = .ok (.iaload, 1) := by decide +kernel
theorem dM_joined_116 : decode cM_joined 116 = .ok (.iload 5, 2) := by decide +kernel
theorem dM_joined_118 : decode cM_joined 118 = .ok (.bastore, 1) := by decide +kernel
theorem dM_joined_119 : decode cM_joined 119 = .ok (.iinc 4 1, 3) := by decide +kernel
theorem dM_joined_122 : decode cM_joined 122 = .ok (.goto (-77), 3) := by decide +kernel
theorem dM_joined_125 : decode cM_joined 125 = .ok (.aload_n 0, 1) := by decide +kernel
theorem dM_joined_126 : decode cM_joined 126 = .ok (.getfield 29, 3) := by decide +kernel
theorem dM_joined_129 : decode cM_joined 129 = .ok (.iconst 0, 1) := by decide +kernel
theorem dM_joined_130 : decode cM_joined 130 = .ok (.baload, 1) := by decide +kernel
theorem dM_joined_131 : decode cM_joined 131 = .ok (.ifCond .ne 12, 3) := by decide +kernel
theorem dM_joined_134 : decode cM_joined 134 = .ok (.aload_n 0, 1) := by decide +kernel
theorem dM_joined_135 : decode cM_joined 135 = .ok (.getfield 29, 3) := by decide +kernel
theorem dM_joined_138 : decode cM_joined 138 = .ok (.iconst 1, 1) := by decide +kernel
theorem dM_joined_139 : decode cM_joined 139 = .ok (.baload, 1) := by decide +kernel
theorem dM_joined_140 : decode cM_joined 140 = .ok (.ifCond .eq 7, 3) := by decide +kernel
theorem dM_joined_143 : decode cM_joined 143 = .ok (.iconst 1, 1) := by decide +kernel
theorem dM_joined_144 : decode cM_joined 144 = .ok (.goto 4, 3) := by decide +kernel
theorem dM_joined_147 : decode cM_joined 147 = .ok (.iconst 0, 1) := by decide +kernel
theorem dM_joined_148 : decode cM_joined 148 = .ok (.istore 4, 2) := by decide +kernel
theorem dM_joined_150 : decode cM_joined 150 = .ok (.aload_n 0, 1) := by decide +kernel
theorem dM_joined_151 : decode cM_joined 151 = .ok (.getfield 29, 3) := by decide +kernel
theorem dM_joined_154 : decode cM_joined 154 = .ok (.iconst 0, 1) := by decide +kernel
theorem dM_joined_155 : decode cM_joined 155 = .ok (.iload 4, 2) := by decide +kernel
theorem dM_joined_157 : decode cM_joined 157 = .ok (.bastore, 1) := by decide +kernel
theorem dM_joined_158 : decode cM_joined 158 = .ok (.aload_n 0, 1) := by decide +kernel
theorem dM_joined_159 : decode cM_joined 159 = .ok (.getfield 29, 3) := by decide +kernel
theorem dM_joined_162 : decode cM_joined 162 = .ok (.iconst 1, 1) := by decide +kernel
theorem dM_joined_163 : decode cM_joined 163 = .ok (.iload 4, 2) := by decide +kernel
theorem dM_joined_165 : decode cM_joined 165 = .ok (.bastore, 1) := by decide +kernel
theorem dM_joined_166 : decode cM_joined 166 = .ok (.iinc 3 1, 3) := by decide +kernel
theorem dM_joined_169 : decode cM_joined 169 = .ok (.goto (-135), 3) := by decide +kernel
theorem dM_joined_172 : decode cM_joined 172 = .ok (.aload_n 0, 1) := by decide +kernel
theorem dM_joined_173 : decode cM_joined 173 = .ok (.getfield 29, 3) := by decide +kernel
theorem dM_joined_176 : decode cM_joined 176 = .ok (.iload_n 2, 1) := by decide +kernel
theorem dM_joined_177 : decode cM_joined 177 = .ok (.baload, 1) := by decide +kernel
theorem dM_joined_178 : decode cM_joined 178 = .ok (.ireturn, 1) := by decide +kernel
theorem dM_join_0 : decode cM_join 0 = .ok (.aload_n 0, 1) := by decide +kernel
theorem dM_join_1 : decode cM_join 1 = .ok (.iload_n 1, 1) := by decide +kernel
theorem dM_join_2 : decode cM_join 2 = .ok (.iload_n 2, 1) := by decide +kernel
theorem dM_join_3 : decode cM_join 3 = .ok (.invokevirtual 121, 3) := by decide +kernel
theorem dM_join_6 : decode cM_join 6 = .ok (.istore_n 3, 1) := by decide +kernel
theorem dM_join_7 : decode cM_join 7 = .ok (.aload_n 0, 1) := by decide +kernel
theorem dM_join_8 : decode cM_join 8 = .ok (.getfield 62, 3) := by decide +kernel
theorem dM_join_11 : decode cM_join 11 = .ok (.aload_n 0, 1) := by decide +kernel
theorem dM_join_12 : decode cM_join 12 = .ok (.getfield 118, 3) := by decide +kernel
theorem dM_join_15 : decode cM_join 15 = .ok (.iload_n 1, 1) := by decide +kernel
theorem dM_join_16 : decode cM_join 16 = .ok (.iastore, 1) := by decide +kernel
theorem dM_join_17 : decode cM_join 17 = .ok (.aload_n 0, 1) := by decide +kernel
theorem dM_join_18 : decode cM_join 18 = .ok (.getfield 65, 3) := by decide +kernel
theorem dM_join_21 : decode cM_join 21 = .ok (.aload_n 0, 1) := by decide +kernel
theorem dM_join_22 : decode cM_join 22 = .ok (.getfield 118, 3) := by decide +kernel
theorem dM_join_25 : decode cM_join 25 = .ok (.iload_n 2, 1) := by decide +kernel
theorem dM_join_26 : decode cM_join 26 = .ok (.iastore, 1) := by decide +kernel
theorem dM_join_27 : decode cM_join 27 = .ok (.aload_n 0, 1) := by decide +kernel
theorem dM_join_28 : decode cM_join 28 = .ok (.aload_n 0, 1) := by decide +kernel
theorem dM_join_29 : decode cM_join 29 = .ok (.getfield 118, 3) := by decide +kernel
theorem dM_join_32 : decode cM_join 32 = .ok (.iconst 1, 1) := by decide +kernel
theorem dM_join_33 : decode cM_join 33 = .ok (.iadd, 1) := by decide +kernel
theorem dM_join_34 : decode cM_join 34 = .ok (.putfield 118, 3) := by decide +kernel
theorem dM_join_37 : decode cM_join 37 = .ok (.iload_n 3, 1) := by decide +kernel
theorem dM_join_38 : decode cM_join 38 = .ok (.ifCond .ne 7, 3) := by decide +kernel
theorem dM_join_41 : decode cM_join 41 = .ok (.iconst 1, 1) := by decide +kernel
theorem dM_join_42 : decode cM_join 42 = .ok (.goto 4, 3) := by decide +kernel
theorem dM_join_45 : decode cM_join 45 = .ok (.iconst 0, 1) := by decide +kernel
theorem dM_join_46 : decode cM_join 46 = .ok (.ireturn, 1) := by decide +kernel
theorem dM_growTrees_0 : decode cM_growTrees 0 = .ok (.aload_n 0, 1) := by decide +kernel
theorem dM_growTrees_1 : decode cM_growTrees 1 = .ok (.iconst 0, 1) := by decide +kernel
theorem dM_growTrees_2 : decode cM_growTrees 2 = .ok (.putfield 118, 3) := by decide +kernel
theorem dM_growTrees_5 : decode cM_growTrees 5 = .ok (.iconst 0, 1) := by decide +kernel
theorem dM_growTrees_6 : decode cM_growTrees 6 = .ok (.istore_n 1, 1) := by decide +kernel
theorem dM_growTrees_7 : decode cM_growTrees 7 = .ok (.iload_n 1, 1) := by decide +kernel
theorem dM_growTrees_8 : decode cM_growTrees 8 = .ok (.aload_n 0, 1) := by decide +kernel
theorem dM_growTrees_9 : decode cM_growTrees 9 = .ok (.getfield 100, 3) := by decide +kernel
theorem dM_growTrees_12 : decode cM_growTrees 12 = .ok (.if_icmp .ge 38, 3) := by decide +kernel
theorem dM_growTrees_15 : decode cM_growTrees 15 = .ok (.aload_n 0, 1) := by decide +kernel
theorem dM_growTrees_16 : decode cM_growTrees 16 = .ok (.getfield 35, 3) := by decide +kernel
theorem dM_growTrees_19 : decode cM_growTrees 19 = .ok (.iload_n 1, 1) := by decide +kernel
theorem dM_growTrees_20 : decode cM_growTrees 20 = .ok (.iaload, 1) := by decide +kernel
theorem dM_growTrees_21 : decode cM_growTrees 21 = .ok (.istore_n 2, 1) := by decide +kernel
theorem dM_growTrees_22 : decode cM_growTrees 22 = .ok (.aload_n 0, 1) := by decide +kernel
theorem dM_growTrees_23 : decode cM_growTrees 23 = .ok (.getfield 38, 3) := by decide +kernel
theorem dM_growTrees_26 : decode cM_growTrees 26 = .ok (.iload_n 2, 1) := by decide +kernel
theorem dM_growTrees_27 : decode cM_growTrees 27 = .ok (.aload_n 0, 1) := by decide +kernel
theorem dM_growTrees_28 : decode cM_growTrees 28 = .ok (.aload_n 0, 1) := by decide +kernel
theorem dM_growTrees_29 : decode cM_growTrees 29 = .ok (.getfield 7, 3) := by decide +kernel
theorem dM_growTrees_32 : decode cM_growTrees 32 = .ok (.iload_n 2, 1) := by decide +kernel
theorem dM_growTrees_33 : decode cM_growTrees 33 = .ok (.iaload, 1) := by decide +kernel
theorem dM_growTrees_34 : decode cM_growTrees 34 = .ok (.aload_n 0, 1) := by decide +kernel
theorem dM_growTrees_35 : decode cM_growTrees 35 = .ok (.getfield 13, 3) := by decide +kernel
theorem dM_growTrees_38 : decode cM_growTrees 38 = .ok (.iload_n 2, 1) := by decide +kernel
theorem dM_growTrees_39 : decode cM_growTrees 39 = .ok (.iaload, 1) := by decide +kernel
theorem dM_growTrees_40 : decode cM_growTrees 40 = .ok (.invokevirtual 125, 3) := by decide +kernel
theorem dM_growTrees_43 : decode cM_growTrees 43 = .ok (.bastore, 1) := by decide +kernel
theorem dM_growTrees_44 : decode cM_growTrees 44 = .ok (.iinc 1 1, 3) := by decide +kernel
theorem dM_growTrees_47 : decode cM_growTrees 47 = .ok (.goto (-40), 3) := by decide +kernel
theorem dM_growTrees_50 : decode cM_growTrees 50 = .ok (.aload_n 0, 1) := by decide +kernel
theorem dM_growTrees_51 : decode cM_growTrees 51 = .ok (.iconst 0, 1) := by decide +kernel
theorem dM_growTrees_52 : decode cM_growTrees 52 = .ok (.putfield 118, 3) := by decide +kernel
theorem dM_growTrees_55 : decode cM_growTrees 55 = .ok (.iconst 0, 1) := by decide +kernel
theorem dM_growTrees_56 : decode cM_growTrees 56 = .ok (.istore_n 1, 1) := by decide +kernel
theorem dM_growTrees_57 : decode cM_growTrees 57 = .ok (.iload_n 1, 1) := by decide +kernel
theorem dM_growTrees_58 : decode cM_growTrees 58 = .ok (.aload_n 0, 1) := by decide +kernel
theorem dM_growTrees_59 : decode cM_growTrees 59 = .ok (.getfield 100, 3) := by decide +kernel
theorem dM_growTrees_62 : decode cM_growTrees 62 = .ok (.if_icmp .ge 47, 3) := by decide +kernel
theorem dM_growTrees_65 : decode cM_growTrees 65 = .ok (.aload_n 0, 1) := by decide +kernel
theorem dM_growTrees_66 : decode cM_growTrees 66 = .ok (.getfield 35, 3) := by decide +kernel
theorem dM_growTrees_69 : decode cM_growTrees 69 = .ok (.iload_n 1, 1) := by decide +kernel
theorem dM_growTrees_70 : decode cM_growTrees 70 = .ok (.iaload, 1) := by decide +kernel
theorem dM_growTrees_71 : decode cM_growTrees 71 = .ok (.istore_n 2, 1) := by decide +kernel
theorem dM_growTrees_72 : decode cM_growTrees 72 = .ok (.aload_n 0, 1) := by decide +kernel
theorem dM_growTrees_73 : decode cM_growTrees 73 = .ok (.getfield 25, 3) := by decide +kernel
theorem dM_growTrees_76 : decode cM_growTrees 76 = .ok (.iload_n 2, 1) := by decide +kernel
theorem dM_growTrees_77 : decode cM_growTrees 77 = .ok (.baload, 1) := by decide +kernel
theorem dM_growTrees_78 : decode cM_growTrees 78 = .ok (.ifCond .ne 25, 3) := by decide +kernel
theorem dM_growTrees_81 : decode cM_growTrees 81 = .ok (.aload_n 0, 1) := by decide +kernel
theorem dM_growTrees_82 : decode cM_growTrees 82 = .ok (.getfield 53, 3) := by decide +kernel
theorem dM_growTrees_85 : decode cM_growTrees 85 = .ok (.iload_n 2, 1) := by decide +kernel
theorem dM_growTrees_86 : decode cM_growTrees 86 = .ok (.aload_n 0, 1) := by decide +kernel
theorem dM_growTrees_87 : decode cM_growTrees 87 = .ok (.aload_n 0, 1) := by decide +kernel
theorem dM_growTrees_88 : decode cM_growTrees 88 = .ok (.getfield 7, 3) := by decide +kernel
theorem dM_growTrees_91 : decode cM_growTrees 91 = .ok (.iload_n 2, 1) := by decide +kernel
theorem dM_growTrees_92 : decode cM_growTrees 92 = .ok (.iaload, 1) := by decide +kernel
theorem dM_growTrees_93 : decode cM_growTrees 93 = .ok (.aload_n 0, 1) := by decide +kernel
theorem dM_growTrees_94 : decode cM_growTrees 94 = .ok (.getfield 13, 3) := by decide +kernel
theorem dM_growTrees_97 : decode cM_growTrees 97 = .ok (.iload_n 2, 1) := by decide +kernel
theorem dM_growTrees_98 : decode cM_growTrees 98 = .ok (.iaload, 1) := by decide +kernel
theorem dM_growTrees_99 : decode cM_growTrees 99 = .ok (.invokevirtual 125, 3) := by decide +kernel
theorem dM_growTrees_102 : decode cM_growTrees 102 = .ok (.bastore, 1) := by decide +kernel
theorem dM_growTrees_103 : decode cM_growTrees 103 = .ok (.iinc 1 1, 3) := by decide +kernel
theorem dM_growTrees_106 : decode cM_growTrees 106 = .ok (.goto (-49), 3) := by decide +kernel
theorem dM_growTrees_109 : decode cM_growTrees 109 = .ok (.iconst 0, 1) := by decide +kernel
theorem dM_growTrees_110 : decode cM_growTrees 110 = .ok (.istore_n 1, 1) := by decide +kernel
theorem dM_growTrees_111 : decode cM_growTrees 111 = .ok (.iload_n 1, 1) := by decide +kernel
theorem dM_growTrees_112 : decode cM_growTrees 112 = .ok (.aload_n 0, 1) := by decide +kernel
theorem dM_growTrees_113 : decode cM_growTrees 113 = .ok (.getfield 100, 3) := by decide +kernel
theorem dM_growTrees_116 : decode cM_growTrees 116 = .ok (.if_icmp .ge 38, 3) := by decide +kernel
theorem dM_growTrees_119 : decode cM_growTrees 119 = .ok (.aload_n 0, 1) := by decide +kernel
theorem dM_growTrees_120 : decode cM_growTrees 120 = .ok (.getfield 25, 3) := by decide +kernel
theorem dM_growTrees_123 : decode cM_growTrees 123 = .ok (.iload_n 1, 1) := by decide +kernel
theorem dM_growTrees_124 : decode cM_growTrees 124 = .ok (.baload, 1) := by decide +kernel
theorem dM_growTrees_125 : decode cM_growTrees 125 = .ok (.ifCond .eq 23, 3) := by decide +kernel
theorem dM_growTrees_128 : decode cM_growTrees 128 = .ok (.aload_n 0, 1) := by decide +kernel
theorem dM_growTrees_129 : decode cM_growTrees 129 = .ok (.getfield 53, 3) := by decide +kernel
theorem dM_growTrees_132 : decode cM_growTrees 132 = .ok (.bipush 24, 2) := by decide +kernel
theorem dM_growTrees_134 : decode cM_growTrees 134 = .ok (.iload_n 1, 1) := by decide +kernel
theorem dM_growTrees_135 : decode cM_growTrees 135 = .ok (.iadd, 1) := by decide +kernel
theorem dM_growTrees_136 : decode cM_growTrees 136 = .ok (.aload_n 0, 1) := by decide +kernel
theorem dM_growTrees_137 : decode cM_growTrees 137 = .ok (.iconst 0, 1) := by decide +kernel
theorem dM_growTrees_138 : decode cM_growTrees 138 = .ok (.aload_n 0, 1) := by decide +kernel
theorem dM_growTrees_139 : decode cM_growTrees 139 = .ok (.getfield 13, 3) := by decide +kernel
theorem dM_growTrees_142 : decode cM_growTrees 142 = .ok (.iload_n 1, 1) := by decide +kernel
theorem dM_growTrees_143 : decode cM_growTrees 143 = .ok (.iaload, 1) := by decide +kernel
theorem dM_growTrees_144 : decode cM_growTrees 144 = .ok (.invokevirtual 125, 3) := by decide +kernel
theorem dM_growTrees_147 : decode cM_growTrees 147 = .ok (.bastore, 1) := by decide +kernel
theorem dM_growTrees_148 : decode cM_growTrees 148 = .ok (.iinc 1 1, 3) := by decide +kernel
theorem dM_growTrees_151 : decode cM_growTrees 151 = .ok (.goto (-40), 3) := by decide +kernel
theorem dM_growTrees_154 : decode cM_growTrees 154 = .ok (.iconst 0, 1) := by decide +kernel
theorem dM_growTrees_155 : decode cM_growTrees 155 = .ok (.istore_n 1, 1) := by decide +kernel
theorem dM_growTrees_156 : decode cM_growTrees 156 = .ok (.iload_n 1, 1) := by decide +kernel
theorem dM_growTrees_157 : decode cM_growTrees 157 = .ok (.aload_n 0, 1) := by decide +kernel
theorem dM_growTrees_158 : decode cM_growTrees 158 = .ok (.getfield 100, 3) := by decide +kernel
theorem dM_growTrees_161 : decode cM_growTrees 161 = .ok (.if_icmp .ge 35, 3) := by decide +kernel
theorem dM_growTrees_164 : decode cM_growTrees 164 = .ok (.aload_n 0, 1) := by decide +kernel
theorem dM_growTrees_165 : decode cM_growTrees 165 = .ok (.getfield 25, 3) := by decide +kernel
theorem dM_growTrees_168 : decode cM_growTrees 168 = .ok (.iload_n 1, 1) := by decide +kernel
theorem dM_growTrees_169 : decode cM_growTrees 169 = .ok (.baload, 1) := by decide +kernel
theorem dM_growTrees_170 : decode cM_growTrees 170 = .ok (.ifCond .eq 20, 3) := by decide +kernel
theorem dM_growTrees_173 : decode cM_growTrees 173 = .ok (.aload_n 0, 1) := by decide +kernel
theorem dM_growTrees_174 : decode cM_growTrees 174 = .ok (.getfield 53, 3) := by decide +kernel
theorem dM_growTrees_177 : decode cM_growTrees 177 = .ok (.iload_n 1, 1) := by decide +kernel
theorem dM_growTrees_178 : decode cM_growTrees 178 = .ok (.aload_n 0, 1) := by decide +kernel
theorem dM_growTrees_179 : decode cM_growTrees 179 = .ok (.aload_n 0, 1) := by decide +kernel
theorem dM_growTrees_180 : decode cM_growTrees 180 = .ok (.getfield 7, 3) := by decide +kernel
theorem dM_growTrees_183 : decode cM_growTrees 183 = .ok (.iload_n 1, 1) := by decide +kernel
theorem dM_growTrees_184 : decode cM_growTrees 184 = .ok (.iaload, 1) := by decide +kernel
theorem dM_growTrees_185 : decode cM_growTrees 185 = .ok (.iconst 1, 1) := by decide +kernel
theorem dM_growTrees_186 : decode cM_growTrees 186 = .ok (.invokevirtual 125, 3) := by decide +kernel
theorem dM_growTrees_189 : decode cM_growTrees 189 = .ok (.bastore, 1) := by decide +kernel
theorem dM_growTrees_190 : decode cM_growTrees 190 = .ok (.iinc 1 1, 3) := by decide +kernel
theorem dM_growTrees_193 : decode cM_growTrees 193 = .ok (.goto (-37), 3) := by decide +kernel
theorem dM_growTrees_196 : decode cM_growTrees 196 = .ok (.return_, 1) := by decide +kernel
theorem dM_layLinks_0 : decode cM_layLinks 0 = .ok (.iconst 0, 1) := by decide +kernel
theorem dM_layLinks_1 : decode cM_layLinks 1 = .ok (.istore_n 1, 1) := by decide +kernel
theorem dM_layLinks_2 : decode cM_layLinks 2 = .ok (.iload_n 1, 1) := by decide +kernel
theorem dM_layLinks_3 : decode cM_layLinks 3 = .ok (.bipush 24, 2) := by decide +kernel
theorem dM_layLinks_5 : decode cM_layLinks 5 = .ok (.if_icmp .ge 129, 3) := by decide +kernel
theorem dM_layLinks_8 : decode cM_layLinks 8 = .ok (.aload_n 0, 1) := by decide +kernel
theorem dM_layLinks_9 : decode cM_layLinks 9 = .ok (.getfield 41, 3) := by decide +kernel
theorem dM_layLinks_12 : decode cM_layLinks 12 = .ok (.iload_n 1, 1) := by decide +kernel
theorem dM_layLinks_13 : decode cM_layLinks 13 = .ok (.iload_n 1, 1) := by decide +kernel
theorem dM_layLinks_14 : decode cM_layLinks 14 = .ok (.aload_n 0, 1) := by decide +kernel
theorem dM_layLinks_15 : decode cM_layLinks 15 = .ok (.getfield 100, 3) := by decide +kernel
theorem dM_layLinks_18 : decode cM_layLinks 18 = .ok (.if_icmp .ge 7, 3) := by decide +kernel
theorem dM_layLinks_21 : decode cM_layLinks 21 = .ok (.iconst 1, 1) := by decide +kernel
theorem dM_layLinks_22 : decode cM_layLinks 22 = .ok (.goto 4, 3) := by decide +kernel
theorem dM_layLinks_25 : decode cM_layLinks 25 = .ok (.iconst 0, 1) := by decide +kernel
theorem dM_layLinks_26 : decode cM_layLinks 26 = .ok (.bastore, 1) := by decide +kernel
theorem dM_layLinks_27 : decode cM_layLinks 27 = .ok (.aload_n 0, 1) := by decide +kernel
theorem dM_layLinks_28 : decode cM_layLinks 28 = .ok (.getfield 41, 3) := by decide +kernel
theorem dM_layLinks_31 : decode cM_layLinks 31 = .ok (.bipush 24, 2) := by decide +kernel
theorem dM_layLinks_33 : decode cM_layLinks 33 = .ok (.iload_n 1, 1) := by decide +kernel
theorem dM_layLinks_34 : decode cM_layLinks 34 = .ok (.iadd, 1) := by decide +kernel
theorem dM_layLinks_35 : decode cM_layLinks 35 = .ok (.iload_n 1, 1) := by decide +kernel
theorem dM_layLinks_36 : decode cM_layLinks 36 = .ok (.aload_n 0, 1) := by decide +kernel
theorem dM_layLinks_37 : decode cM_layLinks 37 = .ok (.getfield 100, 3) := by decide +kernel
theorem dM_layLinks_40 : decode cM_layLinks 40 = .ok (.if_icmp .ge 16, 3) := by decide +kernel
theorem dM_layLinks_43 : decode cM_layLinks 43 = .ok (.aload_n 0, 1) := by decide +kernel
theorem dM_layLinks_44 : decode cM_layLinks 44 = .ok (.getfield 25, 3) := by decide +kernel
theorem dM_layLinks_47 : decode cM_layLinks 47 = .ok (.iload_n 1, 1) := by decide +kernel
theorem dM_layLinks_48 : decode cM_layLinks 48 = .ok (.baload, 1) := by decide +kernel
theorem dM_layLinks_49 : decode cM_layLinks 49 = .ok (.ifCond .eq 7, 3) := by decide +kernel
theorem dM_layLinks_52 : decode cM_layLinks 52 = .ok (.iconst 1, 1) := by decide +kernel
theorem dM_layLinks_53 : decode cM_layLinks 53 = .ok (.goto 4, 3) := by decide +kernel
theorem dM_layLinks_56 : decode cM_layLinks 56 = .ok (.iconst 0, 1) := by decide +kernel
theorem dM_layLinks_57 : decode cM_layLinks 57 = .ok (.bastore, 1) := by decide +kernel
theorem dM_layLinks_58 : decode cM_layLinks 58 = .ok (.iload_n 1, 1) := by decide +kernel
theorem dM_layLinks_59 : decode cM_layLinks 59 = .ok (.aload_n 0, 1) := by decide +kernel
theorem dM_layLinks_60 : decode cM_layLinks 60 = .ok (.getfield 100, 3) := by decide +kernel
theorem dM_layLinks_63 : decode cM_layLinks 63 = .ok (.if_icmp .ge 65, 3) := by decide +kernel
theorem dM_layLinks_66 : decode cM_layLinks 66 = .ok (.aload_n 0, 1) := by decide +kernel
theorem dM_layLinks_67 : decode cM_layLinks 67 = .ok (.getfield 44, 3) := by decide +kernel
theorem dM_layLinks_70 : decode cM_layLinks 70 = .ok (.iload_n 1, 1) := by decide +kernel
theorem dM_layLinks_71 : decode cM_layLinks 71 = .ok (.aload_n 0, 1) := by decide +kernel
theorem dM_layLinks_72 : decode cM_layLinks 72 = .ok (.getfield 7, 3) := by decide +kernel
theorem dM_layLinks_75 : decode cM_layLinks 75 = .ok (.iload_n 1, 1) := by decide +kernel
theorem dM_layLinks_76 : decode cM_layLinks 76 = .ok (.iaload, 1) := by decide +kernel
theorem dM_layLinks_77 : decode cM_layLinks 77 = .ok (.iastore, 1) := by decide +kernel
theorem dM_layLinks_78 : decode cM_layLinks 78 = .ok (.aload_n 0, 1) := by decide +kernel
theorem dM_layLinks_79 : decode cM_layLinks 79 = .ok (.getfield 47, 3) := by decide +kernel
theorem dM_layLinks_82 : decode cM_layLinks 82 = .ok (.iload_n 1, 1) := by decide +kernel
theorem dM_layLinks_83 : decode cM_layLinks 83 = .ok (.aload_n 0, 1) := by decide +kernel
theorem dM_layLinks_84 : decode cM_layLinks 84 = .ok (.getfield 25, 3) := by decide +kernel
theorem dM_layLinks_87 : decode cM_layLinks 87 = .ok (.iload_n 1, 1) := by decide +kernel
theorem dM_layLinks_88 : decode cM_layLinks 88 = .ok (.baload, 1) := by decide +kernel
theorem dM_layLinks_89 : decode cM_layLinks 89 = .ok (.ifCond .eq 7, 3) := by decide +kernel
theorem dM_layLinks_92 : decode cM_layLinks 92 = .ok (.iconst 1, 1) := by decide +kernel
theorem dM_layLinks_93 : decode cM_layLinks 93 = .ok (.goto 9, 3) := by decide +kernel
theorem dM_layLinks_96 : decode cM_layLinks 96 = .ok (.aload_n 0, 1) := by decide +kernel
theorem dM_layLinks_97 : decode cM_layLinks 97 = .ok (.getfield 13, 3) := by decide +kernel
theorem dM_layLinks_100 : decode cM_layLinks 100 = .ok (.iload_n 1, 1) := by decide +kernel
theorem dM_layLinks_101 : decode cM_layLinks 101 = .ok (.iaload, 1) := by decide +kernel
theorem dM_layLinks_102 : decode cM_layLinks 102 = .ok (.iastore, 1) := by decide +kernel
theorem dM_layLinks_103 : decode cM_layLinks 103 = .ok (.aload_n 0, 1) := by decide +kernel
theorem dM_layLinks_104 : decode cM_layLinks 104 = .ok (.getfield 44, 3) := by decide +kernel
theorem dM_layLinks_107 : decode cM_layLinks 107 = .ok (.bipush 24, 2) := by decide +kernel
theorem dM_layLinks_109 : decode cM_layLinks 109 = .ok (.iload_n 1, 1) := by decide +kernel
theorem dM_layLinks_110 : decode cM_layLinks 110 = .ok (.iadd, 1) := by decide +kernel
theorem dM_layLinks_111 : decode cM_layLinks 111 = .ok (.iconst 0, 1) := by decide +kernel
theorem dM_layLinks_112 : decode cM_layLinks 112 = .ok (.iastore, 1) := by decide +kernel
theorem dM_layLinks_113 : decode cM_layLinks 113 = .ok (.aload_n 0, 1) := by decide +kernel
theorem dM_layLinks_114 : decode cM_layLinks 114 = .ok (.getfield 47, 3) := by decide +kernel
theorem dM_layLinks_117 : decode cM_layLinks 117 = .ok (.bipush 24, 2) := by decide +kernel
theorem dM_layLinks_119 : decode cM_layLinks 119 = .ok (.iload_n 1, 1) := by decide +kernel
theorem dM_layLinks_120 : decode cM_layLinks 120 = .ok (.iadd, 1) := by decide +kernel
theorem dM_layLinks_121 : decode cM_layLinks 121 = .ok (.aload_n 0, 1) := by decide +kernel
theorem dM_layLinks_122 : decode cM_layLinks 122 = .ok (.getfield 13, 3) := by decide +kernel
theorem dM_layLinks_125 : decode cM_layLinks 125 = .ok (.iload_n 1, 1) := by decide +kernel
theorem dM_layLinks_126 : decode cM_layLinks 126 = .ok (.iaload, 1) := by decide +kernel
theorem dM_layLinks_127 : decode cM_layLinks 127 = .ok (.iastore, 1) := by decide +kernel
theorem dM_layLinks_128 : decode cM_layLinks 128 = .ok (.iinc 1 1, 3) := by decide +kernel
theorem dM_layLinks_131 : decode cM_layLinks 131 = .ok (.goto (-129), 3) := by decide +kernel
theorem dM_layLinks_134 : decode cM_layLinks 134 = .ok (.iconst 0, 1) := by decide +kernel
theorem dM_layLinks_135 : decode cM_layLinks 135 = .ok (.istore_n 1, 1) := by decide +kernel
theorem dM_layLinks_136 : decode cM_layLinks 136 = .ok (.iload_n 1, 1) := by decide +kernel
theorem dM_layLinks_137 : decode cM_layLinks 137 = .ok (.aload_n 0, 1) := by decide +kernel
theorem dM_layLinks_138 : decode cM_layLinks 138 = .ok (.getfield 92, 3) := by decide +kernel
theorem dM_layLinks_141 : decode cM_layLinks 141 = .ok (.if_icmp .ge 25, 3) := by decide +kernel
