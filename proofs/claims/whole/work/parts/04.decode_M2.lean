/-! rows that decode, M -/
theorem dM_layLinks_144 : decode cM_layLinks 144 = .ok (.aload_n 0, 1) := by decide +kernel
theorem dM_layLinks_145 : decode cM_layLinks 145 = .ok (.getfield 50, 3) := by decide +kernel
theorem dM_layLinks_148 : decode cM_layLinks 148 = .ok (.iload_n 1, 1) := by decide +kernel
theorem dM_layLinks_149 : decode cM_layLinks 149 = .ok (.iload_n 1, 1) := by decide +kernel
theorem dM_layLinks_150 : decode cM_layLinks 150 = .ok (.iconst 1, 1) := by decide +kernel
theorem dM_layLinks_151 : decode cM_layLinks 151 = .ok (.if_icmp .ne 7, 3) := by decide +kernel
theorem dM_layLinks_154 : decode cM_layLinks 154 = .ok (.iconst 1, 1) := by decide +kernel
theorem dM_layLinks_155 : decode cM_layLinks 155 = .ok (.goto 4, 3) := by decide +kernel
theorem dM_layLinks_158 : decode cM_layLinks 158 = .ok (.iconst 0, 1) := by decide +kernel
theorem dM_layLinks_159 : decode cM_layLinks 159 = .ok (.iastore, 1) := by decide +kernel
theorem dM_layLinks_160 : decode cM_layLinks 160 = .ok (.iinc 1 1, 3) := by decide +kernel
theorem dM_layLinks_163 : decode cM_layLinks 163 = .ok (.goto (-27), 3) := by decide +kernel
theorem dM_layLinks_166 : decode cM_layLinks 166 = .ok (.iconst 0, 1) := by decide +kernel
theorem dM_layLinks_167 : decode cM_layLinks 167 = .ok (.istore_n 1, 1) := by decide +kernel
theorem dM_layLinks_168 : decode cM_layLinks 168 = .ok (.iload_n 1, 1) := by decide +kernel
theorem dM_layLinks_169 : decode cM_layLinks 169 = .ok (.aload_n 0, 1) := by decide +kernel
theorem dM_layLinks_170 : decode cM_layLinks 170 = .ok (.getfield 92, 3) := by decide +kernel
theorem dM_layLinks_173 : decode cM_layLinks 173 = .ok (.if_icmp .ge 47, 3) := by decide +kernel
theorem dM_layLinks_176 : decode cM_layLinks 176 = .ok (.iconst 0, 1) := by decide +kernel
theorem dM_layLinks_177 : decode cM_layLinks 177 = .ok (.istore_n 2, 1) := by decide +kernel
theorem dM_layLinks_178 : decode cM_layLinks 178 = .ok (.iload_n 2, 1) := by decide +kernel
theorem dM_layLinks_179 : decode cM_layLinks 179 = .ok (.aload_n 0, 1) := by decide +kernel
theorem dM_layLinks_180 : decode cM_layLinks 180 = .ok (.getfield 92, 3) := by decide +kernel
theorem dM_layLinks_183 : decode cM_layLinks 183 = .ok (.if_icmp .ge 31, 3) := by decide +kernel
theorem dM_layLinks_186 : decode cM_layLinks 186 = .ok (.aload_n 0, 1) := by decide +kernel
theorem dM_layLinks_187 : decode cM_layLinks 187 = .ok (.getfield 50, 3) := by decide +kernel
theorem dM_layLinks_190 : decode cM_layLinks 190 = .ok (.iload_n 2, 1) := by decide +kernel
theorem dM_layLinks_191 : decode cM_layLinks 191 = .ok (.iload_n 2, 1) := by decide +kernel
theorem dM_layLinks_192 : decode cM_layLinks 192 = .ok (.iconst 1, 1) := by decide +kernel
theorem dM_layLinks_193 : decode cM_layLinks 193 = .ok (.if_icmp .ne 7, 3) := by decide +kernel
theorem dM_layLinks_196 : decode cM_layLinks 196 = .ok (.iconst 1, 1) := by decide +kernel
theorem dM_layLinks_197 : decode cM_layLinks 197 = .ok (.goto 10, 3) := by decide +kernel
theorem dM_layLinks_200 : decode cM_layLinks 200 = .ok (.aload_n 0, 1) := by decide +kernel
theorem dM_layLinks_201 : decode cM_layLinks 201 = .ok (.iload_n 2, 1) := by decide +kernel
theorem dM_layLinks_202 : decode cM_layLinks 202 = .ok (.bipush 48, 2) := by decide +kernel
theorem dM_layLinks_204 : decode cM_layLinks 204 = .ok (.invokevirtual 128, 3) := by decide +kernel
theorem dM_layLinks_207 : decode cM_layLinks 207 = .ok (.iastore, 1) := by decide +kernel
theorem dM_layLinks_208 : decode cM_layLinks 208 = .ok (.iinc 2 1, 3) := by decide +kernel
theorem dM_layLinks_211 : decode cM_layLinks 211 = .ok (.goto (-33), 3) := by decide +kernel
theorem dM_layLinks_214 : decode cM_layLinks 214 = .ok (.iinc 1 1, 3) := by decide +kernel
theorem dM_layLinks_217 : decode cM_layLinks 217 = .ok (.goto (-49), 3) := by decide +kernel
theorem dM_layLinks_220 : decode cM_layLinks 220 = .ok (.return_, 1) := by decide +kernel
theorem dM_rowsBefore_0 : decode cM_rowsBefore 0 = .ok (.iconst 0, 1) := by decide +kernel
theorem dM_rowsBefore_1 : decode cM_rowsBefore 1 = .ok (.istore_n 3, 1) := by decide +kernel
theorem dM_rowsBefore_2 : decode cM_rowsBefore 2 = .ok (.iconst 0, 1) := by decide +kernel
theorem dM_rowsBefore_3 : decode cM_rowsBefore 3 = .ok (.istore 4, 2) := by decide +kernel
theorem dM_rowsBefore_5 : decode cM_rowsBefore 5 = .ok (.iload 4, 2) := by decide +kernel
theorem dM_rowsBefore_7 : decode cM_rowsBefore 7 = .ok (.iload_n 2, 1) := by decide +kernel
theorem dM_rowsBefore_8 : decode cM_rowsBefore 8 = .ok (.if_icmp .ge 45, 3) := by decide +kernel
theorem dM_rowsBefore_11 : decode cM_rowsBefore 11 = .ok (.aload_n 0, 1) := by decide +kernel
theorem dM_rowsBefore_12 : decode cM_rowsBefore 12 = .ok (.getfield 41, 3) := by decide +kernel
theorem dM_rowsBefore_15 : decode cM_rowsBefore 15 = .ok (.iload 4, 2) := by decide +kernel
theorem dM_rowsBefore_17 : decode cM_rowsBefore 17 = .ok (.baload, 1) := by decide +kernel
theorem dM_rowsBefore_18 : decode cM_rowsBefore 18 = .ok (.ifCond .eq 29, 3) := by decide +kernel
theorem dM_rowsBefore_21 : decode cM_rowsBefore 21 = .ok (.aload_n 0, 1) := by decide +kernel
theorem dM_rowsBefore_22 : decode cM_rowsBefore 22 = .ok (.getfield 44, 3) := by decide +kernel
theorem dM_rowsBefore_25 : decode cM_rowsBefore 25 = .ok (.iload 4, 2) := by decide +kernel
theorem dM_rowsBefore_27 : decode cM_rowsBefore 27 = .ok (.iaload, 1) := by decide +kernel
theorem dM_rowsBefore_28 : decode cM_rowsBefore 28 = .ok (.iload_n 1, 1) := by decide +kernel
theorem dM_rowsBefore_29 : decode cM_rowsBefore 29 = .ok (.if_icmp .ne 18, 3) := by decide +kernel
theorem dM_rowsBefore_32 : decode cM_rowsBefore 32 = .ok (.iload_n 3, 1) := by decide +kernel
theorem dM_rowsBefore_33 : decode cM_rowsBefore 33 = .ok (.aload_n 0, 1) := by decide +kernel
theorem dM_rowsBefore_34 : decode cM_rowsBefore 34 = .ok (.getfield 50, 3) := by decide +kernel
theorem dM_rowsBefore_37 : decode cM_rowsBefore 37 = .ok (.aload_n 0, 1) := by decide +kernel
theorem dM_rowsBefore_38 : decode cM_rowsBefore 38 = .ok (.getfield 47, 3) := by decide +kernel
theorem dM_rowsBefore_41 : decode cM_rowsBefore 41 = .ok (.iload 4, 2) := by decide +kernel
theorem dM_rowsBefore_43 : decode cM_rowsBefore 43 = .ok (.iaload, 1) := by decide +kernel
theorem dM_rowsBefore_44 : decode cM_rowsBefore 44 = .ok (.iaload, 1) := by decide +kernel
theorem dM_rowsBefore_45 : decode cM_rowsBefore 45 = .ok (.iadd, 1) := by decide +kernel
theorem dM_rowsBefore_46 : decode cM_rowsBefore 46 = .ok (.istore_n 3, 1) := by decide +kernel
theorem dM_rowsBefore_47 : decode cM_rowsBefore 47 = .ok (.iinc 4 1, 3) := by decide +kernel
theorem dM_rowsBefore_50 : decode cM_rowsBefore 50 = .ok (.goto (-45), 3) := by decide +kernel
theorem dM_rowsBefore_53 : decode cM_rowsBefore 53 = .ok (.iload_n 3, 1) := by decide +kernel
theorem dM_rowsBefore_54 : decode cM_rowsBefore 54 = .ok (.ireturn, 1) := by decide +kernel
theorem dM_value_0 : decode cM_value 0 = .ok (.aload_n 0, 1) := by decide +kernel
theorem dM_value_1 : decode cM_value 1 = .ok (.aload_n 0, 1) := by decide +kernel
theorem dM_value_2 : decode cM_value 2 = .ok (.getfield 44, 3) := by decide +kernel
theorem dM_value_5 : decode cM_value 5 = .ok (.iload_n 1, 1) := by decide +kernel
theorem dM_value_6 : decode cM_value 6 = .ok (.iaload, 1) := by decide +kernel
theorem dM_value_7 : decode cM_value 7 = .ok (.iload_n 1, 1) := by decide +kernel
theorem dM_value_8 : decode cM_value 8 = .ok (.invokevirtual 128, 3) := by decide +kernel
theorem dM_value_11 : decode cM_value 11 = .ok (.ireturn, 1) := by decide +kernel
theorem dM_findBases_0 : decode cM_findBases 0 = .ok (.iconst 0, 1) := by decide +kernel
theorem dM_findBases_1 : decode cM_findBases 1 = .ok (.istore_n 1, 1) := by decide +kernel
theorem dM_findBases_2 : decode cM_findBases 2 = .ok (.iload_n 1, 1) := by decide +kernel
theorem dM_findBases_3 : decode cM_findBases 3 = .ok (.aload_n 0, 1) := by decide +kernel
theorem dM_findBases_4 : decode cM_findBases 4 = .ok (.getfield 92, 3) := by decide +kernel
theorem dM_findBases_7 : decode cM_findBases 7 = .ok (.if_icmp .ge 32, 3) := by decide +kernel
theorem dM_findBases_10 : decode cM_findBases 10 = .ok (.aload_n 0, 1) := by decide +kernel
theorem dM_findBases_11 : decode cM_findBases 11 = .ok (.getfield 56, 3) := by decide +kernel
theorem dM_findBases_14 : decode cM_findBases 14 = .ok (.iload_n 1, 1) := by decide +kernel
theorem dM_findBases_15 : decode cM_findBases 15 = .ok (.iload_n 1, 1) := by decide +kernel
theorem dM_findBases_16 : decode cM_findBases 16 = .ok (.iconst 2, 1) := by decide +kernel
theorem dM_findBases_17 : decode cM_findBases 17 = .ok (.if_icmp .ge 7, 3) := by decide +kernel
theorem dM_findBases_20 : decode cM_findBases 20 = .ok (.iconst 1, 1) := by decide +kernel
theorem dM_findBases_21 : decode cM_findBases 21 = .ok (.goto 4, 3) := by decide +kernel
theorem dM_findBases_24 : decode cM_findBases 24 = .ok (.iconst 0, 1) := by decide +kernel
theorem dM_findBases_25 : decode cM_findBases 25 = .ok (.bastore, 1) := by decide +kernel
theorem dM_findBases_26 : decode cM_findBases 26 = .ok (.aload_n 0, 1) := by decide +kernel
theorem dM_findBases_27 : decode cM_findBases 27 = .ok (.getfield 59, 3) := by decide +kernel
theorem dM_findBases_30 : decode cM_findBases 30 = .ok (.iload_n 1, 1) := by decide +kernel
theorem dM_findBases_31 : decode cM_findBases 31 = .ok (.iconst 0, 1) := by decide +kernel
theorem dM_findBases_32 : decode cM_findBases 32 = .ok (.iastore, 1) := by decide +kernel
theorem dM_findBases_33 : decode cM_findBases 33 = .ok (.iinc 1 1, 3) := by decide +kernel
theorem dM_findBases_36 : decode cM_findBases 36 = .ok (.goto (-34), 3) := by decide +kernel
theorem dM_findBases_39 : decode cM_findBases 39 = .ok (.iconst 0, 1) := by decide +kernel
theorem dM_findBases_40 : decode cM_findBases 40 = .ok (.istore_n 1, 1) := by decide +kernel
theorem dM_findBases_41 : decode cM_findBases 41 = .ok (.iload_n 1, 1) := by decide +kernel
theorem dM_findBases_42 : decode cM_findBases 42 = .ok (.aload_n 0, 1) := by decide +kernel
theorem dM_findBases_43 : decode cM_findBases 43 = .ok (.getfield 92, 3) := by decide +kernel
theorem dM_findBases_46 : decode cM_findBases 46 = .ok (.if_icmp .ge 150, 3) := by decide +kernel
theorem dM_findBases_49 : decode cM_findBases 49 = .ok (.iconst 0, 1) := by decide +kernel
theorem dM_findBases_50 : decode cM_findBases 50 = .ok (.istore_n 2, 1) := by decide +kernel
theorem dM_findBases_51 : decode cM_findBases 51 = .ok (.iload_n 2, 1) := by decide +kernel
theorem dM_findBases_52 : decode cM_findBases 52 = .ok (.bipush 48, 2) := by decide +kernel
theorem dM_findBases_54 : decode cM_findBases 54 = .ok (.if_icmp .ge 136, 3) := by decide +kernel
theorem dM_findBases_57 : decode cM_findBases 57 = .ok (.aload_n 0, 1) := by decide +kernel
theorem dM_findBases_58 : decode cM_findBases 58 = .ok (.getfield 41, 3) := by decide +kernel
theorem dM_findBases_61 : decode cM_findBases 61 = .ok (.iload_n 2, 1) := by decide +kernel
theorem dM_findBases_62 : decode cM_findBases 62 = .ok (.baload, 1) := by decide +kernel
theorem dM_findBases_63 : decode cM_findBases 63 = .ok (.ifCond .eq 121, 3) := by decide +kernel
theorem dM_findBases_66 : decode cM_findBases 66 = .ok (.aload_n 0, 1) := by decide +kernel
theorem dM_findBases_67 : decode cM_findBases 67 = .ok (.getfield 53, 3) := by decide +kernel
theorem dM_findBases_70 : decode cM_findBases 70 = .ok (.iload_n 2, 1) := by decide +kernel
theorem dM_findBases_71 : decode cM_findBases 71 = .ok (.baload, 1) := by decide +kernel
theorem dM_findBases_72 : decode cM_findBases 72 = .ok (.ifCond .eq 112, 3) := by decide +kernel
theorem dM_findBases_75 : decode cM_findBases 75 = .ok (.aload_n 0, 1) := by decide +kernel
theorem dM_findBases_76 : decode cM_findBases 76 = .ok (.getfield 44, 3) := by decide +kernel
theorem dM_findBases_79 : decode cM_findBases 79 = .ok (.iload_n 2, 1) := by decide +kernel
theorem dM_findBases_80 : decode cM_findBases 80 = .ok (.iaload, 1) := by decide +kernel
theorem dM_findBases_81 : decode cM_findBases 81 = .ok (.istore_n 3, 1) := by decide +kernel
theorem dM_findBases_82 : decode cM_findBases 82 = .ok (.aload_n 0, 1) := by decide +kernel
theorem dM_findBases_83 : decode cM_findBases 83 = .ok (.getfield 47, 3) := by decide +kernel
theorem dM_findBases_86 : decode cM_findBases 86 = .ok (.iload_n 2, 1) := by decide +kernel
theorem dM_findBases_87 : decode cM_findBases 87 = .ok (.iaload, 1) := by decide +kernel
theorem dM_findBases_88 : decode cM_findBases 88 = .ok (.istore 4, 2) := by decide +kernel
theorem dM_findBases_90 : decode cM_findBases 90 = .ok (.aload_n 0, 1) := by decide +kernel
theorem dM_findBases_91 : decode cM_findBases 91 = .ok (.getfield 56, 3) := by decide +kernel
theorem dM_findBases_94 : decode cM_findBases 94 = .ok (.iload_n 3, 1) := by decide +kernel
theorem dM_findBases_95 : decode cM_findBases 95 = .ok (.baload, 1) := by decide +kernel
theorem dM_findBases_96 : decode cM_findBases 96 = .ok (.ifCond .eq 43, 3) := by decide +kernel
theorem dM_findBases_99 : decode cM_findBases 99 = .ok (.aload_n 0, 1) := by decide +kernel
theorem dM_findBases_100 : decode cM_findBases 100 = .ok (.getfield 56, 3) := by decide +kernel
theorem dM_findBases_103 : decode cM_findBases 103 = .ok (.iload 4, 2) := by decide +kernel
theorem dM_findBases_105 : decode cM_findBases 105 = .ok (.baload, 1) := by decide +kernel
theorem dM_findBases_106 : decode cM_findBases 106 = .ok (.ifCond .ne 33, 3) := by decide +kernel
theorem dM_findBases_109 : decode cM_findBases 109 = .ok (.aload_n 0, 1) := by decide +kernel
theorem dM_findBases_110 : decode cM_findBases 110 = .ok (.getfield 59, 3) := by decide +kernel
theorem dM_findBases_113 : decode cM_findBases 113 = .ok (.iload 4, 2) := by decide +kernel
theorem dM_findBases_115 : decode cM_findBases 115 = .ok (.aload_n 0, 1) := by decide +kernel
theorem dM_findBases_116 : decode cM_findBases 116 = .ok (.getfield 59, 3) := by decide +kernel
theorem dM_findBases_119 : decode cM_findBases 119 = .ok (.iload_n 3, 1) := by decide +kernel
theorem dM_findBases_120 : decode cM_findBases 120 = .ok (.iaload, 1) := by decide +kernel
theorem dM_findBases_121 : decode cM_findBases 121 = .ok (.aload_n 0, 1) := by decide +kernel
theorem dM_findBases_122 : decode cM_findBases 122 = .ok (.iload_n 2, 1) := by decide +kernel
theorem dM_findBases_123 : decode cM_findBases 123 = .ok (.invokevirtual 132, 3) := by decide +kernel
theorem dM_findBases_126 : decode cM_findBases 126 = .ok (.iadd, 1) := by decide +kernel
theorem dM_findBases_127 : decode cM_findBases 127 = .ok (.iastore, 1) := by decide +kernel
theorem dM_findBases_128 : decode cM_findBases 128 = .ok (.aload_n 0, 1) := by decide +kernel
theorem dM_findBases_129 : decode cM_findBases 129 = .ok (.getfield 56, 3) := by decide +kernel
theorem dM_findBases_132 : decode cM_findBases 132 = .ok (.iload 4, 2) := by decide +kernel
theorem dM_findBases_134 : decode cM_findBases 134 = .ok (.iconst 1, 1) := by decide +kernel
theorem dM_findBases_135 : decode cM_findBases 135 = .ok (.bastore, 1) := by decide +kernel
theorem dM_findBases_136 : decode cM_findBases 136 = .ok (.goto 48, 3) := by decide +kernel
theorem dM_findBases_139 : decode cM_findBases 139 = .ok (.aload_n 0, 1) := by decide +kernel
theorem dM_findBases_140 : decode cM_findBases 140 = .ok (.getfield 56, 3) := by decide +kernel
theorem dM_findBases_143 : decode cM_findBases 143 = .ok (.iload 4, 2) := by decide +kernel
theorem dM_findBases_145 : decode cM_findBases 145 = .ok (.baload, 1) := by decide +kernel
theorem dM_findBases_146 : decode cM_findBases 146 = .ok (.ifCond .eq 38, 3) := by decide +kernel
theorem dM_findBases_149 : decode cM_findBases 149 = .ok (.aload_n 0, 1) := by decide +kernel
theorem dM_findBases_150 : decode cM_findBases 150 = .ok (.getfield 56, 3) := by decide +kernel
theorem dM_findBases_153 : decode cM_findBases 153 = .ok (.iload_n 3, 1) := by decide +kernel
theorem dM_findBases_154 : decode cM_findBases 154 = .ok (.baload, 1) := by decide +kernel
theorem dM_findBases_155 : decode cM_findBases 155 = .ok (.ifCond .ne 29, 3) := by decide +kernel
theorem dM_findBases_158 : decode cM_findBases 158 = .ok (.aload_n 0, 1) := by decide +kernel
theorem dM_findBases_159 : decode cM_findBases 159 = .ok (.getfield 59, 3) := by decide +kernel
theorem dM_findBases_162 : decode cM_findBases 162 = .ok (.iload_n 3, 1) := by decide +kernel
theorem dM_findBases_163 : decode cM_findBases 163 = .ok (.aload_n 0, 1) := by decide +kernel
theorem dM_findBases_164 : decode cM_findBases 164 = .ok (.getfield 59, 3) := by decide +kernel
theorem dM_findBases_167 : decode cM_findBases 167 = .ok (.iload 4, 2) := by decide +kernel
theorem dM_findBases_169 : decode cM_findBases 169 = .ok (.iaload, 1) := by decide +kernel
theorem dM_findBases_170 : decode cM_findBases 170 = .ok (.aload_n 0, 1) := by decide +kernel
theorem dM_findBases_171 : decode cM_findBases 171 = .ok (.iload_n 2, 1) := by decide +kernel
theorem dM_findBases_172 : decode cM_findBases 172 = .ok (.invokevirtual 132, 3) := by decide +kernel
theorem dM_findBases_175 : decode cM_findBases 175 = .ok (.isub, 1) := by decide +kernel
theorem dM_findBases_176 : decode cM_findBases 176 = .ok (.iastore, 1) := by decide +kernel
theorem dM_findBases_177 : decode cM_findBases 177 = .ok (.aload_n 0, 1) := by decide +kernel
theorem dM_findBases_178 : decode cM_findBases 178 = .ok (.getfield 56, 3) := by decide +kernel
theorem dM_findBases_181 : decode cM_findBases 181 = .ok (.iload_n 3, 1) := by decide +kernel
theorem dM_findBases_182 : decode cM_findBases 182 = .ok (.iconst 1, 1) := by decide +kernel
theorem dM_findBases_183 : decode cM_findBases 183 = .ok (.bastore, 1) := by decide +kernel
theorem dM_findBases_184 : decode cM_findBases 184 = .ok (.iinc 2 1, 3) := by decide +kernel
theorem dM_findBases_187 : decode cM_findBases 187 = .ok (.goto (-136), 3) := by decide +kernel
theorem dM_findBases_190 : decode cM_findBases 190 = .ok (.iinc 1 1, 3) := by decide +kernel
theorem dM_findBases_193 : decode cM_findBases 193 = .ok (.goto (-152), 3) := by decide +kernel
theorem dM_findBases_196 : decode cM_findBases 196 = .ok (.return_, 1) := by decide +kernel
theorem dM_added_0 : decode cM_added 0 = .ok (.aload_n 0, 1) := by decide +kernel
theorem dM_added_1 : decode cM_added 1 = .ok (.iload_n 1, 1) := by decide +kernel
theorem dM_added_2 : decode cM_added 2 = .ok (.invokevirtual 132, 3) := by decide +kernel
theorem dM_added_5 : decode cM_added 5 = .ok (.aload_n 0, 1) := by decide +kernel
theorem dM_added_6 : decode cM_added 6 = .ok (.getfield 59, 3) := by decide +kernel
theorem dM_added_9 : decode cM_added 9 = .ok (.aload_n 0, 1) := by decide +kernel
theorem dM_added_10 : decode cM_added 10 = .ok (.getfield 44, 3) := by decide +kernel
theorem dM_added_13 : decode cM_added 13 = .ok (.iload_n 1, 1) := by decide +kernel
theorem dM_added_14 : decode cM_added 14 = .ok (.iaload, 1) := by decide +kernel
theorem dM_added_15 : decode cM_added 15 = .ok (.iaload, 1) := by decide +kernel
theorem dM_added_16 : decode cM_added 16 = .ok (.iadd, 1) := by decide +kernel
theorem dM_added_17 : decode cM_added 17 = .ok (.aload_n 0, 1) := by decide +kernel
theorem dM_added_18 : decode cM_added 18 = .ok (.getfield 59, 3) := by decide +kernel
theorem dM_added_21 : decode cM_added 21 = .ok (.aload_n 0, 1) := by decide +kernel
theorem dM_added_22 : decode cM_added 22 = .ok (.getfield 47, 3) := by decide +kernel
theorem dM_added_25 : decode cM_added 25 = .ok (.iload_n 1, 1) := by decide +kernel
theorem dM_added_26 : decode cM_added 26 = .ok (.iaload, 1) := by decide +kernel
theorem dM_added_27 : decode cM_added 27 = .ok (.iaload, 1) := by decide +kernel
theorem dM_added_28 : decode cM_added 28 = .ok (.isub, 1) := by decide +kernel
theorem dM_added_29 : decode cM_added 29 = .ok (.ireturn, 1) := by decide +kernel
theorem dM_linkAfter_0 : decode cM_linkAfter 0 = .ok (.iload_n 2, 1) := by decide +kernel
theorem dM_linkAfter_1 : decode cM_linkAfter 1 = .ok (.iconst 1, 1) := by decide +kernel
theorem dM_linkAfter_2 : decode cM_linkAfter 2 = .ok (.iadd, 1) := by decide +kernel
theorem dM_linkAfter_3 : decode cM_linkAfter 3 = .ok (.istore_n 3, 1) := by decide +kernel
theorem dM_linkAfter_4 : decode cM_linkAfter 4 = .ok (.iload_n 3, 1) := by decide +kernel
theorem dM_linkAfter_5 : decode cM_linkAfter 5 = .ok (.bipush 48, 2) := by decide +kernel
theorem dM_linkAfter_7 : decode cM_linkAfter 7 = .ok (.if_icmp .ge 29, 3) := by decide +kernel
theorem dM_linkAfter_10 : decode cM_linkAfter 10 = .ok (.aload_n 0, 1) := by decide +kernel
theorem dM_linkAfter_11 : decode cM_linkAfter 11 = .ok (.getfield 41, 3) := by decide +kernel
theorem dM_linkAfter_14 : decode cM_linkAfter 14 = .ok (.iload_n 3, 1) := by decide +kernel
theorem dM_linkAfter_15 : decode cM_linkAfter 15 = .ok (.baload, 1) := by decide +kernel
theorem dM_linkAfter_16 : decode cM_linkAfter 16 = .ok (.ifCond .eq 13, 3) := by decide +kernel
theorem dM_linkAfter_19 : decode cM_linkAfter 19 = .ok (.aload_n 0, 1) := by decide +kernel
theorem dM_linkAfter_20 : decode cM_linkAfter 20 = .ok (.getfield 44, 3) := by decide +kernel
theorem dM_linkAfter_23 : decode cM_linkAfter 23 = .ok (.iload_n 3, 1) := by decide +kernel
theorem dM_linkAfter_24 : decode cM_linkAfter 24 = .ok (.iaload, 1) := by decide +kernel
theorem dM_linkAfter_25 : decode cM_linkAfter 25 = .ok (.iload_n 1, 1) := by decide +kernel
theorem dM_linkAfter_26 : decode cM_linkAfter 26 = .ok (.if_icmp .eq 10, 3) := by decide +kernel
theorem dM_linkAfter_29 : decode cM_linkAfter 29 = .ok (.iload_n 3, 1) := by decide +kernel
theorem dM_linkAfter_30 : decode cM_linkAfter 30 = .ok (.iconst 1, 1) := by decide +kernel
theorem dM_linkAfter_31 : decode cM_linkAfter 31 = .ok (.iadd, 1) := by decide +kernel
theorem dM_linkAfter_32 : decode cM_linkAfter 32 = .ok (.istore_n 3, 1) := by decide +kernel
theorem dM_linkAfter_33 : decode cM_linkAfter 33 = .ok (.goto (-29), 3) := by decide +kernel
theorem dM_linkAfter_36 : decode cM_linkAfter 36 = .ok (.iload_n 3, 1) := by decide +kernel
theorem dM_linkAfter_37 : decode cM_linkAfter 37 = .ok (.ireturn, 1) := by decide +kernel
theorem dM_complete_0 : decode cM_complete 0 = .ok (.aload_n 0, 1) := by decide +kernel
theorem dM_complete_1 : decode cM_complete 1 = .ok (.getfield 135, 3) := by decide +kernel
theorem dM_complete_4 : decode cM_complete 4 = .ok (.ifCond .ne 7, 3) := by decide +kernel
theorem dM_complete_7 : decode cM_complete 7 = .ok (.iconst 0, 1) := by decide +kernel
theorem dM_complete_8 : decode cM_complete 8 = .ok (.goto 19, 3) := by decide +kernel
theorem dM_complete_11 : decode cM_complete 11 = .ok (.aload_n 0, 1) := by decide +kernel
theorem dM_complete_12 : decode cM_complete 12 = .ok (.getfield 47, 3) := by decide +kernel
theorem dM_complete_15 : decode cM_complete 15 = .ok (.aload_n 0, 1) := by decide +kernel
theorem dM_complete_16 : decode cM_complete 16 = .ok (.getfield 74, 3) := by decide +kernel
theorem dM_complete_19 : decode cM_complete 19 = .ok (.aload_n 0, 1) := by decide +kernel
theorem dM_complete_20 : decode cM_complete 20 = .ok (.getfield 135, 3) := by decide +kernel
theorem dM_complete_23 : decode cM_complete 23 = .ok (.iconst 1, 1) := by decide +kernel
theorem dM_complete_24 : decode cM_complete 24 = .ok (.isub, 1) := by decide +kernel
theorem dM_complete_25 : decode cM_complete 25 = .ok (.iaload, 1) := by decide +kernel
theorem dM_complete_26 : decode cM_complete 26 = .ok (.iaload, 1) := by decide +kernel
theorem dM_complete_27 : decode cM_complete 27 = .ok (.istore_n 1, 1) := by decide +kernel
theorem dM_complete_28 : decode cM_complete 28 = .ok (.iload_n 1, 1) := by decide +kernel
theorem dM_complete_29 : decode cM_complete 29 = .ok (.iconst 1, 1) := by decide +kernel
theorem dM_complete_30 : decode cM_complete 30 = .ok (.if_icmp .eq 40, 3) := by decide +kernel
theorem dM_complete_33 : decode cM_complete 33 = .ok (.aload_n 0, 1) := by decide +kernel
theorem dM_complete_34 : decode cM_complete 34 = .ok (.iload_n 1, 1) := by decide +kernel
theorem dM_complete_35 : decode cM_complete 35 = .ok (.iconst (-1), 1) := by decide +kernel
theorem dM_complete_36 : decode cM_complete 36 = .ok (.invokevirtual 138, 3) := by decide +kernel
theorem dM_complete_39 : decode cM_complete 39 = .ok (.istore_n 2, 1) := by decide +kernel
theorem dM_complete_40 : decode cM_complete 40 = .ok (.aload_n 0, 1) := by decide +kernel
theorem dM_complete_41 : decode cM_complete 41 = .ok (.getfield 74, 3) := by decide +kernel
theorem dM_complete_44 : decode cM_complete 44 = .ok (.aload_n 0, 1) := by decide +kernel
theorem dM_complete_45 : decode cM_complete 45 = .ok (.getfield 135, 3) := by decide +kernel
theorem dM_complete_48 : decode cM_complete 48 = .ok (.iload_n 2, 1) := by decide +kernel
theorem dM_complete_49 : decode cM_complete 49 = .ok (.iastore, 1) := by decide +kernel
theorem dM_complete_50 : decode cM_complete 50 = .ok (.aload_n 0, 1) := by decide +kernel
theorem dM_complete_51 : decode cM_complete 51 = .ok (.aload_n 0, 1) := by decide +kernel
theorem dM_complete_52 : decode cM_complete 52 = .ok (.getfield 135, 3) := by decide +kernel
theorem dM_complete_55 : decode cM_complete 55 = .ok (.iconst 1, 1) := by decide +kernel
theorem dM_complete_56 : decode cM_complete 56 = .ok (.iadd, 1) := by decide +kernel
theorem dM_complete_57 : decode cM_complete 57 = .ok (.putfield 135, 3) := by decide +kernel
theorem dM_complete_60 : decode cM_complete 60 = .ok (.aload_n 0, 1) := by decide +kernel
theorem dM_complete_61 : decode cM_complete 61 = .ok (.getfield 47, 3) := by decide +kernel
theorem dM_complete_64 : decode cM_complete 64 = .ok (.iload_n 2, 1) := by decide +kernel
theorem dM_complete_65 : decode cM_complete 65 = .ok (.iaload, 1) := by decide +kernel
theorem dM_complete_66 : decode cM_complete 66 = .ok (.istore_n 1, 1) := by decide +kernel
theorem dM_complete_67 : decode cM_complete 67 = .ok (.goto (-39), 3) := by decide +kernel
theorem dM_complete_70 : decode cM_complete 70 = .ok (.return_, 1) := by decide +kernel
theorem dM_advance_0 : decode cM_advance 0 = .ok (.aload_n 0, 1) := by decide +kernel
theorem dM_advance_1 : decode cM_advance 1 = .ok (.getfield 135, 3) := by decide +kernel
theorem dM_advance_4 : decode cM_advance 4 = .ok (.ifCond .le 64, 3) := by decide +kernel
theorem dM_advance_7 : decode cM_advance 7 = .ok (.aload_n 0, 1) := by decide +kernel
theorem dM_advance_8 : decode cM_advance 8 = .ok (.getfield 74, 3) := by decide +kernel
theorem dM_advance_11 : decode cM_advance 11 = .ok (.aload_n 0, 1) := by decide +kernel
theorem dM_advance_12 : decode cM_advance 12 = .ok (.getfield 135, 3) := by decide +kernel
theorem dM_advance_15 : decode cM_advance 15 = .ok (.iconst 1, 1) := by decide +kernel
theorem dM_advance_16 : decode cM_advance 16 = .ok (.isub, 1) := by decide +kernel
theorem dM_advance_17 : decode cM_advance 17 = .ok (.iaload, 1) := by decide +kernel
theorem dM_advance_18 : decode cM_advance 18 = .ok (.istore_n 1, 1) := by decide +kernel
theorem dM_advance_19 : decode cM_advance 19 = .ok (.aload_n 0, 1) := by decide +kernel
theorem dM_advance_20 : decode cM_advance 20 = .ok (.aload_n 0, 1) := by decide +kernel
theorem dM_advance_21 : decode cM_advance 21 = .ok (.getfield 44, 3) := by decide +kernel
theorem dM_advance_24 : decode cM_advance 24 = .ok (.iload_n 1, 1) := by decide +kernel
theorem dM_advance_25 : decode cM_advance 25 = .ok (.iaload, 1) := by decide +kernel
theorem dM_advance_26 : decode cM_advance 26 = .ok (.iload_n 1, 1) := by decide +kernel
theorem dM_advance_27 : decode cM_advance 27 = .ok (.invokevirtual 138, 3) := by decide +kernel
theorem dM_advance_30 : decode cM_advance 30 = .ok (.istore_n 2, 1) := by decide +kernel
theorem dM_advance_31 : decode cM_advance 31 = .ok (.iload_n 2, 1) := by decide +kernel
theorem dM_advance_32 : decode cM_advance 32 = .ok (.bipush 48, 2) := by decide +kernel
theorem dM_advance_34 : decode cM_advance 34 = .ok (.if_icmp .ge 21, 3) := by decide +kernel
theorem dM_advance_37 : decode cM_advance 37 = .ok (.aload_n 0, 1) := by decide +kernel
theorem dM_advance_38 : decode cM_advance 38 = .ok (.getfield 74, 3) := by decide +kernel
theorem dM_advance_41 : decode cM_advance 41 = .ok (.aload_n 0, 1) := by decide +kernel
theorem dM_advance_42 : decode cM_advance 42 = .ok (.getfield 135, 3) := by decide +kernel
theorem dM_advance_45 : decode cM_advance 45 = .ok (.iconst 1, 1) := by decide +kernel
theorem dM_advance_46 : decode cM_advance 46 = .ok (.isub, 1) := by decide +kernel
theorem dM_advance_47 : decode cM_advance 47 = .ok (.iload_n 2, 1) := by decide +kernel
theorem dM_advance_48 : decode cM_advance 48 = .ok (.iastore, 1) := by decide +kernel
theorem dM_advance_49 : decode cM_advance 49 = .ok (.aload_n 0, 1) := by decide +kernel
theorem dM_advance_50 : decode cM_advance 50 = .ok (.invokevirtual 141, 3) := by decide +kernel
theorem dM_advance_53 : decode cM_advance 53 = .ok (.iconst 1, 1) := by decide +kernel
theorem dM_advance_54 : decode cM_advance 54 = .ok (.ireturn, 1) := by decide +kernel
theorem dM_advance_55 : decode cM_advance 55 = .ok (.aload_n 0, 1) := by decide +kernel
theorem dM_advance_56 : decode cM_advance 56 = .ok (.aload_n 0, 1) := by decide +kernel
theorem dM_advance_57 : decode cM_advance 57 = .ok (.getfield 135, 3) := by decide +kernel
theorem dM_advance_60 : decode cM_advance 60 = .ok (.iconst 1, 1) := by decide +kernel
theorem dM_advance_61 : decode cM_advance 61 = .ok (.isub, 1) := by decide +kernel
theorem dM_advance_62 : decode cM_advance 62 = .ok (.putfield 135, 3) := by decide +kernel
theorem dM_advance_65 : decode cM_advance 65 = .ok (.goto (-65), 3) := by decide +kernel
theorem dM_advance_68 : decode cM_advance 68 = .ok (.iconst 0, 1) := by decide +kernel
theorem dM_advance_69 : decode cM_advance 69 = .ok (.ireturn, 1) := by decide +kernel
theorem dM_listWays_0 : decode cM_listWays 0 = .ok (.aload_n 0, 1) := by decide +kernel
theorem dM_listWays_1 : decode cM_listWays 1 = .ok (.iconst 0, 1) := by decide +kernel
theorem dM_listWays_2 : decode cM_listWays 2 = .ok (.putfield 144, 3) := by decide +kernel
theorem dM_listWays_5 : decode cM_listWays 5 = .ok (.aload_n 0, 1) := by decide +kernel
theorem dM_listWays_6 : decode cM_listWays 6 = .ok (.iconst 0, 1) := by decide +kernel
theorem dM_listWays_7 : decode cM_listWays 7 = .ok (.putfield 135, 3) := by decide +kernel
theorem dM_listWays_10 : decode cM_listWays 10 = .ok (.aload_n 0, 1) := by decide +kernel
theorem dM_listWays_11 : decode cM_listWays 11 = .ok (.invokevirtual 141, 3) := by decide +kernel
theorem dM_listWays_14 : decode cM_listWays 14 = .ok (.iconst 1, 1) := by decide +kernel
theorem dM_listWays_15 : decode cM_listWays 15 = .ok (.istore_n 1, 1) := by decide +kernel
theorem dM_listWays_16 : decode cM_listWays 16 = .ok (.iload_n 1, 1) := by decide +kernel
theorem dM_listWays_17 : decode cM_listWays 17 = .ok (.ifCond .eq 80, 3) := by decide +kernel
theorem dM_listWays_20 : decode cM_listWays 20 = .ok (.aload_n 0, 1) := by decide +kernel
theorem dM_listWays_21 : decode cM_listWays 21 = .ok (.getfield 144, 3) := by decide +kernel
theorem dM_listWays_24 : decode cM_listWays 24 = .ok (.sipush 200, 3) := by decide +kernel
theorem dM_listWays_27 : decode cM_listWays 27 = .ok (.if_icmp .ge 70, 3) := by decide +kernel
theorem dM_listWays_30 : decode cM_listWays 30 = .ok (.aload_n 0, 1) := by decide +kernel
theorem dM_listWays_31 : decode cM_listWays 31 = .ok (.getfield 68, 3) := by decide +kernel
theorem dM_listWays_34 : decode cM_listWays 34 = .ok (.aload_n 0, 1) := by decide +kernel
theorem dM_listWays_35 : decode cM_listWays 35 = .ok (.getfield 144, 3) := by decide +kernel
theorem dM_listWays_38 : decode cM_listWays 38 = .ok (.aload_n 0, 1) := by decide +kernel
theorem dM_listWays_39 : decode cM_listWays 39 = .ok (.getfield 135, 3) := by decide +kernel
theorem dM_listWays_42 : decode cM_listWays 42 = .ok (.iastore, 1) := by decide +kernel
theorem dM_listWays_43 : decode cM_listWays 43 = .ok (.iconst 0, 1) := by decide +kernel
theorem dM_listWays_44 : decode cM_listWays 44 = .ok (.istore_n 2, 1) := by decide +kernel
theorem dM_listWays_45 : decode cM_listWays 45 = .ok (.iload_n 2, 1) := by decide +kernel
theorem dM_listWays_46 : decode cM_listWays 46 = .ok (.aload_n 0, 1) := by decide +kernel
theorem dM_listWays_47 : decode cM_listWays 47 = .ok (.getfield 135, 3) := by decide +kernel
theorem dM_listWays_50 : decode cM_listWays 50 = .ok (.if_icmp .ge 29, 3) := by decide +kernel
theorem dM_listWays_53 : decode cM_listWays 53 = .ok (.aload_n 0, 1) := by decide +kernel
theorem dM_listWays_54 : decode cM_listWays 54 = .ok (.getfield 71, 3) := by decide +kernel
theorem dM_listWays_57 : decode cM_listWays 57 = .ok (.bipush 16, 2) := by decide +kernel
theorem dM_listWays_59 : decode cM_listWays 59 = .ok (.aload_n 0, 1) := by decide +kernel
theorem dM_listWays_60 : decode cM_listWays 60 = .ok (.getfield 144, 3) := by decide +kernel
theorem dM_listWays_63 : decode cM_listWays 63 = .ok (.imul, 1) := by decide +kernel
theorem dM_listWays_64 : decode cM_listWays 64 = .ok (.iload_n 2, 1) := by decide +kernel
theorem dM_listWays_65 : decode cM_listWays 65 = .ok (.iadd, 1) := by decide +kernel
theorem dM_listWays_66 : decode cM_listWays 66 = .ok (.aload_n 0, 1) := by decide +kernel
theorem dM_listWays_67 : decode cM_listWays 67 = .ok (.getfield 74, 3) := by decide +kernel
theorem dM_listWays_70 : decode cM_listWays 70 = .ok (.iload_n 2, 1) := by decide +kernel
theorem dM_listWays_71 : decode cM_listWays 71 = .ok (.iaload, 1) := by decide +kernel
theorem dM_listWays_72 : decode cM_listWays 72 = .ok (.iastore, 1) := by decide +kernel
theorem dM_listWays_73 : decode cM_listWays 73 = .ok (.iinc 2 1, 3) := by decide +kernel
theorem dM_listWays_76 : decode cM_listWays 76 = .ok (.goto (-31), 3) := by decide +kernel
theorem dM_listWays_79 : decode cM_listWays 79 = .ok (.aload_n 0, 1) := by decide +kernel
theorem dM_listWays_80 : decode cM_listWays 80 = .ok (.aload_n 0, 1) := by decide +kernel
theorem dM_listWays_81 : decode cM_listWays 81 = .ok (.getfield 144, 3) := by decide +kernel
theorem dM_listWays_84 : decode cM_listWays 84 = .ok (.iconst 1, 1) := by decide +kernel
theorem dM_listWays_85 : decode cM_listWays 85 = .ok (.iadd, 1) := by decide +kernel
theorem dM_listWays_86 : decode cM_listWays 86 = .ok (.putfield 144, 3) := by decide +kernel
theorem dM_listWays_89 : decode cM_listWays 89 = .ok (.aload_n 0, 1) := by decide +kernel
theorem dM_listWays_90 : decode cM_listWays 90 = .ok (.invokevirtual 147, 3) := by decide +kernel
theorem dM_listWays_93 : decode cM_listWays 93 = .ok (.istore_n 1, 1) := by decide +kernel
theorem dM_listWays_94 : decode cM_listWays 94 = .ok (.goto (-78), 3) := by decide +kernel
theorem dM_listWays_97 : decode cM_listWays 97 = .ok (.return_, 1) := by decide +kernel
theorem dM_seal_0 : decode cM_seal 0 = .ok (.aload_n 0, 1) := by decide +kernel
theorem dM_seal_1 : decode cM_seal 1 = .ok (.getfield 96, 3) := by decide +kernel
theorem dM_seal_4 : decode cM_seal 4 = .ok (.ifCond .eq 5, 3) := by decide +kernel
theorem dM_seal_7 : decode cM_seal 7 = .ok (.iconst (-1), 1) := by decide +kernel
theorem dM_seal_8 : decode cM_seal 8 = .ok (.ireturn, 1) := by decide +kernel
theorem dM_seal_9 : decode cM_seal 9 = .ok (.aload_n 0, 1) := by decide +kernel
theorem dM_seal_10 : decode cM_seal 10 = .ok (.invokevirtual 151, 3) := by decide +kernel
theorem dM_seal_13 : decode cM_seal 13 = .ok (.aload_n 0, 1) := by decide +kernel
theorem dM_seal_14 : decode cM_seal 14 = .ok (.invokevirtual 154, 3) := by decide +kernel
theorem dM_seal_17 : decode cM_seal 17 = .ok (.ifCond .ne 6, 3) := by decide +kernel
theorem dM_seal_20 : decode cM_seal 20 = .ok (.bipush (-2), 2) := by decide +kernel
theorem dM_seal_22 : decode cM_seal 22 = .ok (.ireturn, 1) := by decide +kernel
theorem dM_seal_23 : decode cM_seal 23 = .ok (.aload_n 0, 1) := by decide +kernel
theorem dM_seal_24 : decode cM_seal 24 = .ok (.invokevirtual 157, 3) := by decide +kernel
theorem dM_seal_27 : decode cM_seal 27 = .ok (.aload_n 0, 1) := by decide +kernel
theorem dM_seal_28 : decode cM_seal 28 = .ok (.getfield 50, 3) := by decide +kernel
theorem dM_seal_31 : decode cM_seal 31 = .ok (.iconst 0, 1) := by decide +kernel
theorem dM_seal_32 : decode cM_seal 32 = .ok (.iaload, 1) := by decide +kernel
theorem dM_seal_33 : decode cM_seal 33 = .ok (.sipush 200, 3) := by decide +kernel
theorem dM_seal_36 : decode cM_seal 36 = .ok (.if_icmp .le 6, 3) := by decide +kernel
theorem dM_seal_39 : decode cM_seal 39 = .ok (.bipush (-3), 2) := by decide +kernel
theorem dM_seal_41 : decode cM_seal 41 = .ok (.ireturn, 1) := by decide +kernel
theorem dM_seal_42 : decode cM_seal 42 = .ok (.aload_n 0, 1) := by decide +kernel
theorem dM_seal_43 : decode cM_seal 43 = .ok (.invokevirtual 160, 3) := by decide +kernel
theorem dM_seal_46 : decode cM_seal 46 = .ok (.aload_n 0, 1) := by decide +kernel
theorem dM_seal_47 : decode cM_seal 47 = .ok (.invokevirtual 163, 3) := by decide +kernel
theorem dM_seal_50 : decode cM_seal 50 = .ok (.aload_n 0, 1) := by decide +kernel
theorem dM_seal_51 : decode cM_seal 51 = .ok (.invokevirtual 166, 3) := by decide +kernel
theorem dM_seal_54 : decode cM_seal 54 = .ok (.aload_n 0, 1) := by decide +kernel
theorem dM_seal_55 : decode cM_seal 55 = .ok (.invokevirtual 169, 3) := by decide +kernel
theorem dM_seal_58 : decode cM_seal 58 = .ok (.aload_n 0, 1) := by decide +kernel
theorem dM_seal_59 : decode cM_seal 59 = .ok (.invokevirtual 172, 3) := by decide +kernel
theorem dM_seal_62 : decode cM_seal 62 = .ok (.aload_n 0, 1) := by decide +kernel
theorem dM_seal_63 : decode cM_seal 63 = .ok (.iconst 1, 1) := by decide +kernel
theorem dM_seal_64 : decode cM_seal 64 = .ok (.putfield 96, 3) := by decide +kernel
theorem dM_seal_67 : decode cM_seal 67 = .ok (.aload_n 0, 1) := by decide +kernel
theorem dM_seal_68 : decode cM_seal 68 = .ok (.getfield 144, 3) := by decide +kernel
theorem dM_seal_71 : decode cM_seal 71 = .ok (.ireturn, 1) := by decide +kernel
theorem dM_back_0 : decode cM_back 0 = .ok (.aload_n 0, 1) := by decide +kernel
theorem dM_back_1 : decode cM_back 1 = .ok (.iload_n 1, 1) := by decide +kernel
theorem dM_back_2 : decode cM_back 2 = .ok (.invokevirtual 175, 3) := by decide +kernel
theorem dM_back_5 : decode cM_back 5 = .ok (.ifCond .eq 16, 3) := by decide +kernel
theorem dM_back_8 : decode cM_back 8 = .ok (.aload_n 0, 1) := by decide +kernel
theorem dM_back_9 : decode cM_back 9 = .ok (.getfield 25, 3) := by decide +kernel
theorem dM_back_12 : decode cM_back 12 = .ok (.iload_n 1, 1) := by decide +kernel
theorem dM_back_13 : decode cM_back 13 = .ok (.baload, 1) := by decide +kernel
theorem dM_back_14 : decode cM_back 14 = .ok (.ifCond .eq 7, 3) := by decide +kernel
theorem dM_back_17 : decode cM_back 17 = .ok (.iconst 1, 1) := by decide +kernel
theorem dM_back_18 : decode cM_back 18 = .ok (.goto 4, 3) := by decide +kernel
theorem dM_back_21 : decode cM_back 21 = .ok (.iconst 0, 1) := by decide +kernel
theorem dM_back_22 : decode cM_back 22 = .ok (.ireturn, 1) := by decide +kernel
theorem dM_depth_0 : decode cM_depth 0 = .ok (.aload_n 0, 1) := by decide +kernel
theorem dM_depth_1 : decode cM_depth 1 = .ok (.getfield 96, 3) := by decide +kernel
theorem dM_depth_4 : decode cM_depth 4 = .ok (.ifCond .eq 20, 3) := by decide +kernel
theorem dM_depth_7 : decode cM_depth 7 = .ok (.aload_n 0, 1) := by decide +kernel
theorem dM_depth_8 : decode cM_depth 8 = .ok (.iload_n 1, 1) := by decide +kernel
theorem dM_depth_9 : decode cM_depth 9 = .ok (.invokevirtual 103, 3) := by decide +kernel
theorem dM_depth_12 : decode cM_depth 12 = .ok (.ifCond .eq 12, 3) := by decide +kernel
theorem dM_depth_15 : decode cM_depth 15 = .ok (.aload_n 0, 1) := by decide +kernel
theorem dM_depth_16 : decode cM_depth 16 = .ok (.getfield 32, 3) := by decide +kernel
theorem dM_depth_19 : decode cM_depth 19 = .ok (.iload_n 1, 1) := by decide +kernel
theorem dM_depth_20 : decode cM_depth 20 = .ok (.iaload, 1) := by decide +kernel
theorem dM_depth_21 : decode cM_depth 21 = .ok (.goto 4, 3) := by decide +kernel
theorem dM_depth_24 : decode cM_depth 24 = .ok (.iconst (-1), 1) := by decide +kernel
theorem dM_depth_25 : decode cM_depth 25 = .ok (.ireturn, 1) := by decide +kernel
theorem dM_probe_0 : decode cM_probe 0 = .ok (.aload_n 0, 1) := by decide +kernel
theorem dM_probe_1 : decode cM_probe 1 = .ok (.iload_n 1, 1) := by decide +kernel
theorem dM_probe_2 : decode cM_probe 2 = .ok (.invokevirtual 175, 3) := by decide +kernel
