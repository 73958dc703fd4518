/-! rows that decode, M -/
theorem dM_init_0 : decode cM_init 0 = .ok (.aload_n 0, 1) := by decide +kernel
theorem dM_init_1 : decode cM_init 1 = .ok (.invokespecial 1, 3) := by decide +kernel
theorem dM_init_4 : decode cM_init 4 = .ok (.aload_n 0, 1) := by decide +kernel
theorem dM_init_5 : decode cM_init 5 = .ok (.bipush 24, 2) := by decide +kernel
theorem dM_init_7 : decode cM_init 7 = .ok (.newarray .int, 2) := by decide +kernel
theorem dM_init_9 : decode cM_init 9 = .ok (.putfield 7, 3) := by decide +kernel
theorem dM_init_12 : decode cM_init 12 = .ok (.aload_n 0, 1) := by decide +kernel
theorem dM_init_13 : decode cM_init 13 = .ok (.bipush 24, 2) := by decide +kernel
theorem dM_init_15 : decode cM_init 15 = .ok (.newarray .int, 2) := by decide +kernel
theorem dM_init_17 : decode cM_init 17 = .ok (.putfield 13, 3) := by decide +kernel
theorem dM_init_20 : decode cM_init 20 = .ok (.aload_n 0, 1) := by decide +kernel
theorem dM_init_21 : decode cM_init 21 = .ok (.bipush 12, 2) := by decide +kernel
theorem dM_init_23 : decode cM_init 23 = .ok (.newarray .int, 2) := by decide +kernel
theorem dM_init_25 : decode cM_init 25 = .ok (.putfield 16, 3) := by decide +kernel
theorem dM_init_28 : decode cM_init 28 = .ok (.aload_n 0, 1) := by decide +kernel
theorem dM_init_29 : decode cM_init 29 = .ok (.bipush 12, 2) := by decide +kernel
theorem dM_init_31 : decode cM_init 31 = .ok (.newarray .int, 2) := by decide +kernel
theorem dM_init_33 : decode cM_init 33 = .ok (.putfield 19, 3) := by decide +kernel
theorem dM_init_36 : decode cM_init 36 = .ok (.aload_n 0, 1) := by decide +kernel
theorem dM_init_37 : decode cM_init 37 = .ok (.bipush 12, 2) := by decide +kernel
theorem dM_init_39 : decode cM_init 39 = .ok (.newarray .int, 2) := by decide +kernel
theorem dM_init_41 : decode cM_init 41 = .ok (.putfield 22, 3) := by decide +kernel
theorem dM_init_44 : decode cM_init 44 = .ok (.aload_n 0, 1) := by decide +kernel
theorem dM_init_45 : decode cM_init 45 = .ok (.bipush 24, 2) := by decide +kernel
theorem dM_init_47 : decode cM_init 47 = .ok (.newarray .boolean, 2) := by decide +kernel
theorem dM_init_49 : decode cM_init 49 = .ok (.putfield 25, 3) := by decide +kernel
theorem dM_init_52 : decode cM_init 52 = .ok (.aload_n 0, 1) := by decide +kernel
theorem dM_init_53 : decode cM_init 53 = .ok (.bipush 12, 2) := by decide +kernel
theorem dM_init_55 : decode cM_init 55 = .ok (.newarray .boolean, 2) := by decide +kernel
theorem dM_init_57 : decode cM_init 57 = .ok (.putfield 29, 3) := by decide +kernel
theorem dM_init_60 : decode cM_init 60 = .ok (.aload_n 0, 1) := by decide +kernel
theorem dM_init_61 : decode cM_init 61 = .ok (.bipush 12, 2) := by decide +kernel
theorem dM_init_63 : decode cM_init 63 = .ok (.newarray .int, 2) := by decide +kernel
theorem dM_init_65 : decode cM_init 65 = .ok (.putfield 32, 3) := by decide +kernel
theorem dM_init_68 : decode cM_init 68 = .ok (.aload_n 0, 1) := by decide +kernel
theorem dM_init_69 : decode cM_init 69 = .ok (.bipush 24, 2) := by decide +kernel
theorem dM_init_71 : decode cM_init 71 = .ok (.newarray .int, 2) := by decide +kernel
theorem dM_init_73 : decode cM_init 73 = .ok (.putfield 35, 3) := by decide +kernel
theorem dM_init_76 : decode cM_init 76 = .ok (.aload_n 0, 1) := by decide +kernel
theorem dM_init_77 : decode cM_init 77 = .ok (.bipush 24, 2) := by decide +kernel
theorem dM_init_79 : decode cM_init 79 = .ok (.newarray .boolean, 2) := by decide +kernel
theorem dM_init_81 : decode cM_init 81 = .ok (.putfield 38, 3) := by decide +kernel
theorem dM_init_84 : decode cM_init 84 = .ok (.aload_n 0, 1) := by decide +kernel
theorem dM_init_85 : decode cM_init 85 = .ok (.bipush 48, 2) := by decide +kernel
theorem dM_init_87 : decode cM_init 87 = .ok (.newarray .boolean, 2) := by decide +kernel
theorem dM_init_89 : decode cM_init 89 = .ok (.putfield 41, 3) := by decide +kernel
theorem dM_init_92 : decode cM_init 92 = .ok (.aload_n 0, 1) := by decide +kernel
theorem dM_init_93 : decode cM_init 93 = .ok (.bipush 48, 2) := by decide +kernel
theorem dM_init_95 : decode cM_init 95 = .ok (.newarray .int, 2) := by decide +kernel
theorem dM_init_97 : decode cM_init 97 = .ok (.putfield 44, 3) := by decide +kernel
theorem dM_init_100 : decode cM_init 100 = .ok (.aload_n 0, 1) := by decide +kernel
theorem dM_init_101 : decode cM_init 101 = .ok (.bipush 48, 2) := by decide +kernel
theorem dM_init_103 : decode cM_init 103 = .ok (.newarray .int, 2) := by decide +kernel
theorem dM_init_105 : decode cM_init 105 = .ok (.putfield 47, 3) := by decide +kernel
theorem dM_init_108 : decode cM_init 108 = .ok (.aload_n 0, 1) := by decide +kernel
theorem dM_init_109 : decode cM_init 109 = .ok (.bipush 12, 2) := by decide +kernel
theorem dM_init_111 : decode cM_init 111 = .ok (.newarray .int, 2) := by decide +kernel
theorem dM_init_113 : decode cM_init 113 = .ok (.putfield 50, 3) := by decide +kernel
theorem dM_init_116 : decode cM_init 116 = .ok (.aload_n 0, 1) := by decide +kernel
theorem dM_init_117 : decode cM_init 117 = .ok (.bipush 48, 2) := by decide +kernel
theorem dM_init_119 : decode cM_init 119 = .ok (.newarray .boolean, 2) := by decide +kernel
theorem dM_init_121 : decode cM_init 121 = .ok (.putfield 53, 3) := by decide +kernel
theorem dM_init_124 : decode cM_init 124 = .ok (.aload_n 0, 1) := by decide +kernel
theorem dM_init_125 : decode cM_init 125 = .ok (.bipush 12, 2) := by decide +kernel
theorem dM_init_127 : decode cM_init 127 = .ok (.newarray .boolean, 2) := by decide +kernel
theorem dM_init_129 : decode cM_init 129 = .ok (.putfield 56, 3) := by decide +kernel
theorem dM_init_132 : decode cM_init 132 = .ok (.aload_n 0, 1) := by decide +kernel
theorem dM_init_133 : decode cM_init 133 = .ok (.bipush 12, 2) := by decide +kernel
theorem dM_init_135 : decode cM_init 135 = .ok (.newarray .int, 2) := by decide +kernel
theorem dM_init_137 : decode cM_init 137 = .ok (.putfield 59, 3) := by decide +kernel
theorem dM_init_140 : decode cM_init 140 = .ok (.aload_n 0, 1) := by decide +kernel
theorem dM_init_141 : decode cM_init 141 = .ok (.bipush 48, 2) := by decide +kernel
theorem dM_init_143 : decode cM_init 143 = .ok (.newarray .int, 2) := by decide +kernel
theorem dM_init_145 : decode cM_init 145 = .ok (.putfield 62, 3) := by decide +kernel
theorem dM_init_148 : decode cM_init 148 = .ok (.aload_n 0, 1) := by decide +kernel
theorem dM_init_149 : decode cM_init 149 = .ok (.bipush 48, 2) := by decide +kernel
theorem dM_init_151 : decode cM_init 151 = .ok (.newarray .int, 2) := by decide +kernel
theorem dM_init_153 : decode cM_init 153 = .ok (.putfield 65, 3) := by decide +kernel
theorem dM_init_156 : decode cM_init 156 = .ok (.aload_n 0, 1) := by decide +kernel
theorem dM_init_157 : decode cM_init 157 = .ok (.sipush 200, 3) := by decide +kernel
theorem dM_init_160 : decode cM_init 160 = .ok (.newarray .int, 2) := by decide +kernel
theorem dM_init_162 : decode cM_init 162 = .ok (.putfield 68, 3) := by decide +kernel
theorem dM_init_165 : decode cM_init 165 = .ok (.aload_n 0, 1) := by decide +kernel
theorem dM_init_166 : decode cM_init 166 = .ok (.sipush 3200, 3) := by decide +kernel
theorem dM_init_169 : decode cM_init 169 = .ok (.newarray .int, 2) := by decide +kernel
theorem dM_init_171 : decode cM_init 171 = .ok (.putfield 71, 3) := by decide +kernel
theorem dM_init_174 : decode cM_init 174 = .ok (.aload_n 0, 1) := by decide +kernel
theorem dM_init_175 : decode cM_init 175 = .ok (.bipush 16, 2) := by decide +kernel
theorem dM_init_177 : decode cM_init 177 = .ok (.newarray .int, 2) := by decide +kernel
theorem dM_init_179 : decode cM_init 179 = .ok (.putfield 74, 3) := by decide +kernel
theorem dM_init_182 : decode cM_init 182 = .ok (.aload_n 0, 1) := by decide +kernel
theorem dM_init_183 : decode cM_init 183 = .ok (.bipush 16, 2) := by decide +kernel
theorem dM_init_185 : decode cM_init 185 = .ok (.newarray .int, 2) := by decide +kernel
theorem dM_init_187 : decode cM_init 187 = .ok (.putfield 77, 3) := by decide +kernel
theorem dM_init_190 : decode cM_init 190 = .ok (.aload_n 0, 1) := by decide +kernel
theorem dM_init_191 : decode cM_init 191 = .ok (.bipush 24, 2) := by decide +kernel
theorem dM_init_193 : decode cM_init 193 = .ok (.newarray .int, 2) := by decide +kernel
theorem dM_init_195 : decode cM_init 195 = .ok (.putfield 80, 3) := by decide +kernel
theorem dM_init_198 : decode cM_init 198 = .ok (.aload_n 0, 1) := by decide +kernel
theorem dM_init_199 : decode cM_init 199 = .ok (.bipush 12, 2) := by decide +kernel
theorem dM_init_201 : decode cM_init 201 = .ok (.newarray .int, 2) := by decide +kernel
theorem dM_init_203 : decode cM_init 203 = .ok (.putfield 83, 3) := by decide +kernel
theorem dM_init_206 : decode cM_init 206 = .ok (.aload_n 0, 1) := by decide +kernel
theorem dM_init_207 : decode cM_init 207 = .ok (.sipush 200, 3) := by decide +kernel
theorem dM_init_210 : decode cM_init 210 = .ok (.newarray .int, 2) := by decide +kernel
theorem dM_init_212 : decode cM_init 212 = .ok (.putfield 86, 3) := by decide +kernel
theorem dM_init_215 : decode cM_init 215 = .ok (.aload_n 0, 1) := by decide +kernel
theorem dM_init_216 : decode cM_init 216 = .ok (.bipush 12, 2) := by decide +kernel
theorem dM_init_218 : decode cM_init 218 = .ok (.newarray .int, 2) := by decide +kernel
theorem dM_init_220 : decode cM_init 220 = .ok (.putfield 89, 3) := by decide +kernel
theorem dM_init_223 : decode cM_init 223 = .ok (.aload_n 0, 1) := by decide +kernel
theorem dM_init_224 : decode cM_init 224 = .ok (.iload_n 1, 1) := by decide +kernel
theorem dM_init_225 : decode cM_init 225 = .ok (.iconst 2, 1) := by decide +kernel
theorem dM_init_226 : decode cM_init 226 = .ok (.if_icmp .ge 7, 3) := by decide +kernel
theorem dM_init_229 : decode cM_init 229 = .ok (.iconst 2, 1) := by decide +kernel
theorem dM_init_230 : decode cM_init 230 = .ok (.goto 15, 3) := by decide +kernel
theorem dM_init_233 : decode cM_init 233 = .ok (.iload_n 1, 1) := by decide +kernel
theorem dM_init_234 : decode cM_init 234 = .ok (.bipush 12, 2) := by decide +kernel
theorem dM_init_236 : decode cM_init 236 = .ok (.if_icmp .le 8, 3) := by decide +kernel
theorem dM_init_239 : decode cM_init 239 = .ok (.bipush 12, 2) := by decide +kernel
theorem dM_init_241 : decode cM_init 241 = .ok (.goto 4, 3) := by decide +kernel
theorem dM_init_244 : decode cM_init 244 = .ok (.iload_n 1, 1) := by decide +kernel
theorem dM_init_245 : decode cM_init 245 = .ok (.putfield 92, 3) := by decide +kernel
theorem dM_init_248 : decode cM_init 248 = .ok (.return_, 1) := by decide +kernel
theorem dM_block_0 : decode cM_block 0 = .ok (.iload_n 1, 1) := by decide +kernel
theorem dM_block_1 : decode cM_block 1 = .ok (.ifCond .lt 15, 3) := by decide +kernel
theorem dM_block_4 : decode cM_block 4 = .ok (.iload_n 1, 1) := by decide +kernel
theorem dM_block_5 : decode cM_block 5 = .ok (.aload_n 0, 1) := by decide +kernel
theorem dM_block_6 : decode cM_block 6 = .ok (.getfield 92, 3) := by decide +kernel
theorem dM_block_9 : decode cM_block 9 = .ok (.if_icmp .ge 7, 3) := by decide +kernel
theorem dM_block_12 : decode cM_block 12 = .ok (.iconst 1, 1) := by decide +kernel
theorem dM_block_13 : decode cM_block 13 = .ok (.goto 4, 3) := by decide +kernel
theorem dM_block_16 : decode cM_block 16 = .ok (.iconst 0, 1) := by decide +kernel
theorem dM_block_17 : decode cM_block 17 = .ok (.ireturn, 1) := by decide +kernel
theorem dM_known_0 : decode cM_known 0 = .ok (.aload_n 0, 1) := by decide +kernel
theorem dM_known_1 : decode cM_known 1 = .ok (.getfield 96, 3) := by decide +kernel
theorem dM_known_4 : decode cM_known 4 = .ok (.ifCond .eq 19, 3) := by decide +kernel
theorem dM_known_7 : decode cM_known 7 = .ok (.iload_n 1, 1) := by decide +kernel
theorem dM_known_8 : decode cM_known 8 = .ok (.ifCond .lt 15, 3) := by decide +kernel
theorem dM_known_11 : decode cM_known 11 = .ok (.iload_n 1, 1) := by decide +kernel
theorem dM_known_12 : decode cM_known 12 = .ok (.aload_n 0, 1) := by decide +kernel
theorem dM_known_13 : decode cM_known 13 = .ok (.getfield 100, 3) := by decide +kernel
theorem dM_known_16 : decode cM_known 16 = .ok (.if_icmp .ge 7, 3) := by decide +kernel
theorem dM_known_19 : decode cM_known 19 = .ok (.iconst 1, 1) := by decide +kernel
theorem dM_known_20 : decode cM_known 20 = .ok (.goto 4, 3) := by decide +kernel
theorem dM_known_23 : decode cM_known 23 = .ok (.iconst 0, 1) := by decide +kernel
theorem dM_known_24 : decode cM_known 24 = .ok (.ireturn, 1) := by decide +kernel
theorem dM_edge_0 : decode cM_edge 0 = .ok (.aload_n 0, 1) := by decide +kernel
theorem dM_edge_1 : decode cM_edge 1 = .ok (.getfield 96, 3) := by decide +kernel
theorem dM_edge_4 : decode cM_edge 4 = .ok (.ifCond .ne 28, 3) := by decide +kernel
theorem dM_edge_7 : decode cM_edge 7 = .ok (.aload_n 0, 1) := by decide +kernel
theorem dM_edge_8 : decode cM_edge 8 = .ok (.iload_n 1, 1) := by decide +kernel
theorem dM_edge_9 : decode cM_edge 9 = .ok (.invokevirtual 103, 3) := by decide +kernel
theorem dM_edge_12 : decode cM_edge 12 = .ok (.ifCond .eq 20, 3) := by decide +kernel
theorem dM_edge_15 : decode cM_edge 15 = .ok (.aload_n 0, 1) := by decide +kernel
theorem dM_edge_16 : decode cM_edge 16 = .ok (.iload_n 2, 1) := by decide +kernel
theorem dM_edge_17 : decode cM_edge 17 = .ok (.invokevirtual 103, 3) := by decide +kernel
theorem dM_edge_20 : decode cM_edge 20 = .ok (.ifCond .eq 12, 3) := by decide +kernel
theorem dM_edge_23 : decode cM_edge 23 = .ok (.iload_n 1, 1) := by decide +kernel
theorem dM_edge_24 : decode cM_edge 24 = .ok (.iconst 1, 1) := by decide +kernel
theorem dM_edge_25 : decode cM_edge 25 = .ok (.if_icmp .eq 7, 3) := by decide +kernel
theorem dM_edge_28 : decode cM_edge 28 = .ok (.iload_n 2, 1) := by decide +kernel
theorem dM_edge_29 : decode cM_edge 29 = .ok (.ifCond .ne 5, 3) := by decide +kernel
theorem dM_edge_32 : decode cM_edge 32 = .ok (.iconst (-1), 1) := by decide +kernel
theorem dM_edge_33 : decode cM_edge 33 = .ok (.ireturn, 1) := by decide +kernel
theorem dM_edge_34 : decode cM_edge 34 = .ok (.aload_n 0, 1) := by decide +kernel
theorem dM_edge_35 : decode cM_edge 35 = .ok (.getfield 100, 3) := by decide +kernel
theorem dM_edge_38 : decode cM_edge 38 = .ok (.bipush 24, 2) := by decide +kernel
theorem dM_edge_40 : decode cM_edge 40 = .ok (.if_icmp .ne 6, 3) := by decide +kernel
theorem dM_edge_43 : decode cM_edge 43 = .ok (.bipush (-2), 2) := by decide +kernel
theorem dM_edge_45 : decode cM_edge 45 = .ok (.ireturn, 1) := by decide +kernel
theorem dM_edge_46 : decode cM_edge 46 = .ok (.aload_n 0, 1) := by decide +kernel
theorem dM_edge_47 : decode cM_edge 47 = .ok (.getfield 7, 3) := by decide +kernel
theorem dM_edge_50 : decode cM_edge 50 = .ok (.aload_n 0, 1) := by decide +kernel
theorem dM_edge_51 : decode cM_edge 51 = .ok (.getfield 100, 3) := by decide +kernel
theorem dM_edge_54 : decode cM_edge 54 = .ok (.iload_n 1, 1) := by decide +kernel
theorem dM_edge_55 : decode cM_edge 55 = .ok (.iastore, 1) := by decide +kernel
theorem dM_edge_56 : decode cM_edge 56 = .ok (.aload_n 0, 1) := by decide +kernel
theorem dM_edge_57 : decode cM_edge 57 = .ok (.getfield 13, 3) := by decide +kernel
theorem dM_edge_60 : decode cM_edge 60 = .ok (.aload_n 0, 1) := by decide +kernel
theorem dM_edge_61 : decode cM_edge 61 = .ok (.getfield 100, 3) := by decide +kernel
theorem dM_edge_64 : decode cM_edge 64 = .ok (.iload_n 2, 1) := by decide +kernel
theorem dM_edge_65 : decode cM_edge 65 = .ok (.iastore, 1) := by decide +kernel
theorem dM_edge_66 : decode cM_edge 66 = .ok (.aload_n 0, 1) := by decide +kernel
theorem dM_edge_67 : decode cM_edge 67 = .ok (.aload_n 0, 1) := by decide +kernel
theorem dM_edge_68 : decode cM_edge 68 = .ok (.getfield 100, 3) := by decide +kernel
theorem dM_edge_71 : decode cM_edge 71 = .ok (.iconst 1, 1) := by decide +kernel
theorem dM_edge_72 : decode cM_edge 72 = .ok (.iadd, 1) := by decide +kernel
theorem dM_edge_73 : decode cM_edge 73 = .ok (.putfield 100, 3) := by decide +kernel
theorem dM_edge_76 : decode cM_edge 76 = .ok (.aload_n 0, 1) := by decide +kernel
theorem dM_edge_77 : decode cM_edge 77 = .ok (.getfield 100, 3) := by decide +kernel
theorem dM_edge_80 : decode cM_edge 80 = .ok (.iconst 1, 1) := by decide +kernel
theorem dM_edge_81 : decode cM_edge 81 = .ok (.isub, 1) := by decide +kernel
theorem dM_edge_82 : decode cM_edge 82 = .ok (.ireturn, 1) := by decide +kernel
theorem dM_look_0 : decode cM_look 0 = .ok (.aload_n 0, 1) := by decide +kernel
theorem dM_look_1 : decode cM_look 1 = .ok (.getfield 19, 3) := by decide +kernel
theorem dM_look_4 : decode cM_look 4 = .ok (.iload_n 1, 1) := by decide +kernel
theorem dM_look_5 : decode cM_look 5 = .ok (.iaload, 1) := by decide +kernel
theorem dM_look_6 : decode cM_look 6 = .ok (.istore_n 2, 1) := by decide +kernel
theorem dM_look_7 : decode cM_look 7 = .ok (.iload_n 2, 1) := by decide +kernel
theorem dM_look_8 : decode cM_look 8 = .ok (.aload_n 0, 1) := by decide +kernel
theorem dM_look_9 : decode cM_look 9 = .ok (.getfield 100, 3) := by decide +kernel
theorem dM_look_12 : decode cM_look 12 = .ok (.if_icmp .ge 20, 3) := by decide +kernel
theorem dM_look_15 : decode cM_look 15 = .ok (.aload_n 0, 1) := by decide +kernel
theorem dM_look_16 : decode cM_look 16 = .ok (.getfield 7, 3) := by decide +kernel
theorem dM_look_19 : decode cM_look 19 = .ok (.iload_n 2, 1) := by decide +kernel
theorem dM_look_20 : decode cM_look 20 = .ok (.iaload, 1) := by decide +kernel
theorem dM_look_21 : decode cM_look 21 = .ok (.iload_n 1, 1) := by decide +kernel
theorem dM_look_22 : decode cM_look 22 = .ok (.if_icmp .eq 10, 3) := by decide +kernel
theorem dM_look_25 : decode cM_look 25 = .ok (.iload_n 2, 1) := by decide +kernel
theorem dM_look_26 : decode cM_look 26 = .ok (.iconst 1, 1) := by decide +kernel
theorem dM_look_27 : decode cM_look 27 = .ok (.iadd, 1) := by decide +kernel
theorem dM_look_28 : decode cM_look 28 = .ok (.istore_n 2, 1) := by decide +kernel
theorem dM_look_29 : decode cM_look 29 = .ok (.goto (-22), 3) := by decide +kernel
theorem dM_look_32 : decode cM_look 32 = .ok (.aload_n 0, 1) := by decide +kernel
theorem dM_look_33 : decode cM_look 33 = .ok (.getfield 19, 3) := by decide +kernel
theorem dM_look_36 : decode cM_look 36 = .ok (.iload_n 1, 1) := by decide +kernel
theorem dM_look_37 : decode cM_look 37 = .ok (.iload_n 2, 1) := by decide +kernel
theorem dM_look_38 : decode cM_look 38 = .ok (.iconst 1, 1) := by decide +kernel
theorem dM_look_39 : decode cM_look 39 = .ok (.iadd, 1) := by decide +kernel
theorem dM_look_40 : decode cM_look 40 = .ok (.iastore, 1) := by decide +kernel
theorem dM_look_41 : decode cM_look 41 = .ok (.iload_n 2, 1) := by decide +kernel
theorem dM_look_42 : decode cM_look 42 = .ok (.ireturn, 1) := by decide +kernel
theorem dM_search_0 : decode cM_search 0 = .ok (.iconst 0, 1) := by decide +kernel
theorem dM_search_1 : decode cM_search 1 = .ok (.istore_n 1, 1) := by decide +kernel
theorem dM_search_2 : decode cM_search 2 = .ok (.iload_n 1, 1) := by decide +kernel
theorem dM_search_3 : decode cM_search 3 = .ok (.aload_n 0, 1) := by decide +kernel
theorem dM_search_4 : decode cM_search 4 = .ok (.getfield 92, 3) := by decide +kernel
theorem dM_search_7 : decode cM_search 7 = .ok (.if_icmp .ge 23, 3) := by decide +kernel
theorem dM_search_10 : decode cM_search 10 = .ok (.aload_n 0, 1) := by decide +kernel
theorem dM_search_11 : decode cM_search 11 = .ok (.getfield 16, 3) := by decide +kernel
theorem dM_search_14 : decode cM_search 14 = .ok (.iload_n 1, 1) := by decide +kernel
theorem dM_search_15 : decode cM_search 15 = .ok (.iconst 0, 1) := by decide +kernel
theorem dM_search_16 : decode cM_search 16 = .ok (.iastore, 1) := by decide +kernel
theorem dM_search_17 : decode cM_search 17 = .ok (.aload_n 0, 1) := by decide +kernel
theorem dM_search_18 : decode cM_search 18 = .ok (.getfield 19, 3) := by decide +kernel
theorem dM_search_21 : decode cM_search 21 = .ok (.iload_n 1, 1) := by decide +kernel
theorem dM_search_22 : decode cM_search 22 = .ok (.iconst 0, 1) := by decide +kernel
theorem dM_search_23 : decode cM_search 23 = .ok (.iastore, 1) := by decide +kernel
theorem dM_search_24 : decode cM_search 24 = .ok (.iinc 1 1, 3) := by decide +kernel
theorem dM_search_27 : decode cM_search 27 = .ok (.goto (-25), 3) := by decide +kernel
theorem dM_search_30 : decode cM_search 30 = .ok (.iconst 1, 1) := by decide +kernel
theorem dM_search_31 : decode cM_search 31 = .ok (.istore_n 1, 1) := by decide +kernel
theorem dM_search_32 : decode cM_search 32 = .ok (.aload_n 0, 1) := by decide +kernel
theorem dM_search_33 : decode cM_search 33 = .ok (.getfield 22, 3) := by decide +kernel
theorem dM_search_36 : decode cM_search 36 = .ok (.iconst 0, 1) := by decide +kernel
theorem dM_search_37 : decode cM_search 37 = .ok (.iconst 0, 1) := by decide +kernel
theorem dM_search_38 : decode cM_search 38 = .ok (.iastore, 1) := by decide +kernel
theorem dM_search_39 : decode cM_search 39 = .ok (.aload_n 0, 1) := by decide +kernel
theorem dM_search_40 : decode cM_search 40 = .ok (.getfield 16, 3) := by decide +kernel
theorem dM_search_43 : decode cM_search 43 = .ok (.iconst 0, 1) := by decide +kernel
theorem dM_search_44 : decode cM_search 44 = .ok (.iconst 1, 1) := by decide +kernel
theorem dM_search_45 : decode cM_search 45 = .ok (.iastore, 1) := by decide +kernel
theorem dM_search_46 : decode cM_search 46 = .ok (.iload_n 1, 1) := by decide +kernel
theorem dM_search_47 : decode cM_search 47 = .ok (.ifCond .le 103, 3) := by decide +kernel
theorem dM_search_50 : decode cM_search 50 = .ok (.aload_n 0, 1) := by decide +kernel
theorem dM_search_51 : decode cM_search 51 = .ok (.getfield 22, 3) := by decide +kernel
theorem dM_search_54 : decode cM_search 54 = .ok (.iload_n 1, 1) := by decide +kernel
theorem dM_search_55 : decode cM_search 55 = .ok (.iconst 1, 1) := by decide +kernel
theorem dM_search_56 : decode cM_search 56 = .ok (.isub, 1) := by decide +kernel
theorem dM_search_57 : decode cM_search 57 = .ok (.iaload, 1) := by decide +kernel
theorem dM_search_58 : decode cM_search 58 = .ok (.istore_n 2, 1) := by decide +kernel
theorem dM_search_59 : decode cM_search 59 = .ok (.aload_n 0, 1) := by decide +kernel
theorem dM_search_60 : decode cM_search 60 = .ok (.iload_n 2, 1) := by decide +kernel
theorem dM_search_61 : decode cM_search 61 = .ok (.invokevirtual 107, 3) := by decide +kernel
theorem dM_search_64 : decode cM_search 64 = .ok (.istore_n 3, 1) := by decide +kernel
theorem dM_search_65 : decode cM_search 65 = .ok (.iload_n 3, 1) := by decide +kernel
theorem dM_search_66 : decode cM_search 66 = .ok (.aload_n 0, 1) := by decide +kernel
theorem dM_search_67 : decode cM_search 67 = .ok (.getfield 100, 3) := by decide +kernel
theorem dM_search_70 : decode cM_search 70 = .ok (.if_icmp .lt 17, 3) := by decide +kernel
theorem dM_search_73 : decode cM_search 73 = .ok (.aload_n 0, 1) := by decide +kernel
theorem dM_search_74 : decode cM_search 74 = .ok (.getfield 16, 3) := by decide +kernel
theorem dM_search_77 : decode cM_search 77 = .ok (.iload_n 2, 1) := by decide +kernel
theorem dM_search_78 : decode cM_search 78 = .ok (.iconst 2, 1) := by decide +kernel
theorem dM_search_79 : decode cM_search 79 = .ok (.iastore, 1) := by decide +kernel
theorem dM_search_80 : decode cM_search 80 = .ok (.iload_n 1, 1) := by decide +kernel
theorem dM_search_81 : decode cM_search 81 = .ok (.iconst 1, 1) := by decide +kernel
theorem dM_search_82 : decode cM_search 82 = .ok (.isub, 1) := by decide +kernel
theorem dM_search_83 : decode cM_search 83 = .ok (.istore_n 1, 1) := by decide +kernel
theorem dM_search_84 : decode cM_search 84 = .ok (.goto 63, 3) := by decide +kernel
theorem dM_search_87 : decode cM_search 87 = .ok (.aload_n 0, 1) := by decide +kernel
theorem dM_search_88 : decode cM_search 88 = .ok (.getfield 13, 3) := by decide +kernel
theorem dM_search_91 : decode cM_search 91 = .ok (.iload_n 3, 1) := by decide +kernel
theorem dM_search_92 : decode cM_search 92 = .ok (.iaload, 1) := by decide +kernel
theorem dM_search_93 : decode cM_search 93 = .ok (.istore 4, 2) := by decide +kernel
theorem dM_search_95 : decode cM_search 95 = .ok (.aload_n 0, 1) := by decide +kernel
theorem dM_search_96 : decode cM_search 96 = .ok (.getfield 25, 3) := by decide +kernel
theorem dM_search_99 : decode cM_search 99 = .ok (.iload_n 3, 1) := by decide +kernel
theorem dM_search_100 : decode cM_search 100 = .ok (.aload_n 0, 1) := by decide +kernel
theorem dM_search_101 : decode cM_search 101 = .ok (.getfield 16, 3) := by decide +kernel
theorem dM_search_104 : decode cM_search 104 = .ok (.iload 4, 2) := by decide +kernel
theorem dM_search_106 : decode cM_search 106 = .ok (.iaload, 1) := by decide +kernel
theorem dM_search_107 : decode cM_search 107 = .ok (.iconst 1, 1) := by decide +kernel
theorem dM_search_108 : decode cM_search 108 = .ok (.if_icmp .ne 7, 3) := by decide +kernel
theorem dM_search_111 : decode cM_search 111 = .ok (.iconst 1, 1) := by decide +kernel
theorem dM_search_112 : decode cM_search 112 = .ok (.goto 4, 3) := by decide +kernel
theorem dM_search_115 : decode cM_search 115 = .ok (.iconst 0, 1) := by decide +kernel
theorem dM_search_116 : decode cM_search 116 = .ok (.bastore, 1) := by decide +kernel
theorem dM_search_117 : decode cM_search 117 = .ok (.aload_n 0, 1) := by decide +kernel
theorem dM_search_118 : decode cM_search 118 = .ok (.getfield 16, 3) := by decide +kernel
theorem dM_search_121 : decode cM_search 121 = .ok (.iload 4, 2) := by decide +kernel
theorem dM_search_123 : decode cM_search 123 = .ok (.iaload, 1) := by decide +kernel
theorem dM_search_124 : decode cM_search 124 = .ok (.ifCond .ne 23, 3) := by decide +kernel
theorem dM_search_127 : decode cM_search 127 = .ok (.aload_n 0, 1) := by decide +kernel
theorem dM_search_128 : decode cM_search 128 = .ok (.getfield 16, 3) := by decide +kernel
theorem dM_search_131 : decode cM_search 131 = .ok (.iload 4, 2) := by decide +kernel
theorem dM_search_133 : decode cM_search 133 = .ok (.iconst 1, 1) := by decide +kernel
theorem dM_search_134 : decode cM_search 134 = .ok (.iastore, 1) := by decide +kernel
theorem dM_search_135 : decode cM_search 135 = .ok (.aload_n 0, 1) := by decide +kernel
theorem dM_search_136 : decode cM_search 136 = .ok (.getfield 22, 3) := by decide +kernel
theorem dM_search_139 : decode cM_search 139 = .ok (.iload_n 1, 1) := by decide +kernel
theorem dM_search_140 : decode cM_search 140 = .ok (.iload 4, 2) := by decide +kernel
theorem dM_search_142 : decode cM_search 142 = .ok (.iastore, 1) := by decide +kernel
theorem dM_search_143 : decode cM_search 143 = .ok (.iload_n 1, 1) := by decide +kernel
theorem dM_search_144 : decode cM_search 144 = .ok (.iconst 1, 1) := by decide +kernel
theorem dM_search_145 : decode cM_search 145 = .ok (.iadd, 1) := by decide +kernel
theorem dM_search_146 : decode cM_search 146 = .ok (.istore_n 1, 1) := by decide +kernel
theorem dM_search_147 : decode cM_search 147 = .ok (.goto (-101), 3) := by decide +kernel
theorem dM_search_150 : decode cM_search 150 = .ok (.return_, 1) := by decide +kernel
theorem dM_spread_0 : decode cM_spread 0 = .ok (.iconst 0, 1) := by decide +kernel
theorem dM_spread_1 : decode cM_spread 1 = .ok (.istore_n 2, 1) := by decide +kernel
theorem dM_spread_2 : decode cM_spread 2 = .ok (.iload_n 2, 1) := by decide +kernel
theorem dM_spread_3 : decode cM_spread 3 = .ok (.aload_n 0, 1) := by decide +kernel
theorem dM_spread_4 : decode cM_spread 4 = .ok (.getfield 92, 3) := by decide +kernel
theorem dM_spread_7 : decode cM_spread 7 = .ok (.if_icmp .ge 61, 3) := by decide +kernel
theorem dM_spread_10 : decode cM_spread 10 = .ok (.iconst 0, 1) := by decide +kernel
theorem dM_spread_11 : decode cM_spread 11 = .ok (.istore_n 3, 1) := by decide +kernel
theorem dM_spread_12 : decode cM_spread 12 = .ok (.iload_n 3, 1) := by decide +kernel
theorem dM_spread_13 : decode cM_spread 13 = .ok (.aload_n 0, 1) := by decide +kernel
theorem dM_spread_14 : decode cM_spread 14 = .ok (.getfield 100, 3) := by decide +kernel
theorem dM_spread_17 : decode cM_spread 17 = .ok (.if_icmp .ge 45, 3) := by decide +kernel
theorem dM_spread_20 : decode cM_spread 20 = .ok (.aload_n 0, 1) := by decide +kernel
theorem dM_spread_21 : decode cM_spread 21 = .ok (.getfield 7, 3) := by decide +kernel
theorem dM_spread_24 : decode cM_spread 24 = .ok (.iload_n 3, 1) := by decide +kernel
theorem dM_spread_25 : decode cM_spread 25 = .ok (.iaload, 1) := by decide +kernel
theorem dM_spread_26 : decode cM_spread 26 = .ok (.iload_n 1, 1) := by decide +kernel
theorem dM_spread_27 : decode cM_spread 27 = .ok (.if_icmp .eq 29, 3) := by decide +kernel
theorem dM_spread_30 : decode cM_spread 30 = .ok (.aload_n 0, 1) := by decide +kernel
theorem dM_spread_31 : decode cM_spread 31 = .ok (.getfield 29, 3) := by decide +kernel
theorem dM_spread_34 : decode cM_spread 34 = .ok (.aload_n 0, 1) := by decide +kernel
theorem dM_spread_35 : decode cM_spread 35 = .ok (.getfield 13, 3) := by decide +kernel
theorem dM_spread_38 : decode cM_spread 38 = .ok (.iload_n 3, 1) := by decide +kernel
theorem dM_spread_39 : decode cM_spread 39 = .ok (.iaload, 1) := by decide +kernel
theorem dM_spread_40 : decode cM_spread 40 = .ok (.baload, 1) := by decide +kernel
theorem dM_spread_41 : decode cM_spread 41 = .ok (.ifCond .eq 15, 3) := by decide +kernel
theorem dM_spread_44 : decode cM_spread 44 = .ok (.aload_n 0, 1) := by decide +kernel
theorem dM_spread_45 : decode cM_spread 45 = .ok (.getfield 29, 3) := by decide +kernel
theorem dM_spread_48 : decode cM_spread 48 = .ok (.aload_n 0, 1) := by decide +kernel
theorem dM_spread_49 : decode cM_spread 49 = .ok (.getfield 7, 3) := by decide +kernel
theorem dM_spread_52 : decode cM_spread 52 = .ok (.iload_n 3, 1) := by decide +kernel
theorem dM_spread_53 : decode cM_spread 53 = .ok (.iaload, 1) := by decide +kernel
theorem dM_spread_54 : decode cM_spread 54 = .ok (.iconst 1, 1) := by decide +kernel
theorem dM_spread_55 : decode cM_spread 55 = .ok (.bastore, 1) := by decide +kernel
theorem dM_spread_56 : decode cM_spread 56 = .ok (.iinc 3 1, 3) := by decide +kernel
theorem dM_spread_59 : decode cM_spread 59 = .ok (.goto (-47), 3) := by decide +kernel
theorem dM_spread_62 : decode cM_spread 62 = .ok (.iinc 2 1, 3) := by decide +kernel
theorem dM_spread_65 : decode cM_spread 65 = .ok (.goto (-63), 3) := by decide +kernel
theorem dM_spread_68 : decode cM_spread 68 = .ok (.return_, 1) := by decide +kernel
theorem dM_connected_0 : decode cM_connected 0 = .ok (.iconst 1, 1) := by decide +kernel
theorem dM_connected_1 : decode cM_connected 1 = .ok (.istore_n 1, 1) := by decide +kernel
theorem dM_connected_2 : decode cM_connected 2 = .ok (.iconst 0, 1) := by decide +kernel
theorem dM_connected_3 : decode cM_connected 3 = .ok (.istore_n 2, 1) := by decide +kernel
theorem dM_connected_4 : decode cM_connected 4 = .ok (.iload_n 2, 1) := by decide +kernel
theorem dM_connected_5 : decode cM_connected 5 = .ok (.aload_n 0, 1) := by decide +kernel
theorem dM_connected_6 : decode cM_connected 6 = .ok (.getfield 92, 3) := by decide +kernel
theorem dM_connected_9 : decode cM_connected 9 = .ok (.if_icmp .ge 25, 3) := by decide +kernel
theorem dM_connected_12 : decode cM_connected 12 = .ok (.aload_n 0, 1) := by decide +kernel
theorem dM_connected_13 : decode cM_connected 13 = .ok (.getfield 29, 3) := by decide +kernel
theorem dM_connected_16 : decode cM_connected 16 = .ok (.iload_n 2, 1) := by decide +kernel
theorem dM_connected_17 : decode cM_connected 17 = .ok (.iload_n 2, 1) := by decide +kernel
theorem dM_connected_18 : decode cM_connected 18 = .ok (.iconst 1, 1) := by decide +kernel
theorem dM_connected_19 : decode cM_connected 19 = .ok (.if_icmp .ne 7, 3) := by decide +kernel
theorem dM_connected_22 : decode cM_connected 22 = .ok (.iconst 1, 1) := by decide +kernel
theorem dM_connected_23 : decode cM_connected 23 = .ok (.goto 4, 3) := by decide +kernel
theorem dM_connected_26 : decode cM_connected 26 = .ok (.iconst 0, 1) := by decide +kernel
theorem dM_connected_27 : decode cM_connected 27 = .ok (.bastore, 1) := by decide +kernel
theorem dM_connected_28 : decode cM_connected 28 = .ok (.iinc 2 1, 3) := by decide +kernel
theorem dM_connected_31 : decode cM_connected 31 = .ok (.goto (-27), 3) := by decide +kernel
theorem dM_connected_34 : decode cM_connected 34 = .ok (.aload_n 0, 1) := by decide +kernel
theorem dM_connected_35 : decode cM_connected 35 = .ok (.iconst (-1), 1) := by decide +kernel
theorem dM_connected_36 : decode cM_connected 36 = .ok (.invokevirtual 111, 3) := by decide +kernel
theorem dM_connected_39 : decode cM_connected 39 = .ok (.iconst 0, 1) := by decide +kernel
theorem dM_connected_40 : decode cM_connected 40 = .ok (.istore_n 2, 1) := by decide +kernel
theorem dM_connected_41 : decode cM_connected 41 = .ok (.iload_n 2, 1) := by decide +kernel
theorem dM_connected_42 : decode cM_connected 42 = .ok (.aload_n 0, 1) := by decide +kernel
theorem dM_connected_43 : decode cM_connected 43 = .ok (.getfield 92, 3) := by decide +kernel
theorem dM_connected_46 : decode cM_connected 46 = .ok (.if_icmp .ge 38, 3) := by decide +kernel
theorem dM_connected_49 : decode cM_connected 49 = .ok (.iload_n 1, 1) := by decide +kernel
theorem dM_connected_50 : decode cM_connected 50 = .ok (.ifCond .eq 26, 3) := by decide +kernel
theorem dM_connected_53 : decode cM_connected 53 = .ok (.aload_n 0, 1) := by decide +kernel
theorem dM_connected_54 : decode cM_connected 54 = .ok (.getfield 29, 3) := by decide +kernel
theorem dM_connected_57 : decode cM_connected 57 = .ok (.iload_n 2, 1) := by decide +kernel
theorem dM_connected_58 : decode cM_connected 58 = .ok (.baload, 1) := by decide +kernel
theorem dM_connected_59 : decode cM_connected 59 = .ok (.ifCond .eq 17, 3) := by decide +kernel
theorem dM_connected_62 : decode cM_connected 62 = .ok (.aload_n 0, 1) := by decide +kernel
theorem dM_connected_63 : decode cM_connected 63 = .ok (.getfield 16, 3) := by decide +kernel
theorem dM_connected_66 : decode cM_connected 66 = .ok (.iload_n 2, 1) := by decide +kernel
theorem dM_connected_67 : decode cM_connected 67 = .ok (.iaload, 1) := by decide +kernel
theorem dM_connected_68 : decode cM_connected 68 = .ok (.iconst 2, 1) := by decide +kernel
theorem dM_connected_69 : decode cM_connected 69 = .ok (.if_icmp .ne 7, 3) := by decide +kernel
theorem dM_connected_72 : decode cM_connected 72 = .ok (.iconst 1, 1) := by decide +kernel
theorem dM_connected_73 : decode cM_connected 73 = .ok (.goto 4, 3) := by decide +kernel
theorem dM_connected_76 : decode cM_connected 76 = .ok (.iconst 0, 1) := by decide +kernel
theorem dM_connected_77 : decode cM_connected 77 = .ok (.istore_n 1, 1) := by decide +kernel
theorem dM_connected_78 : decode cM_connected 78 = .ok (.iinc 2 1, 3) := by decide +kernel
theorem dM_connected_81 : decode cM_connected 81 = .ok (.goto (-40), 3) := by decide +kernel
theorem dM_connected_84 : decode cM_connected 84 = .ok (.iload_n 1, 1) := by decide +kernel
theorem dM_connected_85 : decode cM_connected 85 = .ok (.ireturn, 1) := by decide +kernel
theorem dM_deepen_0 : decode cM_deepen 0 = .ok (.iconst 0, 1) := by decide +kernel
theorem dM_deepen_1 : decode cM_deepen 1 = .ok (.istore_n 1, 1) := by decide +kernel
theorem dM_deepen_2 : decode cM_deepen 2 = .ok (.iload_n 1, 1) := by decide +kernel
theorem dM_deepen_3 : decode cM_deepen 3 = .ok (.aload_n 0, 1) := by decide +kernel
theorem dM_deepen_4 : decode cM_deepen 4 = .ok (.getfield 92, 3) := by decide +kernel
theorem dM_deepen_7 : decode cM_deepen 7 = .ok (.if_icmp .ge 16, 3) := by decide +kernel
theorem dM_deepen_10 : decode cM_deepen 10 = .ok (.aload_n 0, 1) := by decide +kernel
theorem dM_deepen_11 : decode cM_deepen 11 = .ok (.getfield 32, 3) := by decide +kernel
theorem dM_deepen_14 : decode cM_deepen 14 = .ok (.iload_n 1, 1) := by decide +kernel
theorem dM_deepen_15 : decode cM_deepen 15 = .ok (.iconst 0, 1) := by decide +kernel
theorem dM_deepen_16 : decode cM_deepen 16 = .ok (.iastore, 1) := by decide +kernel
theorem dM_deepen_17 : decode cM_deepen 17 = .ok (.iinc 1 1, 3) := by decide +kernel
theorem dM_deepen_20 : decode cM_deepen 20 = .ok (.goto (-18), 3) := by decide +kernel
theorem dM_deepen_23 : decode cM_deepen 23 = .ok (.iconst 0, 1) := by decide +kernel
theorem dM_deepen_24 : decode cM_deepen 24 = .ok (.istore_n 1, 1) := by decide +kernel
theorem dM_deepen_25 : decode cM_deepen 25 = .ok (.iload_n 1, 1) := by decide +kernel
theorem dM_deepen_26 : decode cM_deepen 26 = .ok (.aload_n 0, 1) := by decide +kernel
theorem dM_deepen_27 : decode cM_deepen 27 = .ok (.getfield 100, 3) := by decide +kernel
theorem dM_deepen_30 : decode cM_deepen 30 = .ok (.if_icmp .ge 127, 3) := by decide +kernel
theorem dM_deepen_33 : decode cM_deepen 33 = .ok (.aload_n 0, 1) := by decide +kernel
theorem dM_deepen_34 : decode cM_deepen 34 = .ok (.getfield 25, 3) := by decide +kernel
theorem dM_deepen_37 : decode cM_deepen 37 = .ok (.iload_n 1, 1) := by decide +kernel
theorem dM_deepen_38 : decode cM_deepen 38 = .ok (.baload, 1) := by decide +kernel
theorem dM_deepen_39 : decode cM_deepen 39 = .ok (.ifCond .eq 112, 3) := by decide +kernel
theorem dM_deepen_42 : decode cM_deepen 42 = .ok (.aload_n 0, 1) := by decide +kernel
theorem dM_deepen_43 : decode cM_deepen 43 = .ok (.getfield 13, 3) := by decide +kernel
theorem dM_deepen_46 : decode cM_deepen 46 = .ok (.iload_n 1, 1) := by decide +kernel
theorem dM_deepen_47 : decode cM_deepen 47 = .ok (.iaload, 1) := by decide +kernel
theorem dM_deepen_48 : decode cM_deepen 48 = .ok (.istore_n 2, 1) := by decide +kernel
theorem dM_deepen_49 : decode cM_deepen 49 = .ok (.iconst 0, 1) := by decide +kernel
theorem dM_deepen_50 : decode cM_deepen 50 = .ok (.istore_n 3, 1) := by decide +kernel
theorem dM_deepen_51 : decode cM_deepen 51 = .ok (.iload_n 3, 1) := by decide +kernel
theorem dM_deepen_52 : decode cM_deepen 52 = .ok (.aload_n 0, 1) := by decide +kernel
theorem dM_deepen_53 : decode cM_deepen 53 = .ok (.getfield 92, 3) := by decide +kernel
theorem dM_deepen_56 : decode cM_deepen 56 = .ok (.if_icmp .ge 35, 3) := by decide +kernel
theorem dM_deepen_59 : decode cM_deepen 59 = .ok (.aload_n 0, 1) := by decide +kernel
theorem dM_deepen_60 : decode cM_deepen 60 = .ok (.getfield 29, 3) := by decide +kernel
theorem dM_deepen_63 : decode cM_deepen 63 = .ok (.iload_n 3, 1) := by decide +kernel
theorem dM_deepen_64 : decode cM_deepen 64 = .ok (.iload_n 3, 1) := by decide +kernel
theorem dM_deepen_65 : decode cM_deepen 65 = .ok (.aload_n 0, 1) := by decide +kernel
theorem dM_deepen_66 : decode cM_deepen 66 = .ok (.getfield 7, 3) := by decide +kernel
theorem dM_deepen_69 : decode cM_deepen 69 = .ok (.iload_n 1, 1) := by decide +kernel
