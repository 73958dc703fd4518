/-! rows that decode, A -/
theorem dA_init_0 : decode cA_init 0 = .ok (.aload_n 0, 1) := by decide +kernel
theorem dA_init_1 : decode cA_init 1 = .ok (.invokespecial 3, 3) := by decide +kernel
theorem dA_init_4 : decode cA_init 4 = .ok (.aload_n 0, 1) := by decide +kernel
theorem dA_init_5 : decode cA_init 5 = .ok (.new 9, 3) := by decide +kernel
theorem dA_init_8 : decode cA_init 8 = .ok (.dup, 1) := by decide +kernel
theorem dA_init_9 : decode cA_init 9 = .ok (.iconst 2, 1) := by decide +kernel
theorem dA_init_10 : decode cA_init 10 = .ok (.bipush 12, 2) := by decide +kernel
theorem dA_init_12 : decode cA_init 12 = .ok (.iload_n 1, 1) := by decide +kernel
theorem dA_init_13 : decode cA_init 13 = .ok (.invokestatic 13, 3) := by decide +kernel
theorem dA_init_16 : decode cA_init 16 = .ok (.invokestatic 19, 3) := by decide +kernel
theorem dA_init_19 : decode cA_init 19 = .ok (.invokespecial 22, 3) := by decide +kernel
theorem dA_init_22 : decode cA_init 22 = .ok (.putfield 25, 3) := by decide +kernel
theorem dA_init_25 : decode cA_init 25 = .ok (.aload_n 0, 1) := by decide +kernel
theorem dA_init_26 : decode cA_init 26 = .ok (.new 29, 3) := by decide +kernel
theorem dA_init_29 : decode cA_init 29 = .ok (.dup, 1) := by decide +kernel
theorem dA_init_30 : decode cA_init 30 = .ok (.aload_n 0, 1) := by decide +kernel
theorem dA_init_31 : decode cA_init 31 = .ok (.getfield 25, 3) := by decide +kernel
theorem dA_init_34 : decode cA_init 34 = .ok (.invokespecial 31, 3) := by decide +kernel
theorem dA_init_37 : decode cA_init 37 = .ok (.putfield 34, 3) := by decide +kernel
theorem dA_init_40 : decode cA_init 40 = .ok (.aload_n 0, 1) := by decide +kernel
theorem dA_init_41 : decode cA_init 41 = .ok (.new 38, 3) := by decide +kernel
theorem dA_init_44 : decode cA_init 44 = .ok (.dup, 1) := by decide +kernel
theorem dA_init_45 : decode cA_init 45 = .ok (.aload_n 0, 1) := by decide +kernel
theorem dA_init_46 : decode cA_init 46 = .ok (.getfield 25, 3) := by decide +kernel
theorem dA_init_49 : decode cA_init 49 = .ok (.aload_n 0, 1) := by decide +kernel
theorem dA_init_50 : decode cA_init 50 = .ok (.getfield 34, 3) := by decide +kernel
theorem dA_init_53 : decode cA_init 53 = .ok (.invokespecial 40, 3) := by decide +kernel
theorem dA_init_56 : decode cA_init 56 = .ok (.putfield 43, 3) := by decide +kernel
theorem dA_init_59 : decode cA_init 59 = .ok (.aload_n 0, 1) := by decide +kernel
theorem dA_init_60 : decode cA_init 60 = .ok (.new 47, 3) := by decide +kernel
theorem dA_init_63 : decode cA_init 63 = .ok (.dup, 1) := by decide +kernel
theorem dA_init_64 : decode cA_init 64 = .ok (.aload_n 0, 1) := by decide +kernel
theorem dA_init_65 : decode cA_init 65 = .ok (.getfield 25, 3) := by decide +kernel
theorem dA_init_68 : decode cA_init 68 = .ok (.invokespecial 49, 3) := by decide +kernel
theorem dA_init_71 : decode cA_init 71 = .ok (.putfield 50, 3) := by decide +kernel
theorem dA_init_74 : decode cA_init 74 = .ok (.aload_n 0, 1) := by decide +kernel
theorem dA_init_75 : decode cA_init 75 = .ok (.new 54, 3) := by decide +kernel
theorem dA_init_78 : decode cA_init 78 = .ok (.dup, 1) := by decide +kernel
theorem dA_init_79 : decode cA_init 79 = .ok (.aload_n 0, 1) := by decide +kernel
theorem dA_init_80 : decode cA_init 80 = .ok (.getfield 25, 3) := by decide +kernel
theorem dA_init_83 : decode cA_init 83 = .ok (.aload_n 0, 1) := by decide +kernel
theorem dA_init_84 : decode cA_init 84 = .ok (.getfield 34, 3) := by decide +kernel
theorem dA_init_87 : decode cA_init 87 = .ok (.invokespecial 56, 3) := by decide +kernel
theorem dA_init_90 : decode cA_init 90 = .ok (.putfield 57, 3) := by decide +kernel
theorem dA_init_93 : decode cA_init 93 = .ok (.aload_n 0, 1) := by decide +kernel
theorem dA_init_94 : decode cA_init 94 = .ok (.new 61, 3) := by decide +kernel
theorem dA_init_97 : decode cA_init 97 = .ok (.dup, 1) := by decide +kernel
theorem dA_init_98 : decode cA_init 98 = .ok (.aload_n 0, 1) := by decide +kernel
theorem dA_init_99 : decode cA_init 99 = .ok (.getfield 25, 3) := by decide +kernel
theorem dA_init_102 : decode cA_init 102 = .ok (.aload_n 0, 1) := by decide +kernel
theorem dA_init_103 : decode cA_init 103 = .ok (.getfield 50, 3) := by decide +kernel
theorem dA_init_106 : decode cA_init 106 = .ok (.invokespecial 63, 3) := by decide +kernel
theorem dA_init_109 : decode cA_init 109 = .ok (.putfield 66, 3) := by decide +kernel
theorem dA_init_112 : decode cA_init 112 = .ok (.aload_n 0, 1) := by decide +kernel
theorem dA_init_113 : decode cA_init 113 = .ok (.iconst 0, 1) := by decide +kernel
theorem dA_init_114 : decode cA_init 114 = .ok (.putfield 70, 3) := by decide +kernel
theorem dA_init_117 : decode cA_init 117 = .ok (.aload_n 0, 1) := by decide +kernel
theorem dA_init_118 : decode cA_init 118 = .ok (.iconst (-1), 1) := by decide +kernel
theorem dA_init_119 : decode cA_init 119 = .ok (.putfield 74, 3) := by decide +kernel
theorem dA_init_122 : decode cA_init 122 = .ok (.aload_n 0, 1) := by decide +kernel
theorem dA_init_123 : decode cA_init 123 = .ok (.iconst 0, 1) := by decide +kernel
theorem dA_init_124 : decode cA_init 124 = .ok (.putfield 78, 3) := by decide +kernel
theorem dA_init_127 : decode cA_init 127 = .ok (.return_, 1) := by decide +kernel
theorem dA_edge_0 : decode cA_edge 0 = .ok (.aload_n 0, 1) := by decide +kernel
theorem dA_edge_1 : decode cA_edge 1 = .ok (.getfield 70, 3) := by decide +kernel
theorem dA_edge_4 : decode cA_edge 4 = .ok (.ifCond .ne 25, 3) := by decide +kernel
theorem dA_edge_7 : decode cA_edge 7 = .ok (.aload_n 0, 1) := by decide +kernel
theorem dA_edge_8 : decode cA_edge 8 = .ok (.getfield 25, 3) := by decide +kernel
theorem dA_edge_11 : decode cA_edge 11 = .ok (.iload_n 1, 1) := by decide +kernel
theorem dA_edge_12 : decode cA_edge 12 = .ok (.invokevirtual 81, 3) := by decide +kernel
theorem dA_edge_15 : decode cA_edge 15 = .ok (.ifCond .eq 14, 3) := by decide +kernel
theorem dA_edge_18 : decode cA_edge 18 = .ok (.aload_n 0, 1) := by decide +kernel
theorem dA_edge_19 : decode cA_edge 19 = .ok (.getfield 25, 3) := by decide +kernel
theorem dA_edge_22 : decode cA_edge 22 = .ok (.iload_n 2, 1) := by decide +kernel
theorem dA_edge_23 : decode cA_edge 23 = .ok (.invokevirtual 81, 3) := by decide +kernel
theorem dA_edge_26 : decode cA_edge 26 = .ok (.ifCond .ne 5, 3) := by decide +kernel
theorem dA_edge_29 : decode cA_edge 29 = .ok (.iconst (-1), 1) := by decide +kernel
theorem dA_edge_30 : decode cA_edge 30 = .ok (.ireturn, 1) := by decide +kernel
theorem dA_edge_31 : decode cA_edge 31 = .ok (.iload_n 1, 1) := by decide +kernel
theorem dA_edge_32 : decode cA_edge 32 = .ok (.iconst 1, 1) := by decide +kernel
theorem dA_edge_33 : decode cA_edge 33 = .ok (.if_icmp .eq 7, 3) := by decide +kernel
theorem dA_edge_36 : decode cA_edge 36 = .ok (.iload_n 2, 1) := by decide +kernel
theorem dA_edge_37 : decode cA_edge 37 = .ok (.ifCond .ne 5, 3) := by decide +kernel
theorem dA_edge_40 : decode cA_edge 40 = .ok (.iconst (-1), 1) := by decide +kernel
theorem dA_edge_41 : decode cA_edge 41 = .ok (.ireturn, 1) := by decide +kernel
theorem dA_edge_42 : decode cA_edge 42 = .ok (.aload_n 0, 1) := by decide +kernel
theorem dA_edge_43 : decode cA_edge 43 = .ok (.getfield 25, 3) := by decide +kernel
theorem dA_edge_46 : decode cA_edge 46 = .ok (.getfield 85, 3) := by decide +kernel
theorem dA_edge_49 : decode cA_edge 49 = .ok (.bipush 24, 2) := by decide +kernel
theorem dA_edge_51 : decode cA_edge 51 = .ok (.if_icmp .ge 15, 3) := by decide +kernel
theorem dA_edge_54 : decode cA_edge 54 = .ok (.aload_n 0, 1) := by decide +kernel
theorem dA_edge_55 : decode cA_edge 55 = .ok (.getfield 25, 3) := by decide +kernel
theorem dA_edge_58 : decode cA_edge 58 = .ok (.iload_n 1, 1) := by decide +kernel
theorem dA_edge_59 : decode cA_edge 59 = .ok (.iload_n 2, 1) := by decide +kernel
theorem dA_edge_60 : decode cA_edge 60 = .ok (.invokevirtual 88, 3) := by decide +kernel
theorem dA_edge_63 : decode cA_edge 63 = .ok (.goto 5, 3) := by decide +kernel
theorem dA_edge_66 : decode cA_edge 66 = .ok (.bipush (-2), 2) := by decide +kernel
theorem dA_edge_68 : decode cA_edge 68 = .ok (.ireturn, 1) := by decide +kernel
theorem dA_seal_0 : decode cA_seal 0 = .ok (.aload_n 0, 1) := by decide +kernel
theorem dA_seal_1 : decode cA_seal 1 = .ok (.getfield 70, 3) := by decide +kernel
theorem dA_seal_4 : decode cA_seal 4 = .ok (.ifCond .eq 5, 3) := by decide +kernel
theorem dA_seal_7 : decode cA_seal 7 = .ok (.iconst (-1), 1) := by decide +kernel
theorem dA_seal_8 : decode cA_seal 8 = .ok (.ireturn, 1) := by decide +kernel
theorem dA_seal_9 : decode cA_seal 9 = .ok (.aload_n 0, 1) := by decide +kernel
theorem dA_seal_10 : decode cA_seal 10 = .ok (.getfield 34, 3) := by decide +kernel
theorem dA_seal_13 : decode cA_seal 13 = .ok (.invokevirtual 91, 3) := by decide +kernel
theorem dA_seal_16 : decode cA_seal 16 = .ok (.aload_n 0, 1) := by decide +kernel
theorem dA_seal_17 : decode cA_seal 17 = .ok (.getfield 34, 3) := by decide +kernel
theorem dA_seal_20 : decode cA_seal 20 = .ok (.invokevirtual 94, 3) := by decide +kernel
theorem dA_seal_23 : decode cA_seal 23 = .ok (.ifCond .eq 13, 3) := by decide +kernel
theorem dA_seal_26 : decode cA_seal 26 = .ok (.aload_n 0, 1) := by decide +kernel
theorem dA_seal_27 : decode cA_seal 27 = .ok (.getfield 25, 3) := by decide +kernel
theorem dA_seal_30 : decode cA_seal 30 = .ok (.invokevirtual 98, 3) := by decide +kernel
theorem dA_seal_33 : decode cA_seal 33 = .ok (.ifCond .ne 6, 3) := by decide +kernel
theorem dA_seal_36 : decode cA_seal 36 = .ok (.bipush (-2), 2) := by decide +kernel
theorem dA_seal_38 : decode cA_seal 38 = .ok (.ireturn, 1) := by decide +kernel
theorem dA_seal_39 : decode cA_seal 39 = .ok (.aload_n 0, 1) := by decide +kernel
theorem dA_seal_40 : decode cA_seal 40 = .ok (.getfield 57, 3) := by decide +kernel
theorem dA_seal_43 : decode cA_seal 43 = .ok (.invokevirtual 101, 3) := by decide +kernel
theorem dA_seal_46 : decode cA_seal 46 = .ok (.aload_n 0, 1) := by decide +kernel
theorem dA_seal_47 : decode cA_seal 47 = .ok (.getfield 57, 3) := by decide +kernel
theorem dA_seal_50 : decode cA_seal 50 = .ok (.getfield 104, 3) := by decide +kernel
theorem dA_seal_53 : decode cA_seal 53 = .ok (.sipush 200, 3) := by decide +kernel
theorem dA_seal_56 : decode cA_seal 56 = .ok (.if_icmp .le 6, 3) := by decide +kernel
theorem dA_seal_59 : decode cA_seal 59 = .ok (.bipush (-3), 2) := by decide +kernel
theorem dA_seal_61 : decode cA_seal 61 = .ok (.ireturn, 1) := by decide +kernel
theorem dA_seal_62 : decode cA_seal 62 = .ok (.aload_n 0, 1) := by decide +kernel
theorem dA_seal_63 : decode cA_seal 63 = .ok (.getfield 43, 3) := by decide +kernel
theorem dA_seal_66 : decode cA_seal 66 = .ok (.invokevirtual 107, 3) := by decide +kernel
theorem dA_seal_69 : decode cA_seal 69 = .ok (.aload_n 0, 1) := by decide +kernel
theorem dA_seal_70 : decode cA_seal 70 = .ok (.getfield 50, 3) := by decide +kernel
theorem dA_seal_73 : decode cA_seal 73 = .ok (.aload_n 0, 1) := by decide +kernel
theorem dA_seal_74 : decode cA_seal 74 = .ok (.getfield 43, 3) := by decide +kernel
theorem dA_seal_77 : decode cA_seal 77 = .ok (.getfield 110, 3) := by decide +kernel
theorem dA_seal_80 : decode cA_seal 80 = .ok (.aload_n 0, 1) := by decide +kernel
theorem dA_seal_81 : decode cA_seal 81 = .ok (.getfield 25, 3) := by decide +kernel
theorem dA_seal_84 : decode cA_seal 84 = .ok (.getfield 85, 3) := by decide +kernel
theorem dA_seal_87 : decode cA_seal 87 = .ok (.invokevirtual 114, 3) := by decide +kernel
theorem dA_seal_90 : decode cA_seal 90 = .ok (.aload_n 0, 1) := by decide +kernel
theorem dA_seal_91 : decode cA_seal 91 = .ok (.getfield 66, 3) := by decide +kernel
theorem dA_seal_94 : decode cA_seal 94 = .ok (.invokevirtual 118, 3) := by decide +kernel
theorem dA_seal_97 : decode cA_seal 97 = .ok (.aload_n 0, 1) := by decide +kernel
theorem dA_seal_98 : decode cA_seal 98 = .ok (.getfield 57, 3) := by decide +kernel
theorem dA_seal_101 : decode cA_seal 101 = .ok (.aload_n 0, 1) := by decide +kernel
theorem dA_seal_102 : decode cA_seal 102 = .ok (.getfield 43, 3) := by decide +kernel
theorem dA_seal_105 : decode cA_seal 105 = .ok (.getfield 110, 3) := by decide +kernel
theorem dA_seal_108 : decode cA_seal 108 = .ok (.invokevirtual 121, 3) := by decide +kernel
theorem dA_seal_111 : decode cA_seal 111 = .ok (.aload_n 0, 1) := by decide +kernel
theorem dA_seal_112 : decode cA_seal 112 = .ok (.iconst 1, 1) := by decide +kernel
theorem dA_seal_113 : decode cA_seal 113 = .ok (.putfield 70, 3) := by decide +kernel
theorem dA_seal_116 : decode cA_seal 116 = .ok (.aload_n 0, 1) := by decide +kernel
theorem dA_seal_117 : decode cA_seal 117 = .ok (.getfield 57, 3) := by decide +kernel
theorem dA_seal_120 : decode cA_seal 120 = .ok (.getfield 104, 3) := by decide +kernel
theorem dA_seal_123 : decode cA_seal 123 = .ok (.ireturn, 1) := by decide +kernel
theorem dA_back_0 : decode cA_back 0 = .ok (.aload_n 0, 1) := by decide +kernel
theorem dA_back_1 : decode cA_back 1 = .ok (.iload_n 1, 1) := by decide +kernel
theorem dA_back_2 : decode cA_back 2 = .ok (.invokevirtual 125, 3) := by decide +kernel
theorem dA_back_5 : decode cA_back 5 = .ok (.ifCond .eq 19, 3) := by decide +kernel
theorem dA_back_8 : decode cA_back 8 = .ok (.aload_n 0, 1) := by decide +kernel
theorem dA_back_9 : decode cA_back 9 = .ok (.getfield 34, 3) := by decide +kernel
theorem dA_back_12 : decode cA_back 12 = .ok (.getfield 128, 3) := by decide +kernel
theorem dA_back_15 : decode cA_back 15 = .ok (.iload_n 1, 1) := by decide +kernel
theorem dA_back_16 : decode cA_back 16 = .ok (.baload, 1) := by decide +kernel
theorem dA_back_17 : decode cA_back 17 = .ok (.ifCond .eq 7, 3) := by decide +kernel
theorem dA_back_20 : decode cA_back 20 = .ok (.iconst 1, 1) := by decide +kernel
theorem dA_back_21 : decode cA_back 21 = .ok (.goto 4, 3) := by decide +kernel
theorem dA_back_24 : decode cA_back 24 = .ok (.iconst 0, 1) := by decide +kernel
theorem dA_back_25 : decode cA_back 25 = .ok (.ireturn, 1) := by decide +kernel
theorem dA_depth_0 : decode cA_depth 0 = .ok (.aload_n 0, 1) := by decide +kernel
theorem dA_depth_1 : decode cA_depth 1 = .ok (.iload_n 1, 1) := by decide +kernel
theorem dA_depth_2 : decode cA_depth 2 = .ok (.invokevirtual 132, 3) := by decide +kernel
theorem dA_depth_5 : decode cA_depth 5 = .ok (.ifCond .eq 15, 3) := by decide +kernel
theorem dA_depth_8 : decode cA_depth 8 = .ok (.aload_n 0, 1) := by decide +kernel
theorem dA_depth_9 : decode cA_depth 9 = .ok (.getfield 43, 3) := by decide +kernel
theorem dA_depth_12 : decode cA_depth 12 = .ok (.getfield 135, 3) := by decide +kernel
theorem dA_depth_15 : decode cA_depth 15 = .ok (.iload_n 1, 1) := by decide +kernel
theorem dA_depth_16 : decode cA_depth 16 = .ok (.iaload, 1) := by decide +kernel
theorem dA_depth_17 : decode cA_depth 17 = .ok (.goto 4, 3) := by decide +kernel
theorem dA_depth_20 : decode cA_depth 20 = .ok (.iconst (-1), 1) := by decide +kernel
theorem dA_depth_21 : decode cA_depth 21 = .ok (.ireturn, 1) := by decide +kernel
theorem dA_probe_0 : decode cA_probe 0 = .ok (.aload_n 0, 1) := by decide +kernel
theorem dA_probe_1 : decode cA_probe 1 = .ok (.iload_n 1, 1) := by decide +kernel
theorem dA_probe_2 : decode cA_probe 2 = .ok (.invokevirtual 125, 3) := by decide +kernel
theorem dA_probe_5 : decode cA_probe 5 = .ok (.ifCond .eq 19, 3) := by decide +kernel
theorem dA_probe_8 : decode cA_probe 8 = .ok (.aload_n 0, 1) := by decide +kernel
theorem dA_probe_9 : decode cA_probe 9 = .ok (.getfield 50, 3) := by decide +kernel
theorem dA_probe_12 : decode cA_probe 12 = .ok (.getfield 138, 3) := by decide +kernel
theorem dA_probe_15 : decode cA_probe 15 = .ok (.iload_n 1, 1) := by decide +kernel
theorem dA_probe_16 : decode cA_probe 16 = .ok (.baload, 1) := by decide +kernel
theorem dA_probe_17 : decode cA_probe 17 = .ok (.ifCond .ne 7, 3) := by decide +kernel
theorem dA_probe_20 : decode cA_probe 20 = .ok (.iconst 1, 1) := by decide +kernel
theorem dA_probe_21 : decode cA_probe 21 = .ok (.goto 4, 3) := by decide +kernel
theorem dA_probe_24 : decode cA_probe 24 = .ok (.iconst 0, 1) := by decide +kernel
theorem dA_probe_25 : decode cA_probe 25 = .ok (.ireturn, 1) := by decide +kernel
theorem dA_increment_0 : decode cA_increment 0 = .ok (.aload_n 0, 1) := by decide +kernel
theorem dA_increment_1 : decode cA_increment 1 = .ok (.iload_n 1, 1) := by decide +kernel
theorem dA_increment_2 : decode cA_increment 2 = .ok (.invokevirtual 125, 3) := by decide +kernel
theorem dA_increment_5 : decode cA_increment 5 = .ok (.ifCond .eq 14, 3) := by decide +kernel
theorem dA_increment_8 : decode cA_increment 8 = .ok (.aload_n 0, 1) := by decide +kernel
theorem dA_increment_9 : decode cA_increment 9 = .ok (.getfield 57, 3) := by decide +kernel
theorem dA_increment_12 : decode cA_increment 12 = .ok (.iload_n 1, 1) := by decide +kernel
theorem dA_increment_13 : decode cA_increment 13 = .ok (.invokevirtual 141, 3) := by decide +kernel
theorem dA_increment_16 : decode cA_increment 16 = .ok (.goto 5, 3) := by decide +kernel
theorem dA_increment_19 : decode cA_increment 19 = .ok (.ldc 145, 2) := by decide +kernel
theorem dA_increment_21 : decode cA_increment 21 = .ok (.ireturn, 1) := by decide +kernel
theorem dA_reset_0 : decode cA_reset 0 = .ok (.aload_n 0, 1) := by decide +kernel
theorem dA_reset_1 : decode cA_reset 1 = .ok (.iload_n 1, 1) := by decide +kernel
theorem dA_reset_2 : decode cA_reset 2 = .ok (.invokevirtual 125, 3) := by decide +kernel
theorem dA_reset_5 : decode cA_reset 5 = .ok (.ifCond .eq 26, 3) := by decide +kernel
theorem dA_reset_8 : decode cA_reset 8 = .ok (.aload_n 0, 1) := by decide +kernel
theorem dA_reset_9 : decode cA_reset 9 = .ok (.getfield 34, 3) := by decide +kernel
theorem dA_reset_12 : decode cA_reset 12 = .ok (.getfield 128, 3) := by decide +kernel
theorem dA_reset_15 : decode cA_reset 15 = .ok (.iload_n 1, 1) := by decide +kernel
theorem dA_reset_16 : decode cA_reset 16 = .ok (.baload, 1) := by decide +kernel
theorem dA_reset_17 : decode cA_reset 17 = .ok (.ifCond .eq 14, 3) := by decide +kernel
theorem dA_reset_20 : decode cA_reset 20 = .ok (.aload_n 0, 1) := by decide +kernel
theorem dA_reset_21 : decode cA_reset 21 = .ok (.getfield 57, 3) := by decide +kernel
theorem dA_reset_24 : decode cA_reset 24 = .ok (.iload_n 1, 1) := by decide +kernel
theorem dA_reset_25 : decode cA_reset 25 = .ok (.invokevirtual 146, 3) := by decide +kernel
theorem dA_reset_28 : decode cA_reset 28 = .ok (.goto 5, 3) := by decide +kernel
theorem dA_reset_31 : decode cA_reset 31 = .ok (.ldc 145, 2) := by decide +kernel
theorem dA_reset_33 : decode cA_reset 33 = .ok (.ireturn, 1) := by decide +kernel
theorem dA_start_0 : decode cA_start 0 = .ok (.aload_n 0, 1) := by decide +kernel
theorem dA_start_1 : decode cA_start 1 = .ok (.getfield 70, 3) := by decide +kernel
theorem dA_start_4 : decode cA_start 4 = .ok (.ifCond .eq 10, 3) := by decide +kernel
theorem dA_start_7 : decode cA_start 7 = .ok (.aload_n 0, 1) := by decide +kernel
theorem dA_start_8 : decode cA_start 8 = .ok (.invokevirtual 149, 3) := by decide +kernel
theorem dA_start_11 : decode cA_start 11 = .ok (.ifCond .eq 5, 3) := by decide +kernel
theorem dA_start_14 : decode cA_start 14 = .ok (.iconst 0, 1) := by decide +kernel
theorem dA_start_15 : decode cA_start 15 = .ok (.ireturn, 1) := by decide +kernel
theorem dA_start_16 : decode cA_start 16 = .ok (.aload_n 0, 1) := by decide +kernel
theorem dA_start_17 : decode cA_start 17 = .ok (.iconst 0, 1) := by decide +kernel
theorem dA_start_18 : decode cA_start 18 = .ok (.putfield 74, 3) := by decide +kernel
theorem dA_start_21 : decode cA_start 21 = .ok (.iconst 1, 1) := by decide +kernel
theorem dA_start_22 : decode cA_start 22 = .ok (.ireturn, 1) := by decide +kernel
theorem dA_take_0 : decode cA_take 0 = .ok (.aload_n 0, 1) := by decide +kernel
theorem dA_take_1 : decode cA_take 1 = .ok (.invokevirtual 149, 3) := by decide +kernel
theorem dA_take_4 : decode cA_take 4 = .ok (.ifCond .eq 30, 3) := by decide +kernel
theorem dA_take_7 : decode cA_take 7 = .ok (.aload_n 0, 1) := by decide +kernel
theorem dA_take_8 : decode cA_take 8 = .ok (.getfield 25, 3) := by decide +kernel
theorem dA_take_11 : decode cA_take 11 = .ok (.iload_n 1, 1) := by decide +kernel
theorem dA_take_12 : decode cA_take 12 = .ok (.invokevirtual 152, 3) := by decide +kernel
theorem dA_take_15 : decode cA_take 15 = .ok (.ifCond .eq 19, 3) := by decide +kernel
theorem dA_take_18 : decode cA_take 18 = .ok (.aload_n 0, 1) := by decide +kernel
theorem dA_take_19 : decode cA_take 19 = .ok (.getfield 25, 3) := by decide +kernel
theorem dA_take_22 : decode cA_take 22 = .ok (.getfield 155, 3) := by decide +kernel
theorem dA_take_25 : decode cA_take 25 = .ok (.iload_n 1, 1) := by decide +kernel
theorem dA_take_26 : decode cA_take 26 = .ok (.iaload, 1) := by decide +kernel
theorem dA_take_27 : decode cA_take 27 = .ok (.aload_n 0, 1) := by decide +kernel
theorem dA_take_28 : decode cA_take 28 = .ok (.getfield 74, 3) := by decide +kernel
theorem dA_take_31 : decode cA_take 31 = .ok (.if_icmp .eq 5, 3) := by decide +kernel
theorem dA_take_34 : decode cA_take 34 = .ok (.iconst (-1), 1) := by decide +kernel
theorem dA_take_35 : decode cA_take 35 = .ok (.ireturn, 1) := by decide +kernel
theorem dA_take_36 : decode cA_take 36 = .ok (.aload_n 0, 1) := by decide +kernel
theorem dA_take_37 : decode cA_take 37 = .ok (.iload_n 1, 1) := by decide +kernel
theorem dA_take_38 : decode cA_take 38 = .ok (.invokevirtual 158, 3) := by decide +kernel
theorem dA_take_41 : decode cA_take 41 = .ok (.aload_n 0, 1) := by decide +kernel
theorem dA_take_42 : decode cA_take 42 = .ok (.getfield 25, 3) := by decide +kernel
theorem dA_take_45 : decode cA_take 45 = .ok (.getfield 161, 3) := by decide +kernel
theorem dA_take_48 : decode cA_take 48 = .ok (.iload_n 1, 1) := by decide +kernel
theorem dA_take_49 : decode cA_take 49 = .ok (.iaload, 1) := by decide +kernel
theorem dA_take_50 : decode cA_take 50 = .ok (.ireturn, 1) := by decide +kernel
theorem dA_walk_0 : decode cA_walk 0 = .ok (.aload_n 0, 1) := by decide +kernel
theorem dA_walk_1 : decode cA_walk 1 = .ok (.invokevirtual 149, 3) := by decide +kernel
theorem dA_walk_4 : decode cA_walk 4 = .ok (.ifCond .eq 13, 3) := by decide +kernel
theorem dA_walk_7 : decode cA_walk 7 = .ok (.iload_n 2, 1) := by decide +kernel
theorem dA_walk_8 : decode cA_walk 8 = .ok (.ifCond .lt 9, 3) := by decide +kernel
theorem dA_walk_11 : decode cA_walk 11 = .ok (.iload_n 2, 1) := by decide +kernel
theorem dA_walk_12 : decode cA_walk 12 = .ok (.bipush 16, 2) := by decide +kernel
theorem dA_walk_14 : decode cA_walk 14 = .ok (.if_icmp .le 5, 3) := by decide +kernel
theorem dA_walk_17 : decode cA_walk 17 = .ok (.iconst (-1), 1) := by decide +kernel
theorem dA_walk_18 : decode cA_walk 18 = .ok (.ireturn, 1) := by decide +kernel
theorem dA_walk_19 : decode cA_walk 19 = .ok (.iload_n 1, 1) := by decide +kernel
theorem dA_walk_20 : decode cA_walk 20 = .ok (.istore_n 3, 1) := by decide +kernel
theorem dA_walk_21 : decode cA_walk 21 = .ok (.iconst 0, 1) := by decide +kernel
theorem dA_walk_22 : decode cA_walk 22 = .ok (.istore 4, 2) := by decide +kernel
theorem dA_walk_24 : decode cA_walk 24 = .ok (.iload 4, 2) := by decide +kernel
theorem dA_walk_26 : decode cA_walk 26 = .ok (.iload_n 2, 1) := by decide +kernel
theorem dA_walk_27 : decode cA_walk 27 = .ok (.if_icmp .ge 54, 3) := by decide +kernel
theorem dA_walk_30 : decode cA_walk 30 = .ok (.aload_n 0, 1) := by decide +kernel
theorem dA_walk_31 : decode cA_walk 31 = .ok (.invokevirtual 149, 3) := by decide +kernel
theorem dA_walk_34 : decode cA_walk 34 = .ok (.ifCond .eq 20, 3) := by decide +kernel
theorem dA_walk_37 : decode cA_walk 37 = .ok (.aload_n 0, 1) := by decide +kernel
theorem dA_walk_38 : decode cA_walk 38 = .ok (.getfield 25, 3) := by decide +kernel
theorem dA_walk_41 : decode cA_walk 41 = .ok (.aload_n 0, 1) := by decide +kernel
theorem dA_walk_42 : decode cA_walk 42 = .ok (.getfield 74, 3) := by decide +kernel
theorem dA_walk_45 : decode cA_walk 45 = .ok (.iload_n 3, 1) := by decide +kernel
theorem dA_walk_46 : decode cA_walk 46 = .ok (.iconst 3, 1) := by decide +kernel
theorem dA_walk_47 : decode cA_walk 47 = .ok (.iand, 1) := by decide +kernel
theorem dA_walk_48 : decode cA_walk 48 = .ok (.invokevirtual 164, 3) := by decide +kernel
theorem dA_walk_51 : decode cA_walk 51 = .ok (.goto 4, 3) := by decide +kernel
theorem dA_walk_54 : decode cA_walk 54 = .ok (.iconst (-1), 1) := by decide +kernel
theorem dA_walk_55 : decode cA_walk 55 = .ok (.istore 5, 2) := by decide +kernel
theorem dA_walk_57 : decode cA_walk 57 = .ok (.iload 5, 2) := by decide +kernel
theorem dA_walk_59 : decode cA_walk 59 = .ok (.ifCond .ge 6, 3) := by decide +kernel
theorem dA_walk_62 : decode cA_walk 62 = .ok (.iload 4, 2) := by decide +kernel
theorem dA_walk_64 : decode cA_walk 64 = .ok (.ireturn, 1) := by decide +kernel
theorem dA_walk_65 : decode cA_walk 65 = .ok (.aload_n 0, 1) := by decide +kernel
theorem dA_walk_66 : decode cA_walk 66 = .ok (.iload 5, 2) := by decide +kernel
theorem dA_walk_68 : decode cA_walk 68 = .ok (.invokevirtual 158, 3) := by decide +kernel
theorem dA_walk_71 : decode cA_walk 71 = .ok (.iload_n 3, 1) := by decide +kernel
theorem dA_walk_72 : decode cA_walk 72 = .ok (.iconst 2, 1) := by decide +kernel
theorem dA_walk_73 : decode cA_walk 73 = .ok (.iushr, 1) := by decide +kernel
theorem dA_walk_74 : decode cA_walk 74 = .ok (.istore_n 3, 1) := by decide +kernel
theorem dA_walk_75 : decode cA_walk 75 = .ok (.iinc 4 1, 3) := by decide +kernel
theorem dA_walk_78 : decode cA_walk 78 = .ok (.goto (-54), 3) := by decide +kernel
theorem dA_walk_81 : decode cA_walk 81 = .ok (.iload_n 2, 1) := by decide +kernel
theorem dA_walk_82 : decode cA_walk 82 = .ok (.ireturn, 1) := by decide +kernel
theorem dA_stop_0 : decode cA_stop 0 = .ok (.aload_n 0, 1) := by decide +kernel
theorem dA_stop_1 : decode cA_stop 1 = .ok (.invokevirtual 149, 3) := by decide +kernel
theorem dA_stop_4 : decode cA_stop 4 = .ok (.ifCond .ne 5, 3) := by decide +kernel
theorem dA_stop_7 : decode cA_stop 7 = .ok (.iconst (-1), 1) := by decide +kernel
theorem dA_stop_8 : decode cA_stop 8 = .ok (.ireturn, 1) := by decide +kernel
theorem dA_stop_9 : decode cA_stop 9 = .ok (.aload_n 0, 1) := by decide +kernel
theorem dA_stop_10 : decode cA_stop 10 = .ok (.getfield 74, 3) := by decide +kernel
theorem dA_stop_13 : decode cA_stop 13 = .ok (.istore_n 1, 1) := by decide +kernel
theorem dA_stop_14 : decode cA_stop 14 = .ok (.aload_n 0, 1) := by decide +kernel
theorem dA_stop_15 : decode cA_stop 15 = .ok (.getfield 66, 3) := by decide +kernel
theorem dA_stop_18 : decode cA_stop 18 = .ok (.getfield 167, 3) := by decide +kernel
theorem dA_stop_21 : decode cA_stop 21 = .ok (.iload_n 1, 1) := by decide +kernel
theorem dA_stop_22 : decode cA_stop 22 = .ok (.dup2, 1) := by decide +kernel
theorem dA_stop_23 : decode cA_stop 23 = .ok (.iaload, 1) := by decide +kernel
theorem dA_stop_24 : decode cA_stop 24 = .ok (.iconst 1, 1) := by decide +kernel
theorem dA_stop_25 : decode cA_stop 25 = .ok (.iadd, 1) := by decide +kernel
theorem dA_stop_26 : decode cA_stop 26 = .ok (.iastore, 1) := by decide +kernel
theorem dA_stop_27 : decode cA_stop 27 = .ok (.aload_n 0, 1) := by decide +kernel
theorem dA_stop_28 : decode cA_stop 28 = .ok (.invokevirtual 170, 3) := by decide +kernel
theorem dA_stop_31 : decode cA_stop 31 = .ok (.iload_n 1, 1) := by decide +kernel
theorem dA_stop_32 : decode cA_stop 32 = .ok (.ireturn, 1) := by decide +kernel
theorem dA_at_0 : decode cA_at 0 = .ok (.aload_n 0, 1) := by decide +kernel
theorem dA_at_1 : decode cA_at 1 = .ok (.getfield 74, 3) := by decide +kernel
theorem dA_at_4 : decode cA_at 4 = .ok (.ireturn, 1) := by decide +kernel
theorem dA_register_0 : decode cA_register 0 = .ok (.aload_n 0, 1) := by decide +kernel
theorem dA_register_1 : decode cA_register 1 = .ok (.getfield 78, 3) := by decide +kernel
theorem dA_register_4 : decode cA_register 4 = .ok (.ireturn, 1) := by decide +kernel
theorem dA_count_0 : decode cA_count 0 = .ok (.aload_n 0, 1) := by decide +kernel
theorem dA_count_1 : decode cA_count 1 = .ok (.iload_n 1, 1) := by decide +kernel
theorem dA_count_2 : decode cA_count 2 = .ok (.invokevirtual 125, 3) := by decide +kernel
theorem dA_count_5 : decode cA_count 5 = .ok (.ifCond .eq 18, 3) := by decide +kernel
theorem dA_count_8 : decode cA_count 8 = .ok (.aload_n 0, 1) := by decide +kernel
theorem dA_count_9 : decode cA_count 9 = .ok (.getfield 66, 3) := by decide +kernel
theorem dA_count_12 : decode cA_count 12 = .ok (.iload_n 1, 1) := by decide +kernel
theorem dA_count_13 : decode cA_count 13 = .ok (.aload_n 0, 1) := by decide +kernel
theorem dA_count_14 : decode cA_count 14 = .ok (.getfield 74, 3) := by decide +kernel
theorem dA_count_17 : decode cA_count 17 = .ok (.invokevirtual 173, 3) := by decide +kernel
theorem dA_count_20 : decode cA_count 20 = .ok (.goto 4, 3) := by decide +kernel
theorem dA_count_23 : decode cA_count 23 = .ok (.iconst (-1), 1) := by decide +kernel
theorem dA_count_24 : decode cA_count 24 = .ok (.ireturn, 1) := by decide +kernel
theorem dA_visits_0 : decode cA_visits 0 = .ok (.aload_n 0, 1) := by decide +kernel
theorem dA_visits_1 : decode cA_visits 1 = .ok (.iload_n 1, 1) := by decide +kernel
theorem dA_visits_2 : decode cA_visits 2 = .ok (.invokevirtual 132, 3) := by decide +kernel
theorem dA_visits_5 : decode cA_visits 5 = .ok (.ifCond .eq 18, 3) := by decide +kernel
theorem dA_visits_8 : decode cA_visits 8 = .ok (.aload_n 0, 1) := by decide +kernel
theorem dA_visits_9 : decode cA_visits 9 = .ok (.getfield 66, 3) := by decide +kernel
theorem dA_visits_12 : decode cA_visits 12 = .ok (.iload_n 1, 1) := by decide +kernel
theorem dA_visits_13 : decode cA_visits 13 = .ok (.aload_n 0, 1) := by decide +kernel
theorem dA_visits_14 : decode cA_visits 14 = .ok (.getfield 74, 3) := by decide +kernel
theorem dA_visits_17 : decode cA_visits 17 = .ok (.invokevirtual 176, 3) := by decide +kernel
theorem dA_visits_20 : decode cA_visits 20 = .ok (.goto 4, 3) := by decide +kernel
theorem dA_visits_23 : decode cA_visits 23 = .ok (.iconst (-1), 1) := by decide +kernel
theorem dA_visits_24 : decode cA_visits 24 = .ok (.ireturn, 1) := by decide +kernel
theorem dA_passed_0 : decode cA_passed 0 = .ok (.aload_n 0, 1) := by decide +kernel
theorem dA_passed_1 : decode cA_passed 1 = .ok (.iload_n 1, 1) := by decide +kernel
theorem dA_passed_2 : decode cA_passed 2 = .ok (.invokevirtual 179, 3) := by decide +kernel
theorem dA_passed_5 : decode cA_passed 5 = .ok (.ifCond .eq 15, 3) := by decide +kernel
theorem dA_passed_8 : decode cA_passed 8 = .ok (.aload_n 0, 1) := by decide +kernel
theorem dA_passed_9 : decode cA_passed 9 = .ok (.getfield 66, 3) := by decide +kernel
theorem dA_passed_12 : decode cA_passed 12 = .ok (.getfield 182, 3) := by decide +kernel
theorem dA_passed_15 : decode cA_passed 15 = .ok (.iload_n 1, 1) := by decide +kernel
theorem dA_passed_16 : decode cA_passed 16 = .ok (.iaload, 1) := by decide +kernel
theorem dA_passed_17 : decode cA_passed 17 = .ok (.goto 4, 3) := by decide +kernel
theorem dA_passed_20 : decode cA_passed 20 = .ok (.iconst (-1), 1) := by decide +kernel
theorem dA_passed_21 : decode cA_passed 21 = .ok (.ireturn, 1) := by decide +kernel
theorem dA_along_0 : decode cA_along 0 = .ok (.aload_n 0, 1) := by decide +kernel
theorem dA_along_1 : decode cA_along 1 = .ok (.iload_n 1, 1) := by decide +kernel
theorem dA_along_2 : decode cA_along 2 = .ok (.invokevirtual 179, 3) := by decide +kernel
theorem dA_along_5 : decode cA_along 5 = .ok (.ifCond .eq 7, 3) := by decide +kernel
theorem dA_along_8 : decode cA_along 8 = .ok (.iload_n 2, 1) := by decide +kernel
theorem dA_along_9 : decode cA_along 9 = .ok (.ifCond .ge 6, 3) := by decide +kernel
theorem dA_along_12 : decode cA_along 12 = .ok (.ldc 145, 2) := by decide +kernel
theorem dA_along_14 : decode cA_along 14 = .ok (.ireturn, 1) := by decide +kernel
theorem dA_along_15 : decode cA_along 15 = .ok (.aload_n 0, 1) := by decide +kernel
theorem dA_along_16 : decode cA_along 16 = .ok (.getfield 57, 3) := by decide +kernel
theorem dA_along_19 : decode cA_along 19 = .ok (.iload_n 1, 1) := by decide +kernel
theorem dA_along_20 : decode cA_along 20 = .ok (.invokevirtual 185, 3) := by decide +kernel
theorem dA_along_23 : decode cA_along 23 = .ok (.istore_n 3, 1) := by decide +kernel
theorem dA_along_24 : decode cA_along 24 = .ok (.iload_n 2, 1) := by decide +kernel
theorem dA_along_25 : decode cA_along 25 = .ok (.ifCond .ne 7, 3) := by decide +kernel
theorem dA_along_28 : decode cA_along 28 = .ok (.iload_n 3, 1) := by decide +kernel
theorem dA_along_29 : decode cA_along 29 = .ok (.goto 13, 3) := by decide +kernel
theorem dA_along_32 : decode cA_along 32 = .ok (.aload_n 0, 1) := by decide +kernel
theorem dA_along_33 : decode cA_along 33 = .ok (.getfield 57, 3) := by decide +kernel
theorem dA_along_36 : decode cA_along 36 = .ok (.iload_n 1, 1) := by decide +kernel
theorem dA_along_37 : decode cA_along 37 = .ok (.iload_n 3, 1) := by decide +kernel
theorem dA_along_38 : decode cA_along 38 = .ok (.iload_n 2, 1) := by decide +kernel
theorem dA_along_39 : decode cA_along 39 = .ok (.invokevirtual 188, 3) := by decide +kernel
theorem dA_along_42 : decode cA_along 42 = .ok (.ireturn, 1) := by decide +kernel
theorem dA_stopped_0 : decode cA_stopped 0 = .ok (.aload_n 0, 1) := by decide +kernel
theorem dA_stopped_1 : decode cA_stopped 1 = .ok (.iload_n 1, 1) := by decide +kernel
theorem dA_stopped_2 : decode cA_stopped 2 = .ok (.invokevirtual 132, 3) := by decide +kernel
theorem dA_stopped_5 : decode cA_stopped 5 = .ok (.ifCond .eq 15, 3) := by decide +kernel
theorem dA_stopped_8 : decode cA_stopped 8 = .ok (.aload_n 0, 1) := by decide +kernel
theorem dA_stopped_9 : decode cA_stopped 9 = .ok (.getfield 66, 3) := by decide +kernel
theorem dA_stopped_12 : decode cA_stopped 12 = .ok (.getfield 167, 3) := by decide +kernel
theorem dA_stopped_15 : decode cA_stopped 15 = .ok (.iload_n 1, 1) := by decide +kernel
theorem dA_stopped_16 : decode cA_stopped 16 = .ok (.iaload, 1) := by decide +kernel
theorem dA_stopped_17 : decode cA_stopped 17 = .ok (.goto 4, 3) := by decide +kernel
theorem dA_stopped_20 : decode cA_stopped 20 = .ok (.iconst (-1), 1) := by decide +kernel
theorem dA_stopped_21 : decode cA_stopped 21 = .ok (.ireturn, 1) := by decide +kernel
theorem dA_covered_0 : decode cA_covered 0 = .ok (.aload_n 0, 1) := by decide +kernel
theorem dA_covered_1 : decode cA_covered 1 = .ok (.getfield 70, 3) := by decide +kernel
theorem dA_covered_4 : decode cA_covered 4 = .ok (.ifCond .ne 5, 3) := by decide +kernel
theorem dA_covered_7 : decode cA_covered 7 = .ok (.iconst (-1), 1) := by decide +kernel
theorem dA_covered_8 : decode cA_covered 8 = .ok (.ireturn, 1) := by decide +kernel
theorem dA_covered_9 : decode cA_covered 9 = .ok (.iload_n 1, 1) := by decide +kernel
theorem dA_covered_44 : decode cA_covered 44 = .ok (.aload_n 0, 1) := by decide +kernel
theorem dA_covered_45 : decode cA_covered 45 = .ok (.getfield 66, 3) := by decide +kernel
theorem dA_covered_48 : decode cA_covered 48 = .ok (.aload_n 0, 1) := by decide +kernel
theorem dA_covered_49 : decode cA_covered 49 = .ok (.getfield 74, 3) := by decide +kernel
theorem dA_covered_52 : decode cA_covered 52 = .ok (.invokevirtual 192, 3) := by decide +kernel
theorem dA_covered_55 : decode cA_covered 55 = .ok (.ireturn, 1) := by decide +kernel
theorem dA_covered_56 : decode cA_covered 56 = .ok (.aload_n 0, 1) := by decide +kernel
theorem dA_covered_57 : decode cA_covered 57 = .ok (.getfield 66, 3) := by decide +kernel
theorem dA_covered_60 : decode cA_covered 60 = .ok (.aload_n 0, 1) := by decide +kernel
theorem dA_covered_61 : decode cA_covered 61 = .ok (.getfield 74, 3) := by decide +kernel
theorem dA_covered_64 : decode cA_covered 64 = .ok (.invokevirtual 195, 3) := by decide +kernel
theorem dA_covered_67 : decode cA_covered 67 = .ok (.ireturn, 1) := by decide +kernel
theorem dA_covered_68 : decode cA_covered 68 = .ok (.aload_n 0, 1) := by decide +kernel
theorem dA_covered_69 : decode cA_covered 69 = .ok (.getfield 66, 3) := by decide +kernel
theorem dA_covered_72 : decode cA_covered 72 = .ok (.invokevirtual 198, 3) := by decide +kernel
theorem dA_covered_75 : decode cA_covered 75 = .ok (.ireturn, 1) := by decide +kernel
theorem dA_covered_76 : decode cA_covered 76 = .ok (.aload_n 0, 1) := by decide +kernel
theorem dA_covered_77 : decode cA_covered 77 = .ok (.getfield 66, 3) := by decide +kernel
theorem dA_covered_80 : decode cA_covered 80 = .ok (.iconst 0, 1) := by decide +kernel
theorem dA_covered_81 : decode cA_covered 81 = .ok (.aload_n 0, 1) := by decide +kernel
theorem dA_covered_82 : decode cA_covered 82 = .ok (.getfield 74, 3) := by decide +kernel
theorem dA_covered_85 : decode cA_covered 85 = .ok (.invokevirtual 176, 3) := by decide +kernel
theorem dA_covered_88 : decode cA_covered 88 = .ok (.ireturn, 1) := by decide +kernel
theorem dA_covered_89 : decode cA_covered 89 = .ok (.aload_n 0, 1) := by decide +kernel
theorem dA_covered_90 : decode cA_covered 90 = .ok (.getfield 66, 3) := by decide +kernel
theorem dA_covered_93 : decode cA_covered 93 = .ok (.iconst 1, 1) := by decide +kernel
theorem dA_covered_94 : decode cA_covered 94 = .ok (.aload_n 0, 1) := by decide +kernel
theorem dA_covered_95 : decode cA_covered 95 = .ok (.getfield 74, 3) := by decide +kernel
theorem dA_covered_98 : decode cA_covered 98 = .ok (.invokevirtual 176, 3) := by decide +kernel
theorem dA_covered_101 : decode cA_covered 101 = .ok (.ireturn, 1) := by decide +kernel
theorem dA_covered_102 : decode cA_covered 102 = .ok (.iconst (-1), 1) := by decide +kernel
theorem dA_covered_103 : decode cA_covered 103 = .ok (.ireturn, 1) := by decide +kernel
theorem dA_clear_0 : decode cA_clear 0 = .ok (.aload_n 0, 1) := by decide +kernel
theorem dA_clear_1 : decode cA_clear 1 = .ok (.getfield 66, 3) := by decide +kernel
theorem dA_clear_4 : decode cA_clear 4 = .ok (.invokevirtual 202, 3) := by decide +kernel
