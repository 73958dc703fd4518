/-! rows that decode, C -/
theorem dC_init_0 : decode cC_init 0 = .ok (.aload_n 0, 1) := by decide +kernel
theorem dC_init_1 : decode cC_init 1 = .ok (.invokespecial 3, 3) := by decide +kernel
theorem dC_init_4 : decode cC_init 4 = .ok (.aload_n 0, 1) := by decide +kernel
theorem dC_init_5 : decode cC_init 5 = .ok (.aload_n 1, 1) := by decide +kernel
theorem dC_init_6 : decode cC_init 6 = .ok (.putfield 9, 3) := by decide +kernel
theorem dC_init_9 : decode cC_init 9 = .ok (.aload_n 0, 1) := by decide +kernel
theorem dC_init_10 : decode cC_init 10 = .ok (.aload_n 2, 1) := by decide +kernel
theorem dC_init_11 : decode cC_init 11 = .ok (.putfield 15, 3) := by decide +kernel
theorem dC_init_14 : decode cC_init 14 = .ok (.aload_n 0, 1) := by decide +kernel
theorem dC_init_15 : decode cC_init 15 = .ok (.bipush 24, 2) := by decide +kernel
theorem dC_init_17 : decode cC_init 17 = .ok (.newarray .int, 2) := by decide +kernel
theorem dC_init_19 : decode cC_init 19 = .ok (.putfield 19, 3) := by decide +kernel
theorem dC_init_22 : decode cC_init 22 = .ok (.aload_n 0, 1) := by decide +kernel
theorem dC_init_23 : decode cC_init 23 = .ok (.bipush 24, 2) := by decide +kernel
theorem dC_init_25 : decode cC_init 25 = .ok (.newarray .int, 2) := by decide +kernel
theorem dC_init_27 : decode cC_init 27 = .ok (.putfield 23, 3) := by decide +kernel
theorem dC_init_30 : decode cC_init 30 = .ok (.aload_n 0, 1) := by decide +kernel
theorem dC_init_31 : decode cC_init 31 = .ok (.bipush 12, 2) := by decide +kernel
theorem dC_init_33 : decode cC_init 33 = .ok (.newarray .int, 2) := by decide +kernel
theorem dC_init_35 : decode cC_init 35 = .ok (.putfield 26, 3) := by decide +kernel
theorem dC_init_38 : decode cC_init 38 = .ok (.aload_n 0, 1) := by decide +kernel
theorem dC_init_39 : decode cC_init 39 = .ok (.sipush 200, 3) := by decide +kernel
theorem dC_init_42 : decode cC_init 42 = .ok (.newarray .int, 2) := by decide +kernel
theorem dC_init_44 : decode cC_init 44 = .ok (.putfield 29, 3) := by decide +kernel
theorem dC_init_47 : decode cC_init 47 = .ok (.return_, 1) := by decide +kernel
theorem dC_forget_0 : decode cC_forget 0 = .ok (.aload_n 0, 1) := by decide +kernel
theorem dC_forget_1 : decode cC_forget 1 = .ok (.getfield 23, 3) := by decide +kernel
theorem dC_forget_4 : decode cC_forget 4 = .ok (.iconst 0, 1) := by decide +kernel
theorem dC_forget_5 : decode cC_forget 5 = .ok (.invokestatic 32, 3) := by decide +kernel
theorem dC_forget_8 : decode cC_forget 8 = .ok (.aload_n 0, 1) := by decide +kernel
theorem dC_forget_9 : decode cC_forget 9 = .ok (.getfield 26, 3) := by decide +kernel
theorem dC_forget_12 : decode cC_forget 12 = .ok (.iconst 0, 1) := by decide +kernel
theorem dC_forget_13 : decode cC_forget 13 = .ok (.invokestatic 32, 3) := by decide +kernel
theorem dC_forget_16 : decode cC_forget 16 = .ok (.aload_n 0, 1) := by decide +kernel
theorem dC_forget_17 : decode cC_forget 17 = .ok (.getfield 29, 3) := by decide +kernel
theorem dC_forget_20 : decode cC_forget 20 = .ok (.iconst 0, 1) := by decide +kernel
theorem dC_forget_21 : decode cC_forget 21 = .ok (.invokestatic 32, 3) := by decide +kernel
theorem dC_forget_24 : decode cC_forget 24 = .ok (.return_, 1) := by decide +kernel
theorem dC_cut_0 : decode cC_cut 0 = .ok (.iconst 0, 1) := by decide +kernel
theorem dC_cut_1 : decode cC_cut 1 = .ok (.istore_n 1, 1) := by decide +kernel
theorem dC_cut_2 : decode cC_cut 2 = .ok (.iload_n 1, 1) := by decide +kernel
theorem dC_cut_3 : decode cC_cut 3 = .ok (.aload_n 0, 1) := by decide +kernel
theorem dC_cut_4 : decode cC_cut 4 = .ok (.getfield 9, 3) := by decide +kernel
theorem dC_cut_7 : decode cC_cut 7 = .ok (.getfield 38, 3) := by decide +kernel
theorem dC_cut_10 : decode cC_cut 10 = .ok (.if_icmp .ge 39, 3) := by decide +kernel
theorem dC_cut_13 : decode cC_cut 13 = .ok (.aload_n 0, 1) := by decide +kernel
theorem dC_cut_14 : decode cC_cut 14 = .ok (.getfield 19, 3) := by decide +kernel
theorem dC_cut_17 : decode cC_cut 17 = .ok (.iload_n 1, 1) := by decide +kernel
theorem dC_cut_18 : decode cC_cut 18 = .ok (.aload_n 0, 1) := by decide +kernel
theorem dC_cut_19 : decode cC_cut 19 = .ok (.getfield 15, 3) := by decide +kernel
theorem dC_cut_22 : decode cC_cut 22 = .ok (.getfield 44, 3) := by decide +kernel
theorem dC_cut_25 : decode cC_cut 25 = .ok (.iload_n 1, 1) := by decide +kernel
theorem dC_cut_26 : decode cC_cut 26 = .ok (.baload, 1) := by decide +kernel
theorem dC_cut_27 : decode cC_cut 27 = .ok (.ifCond .eq 14, 3) := by decide +kernel
theorem dC_cut_30 : decode cC_cut 30 = .ok (.aload_n 0, 1) := by decide +kernel
theorem dC_cut_31 : decode cC_cut 31 = .ok (.getfield 15, 3) := by decide +kernel
theorem dC_cut_34 : decode cC_cut 34 = .ok (.iload_n 1, 1) := by decide +kernel
theorem dC_cut_35 : decode cC_cut 35 = .ok (.invokevirtual 50, 3) := by decide +kernel
theorem dC_cut_38 : decode cC_cut 38 = .ok (.goto 4, 3) := by decide +kernel
theorem dC_cut_41 : decode cC_cut 41 = .ok (.iconst 0, 1) := by decide +kernel
theorem dC_cut_42 : decode cC_cut 42 = .ok (.iastore, 1) := by decide +kernel
theorem dC_cut_43 : decode cC_cut 43 = .ok (.iinc 1 1, 3) := by decide +kernel
theorem dC_cut_46 : decode cC_cut 46 = .ok (.goto (-44), 3) := by decide +kernel
theorem dC_cut_49 : decode cC_cut 49 = .ok (.return_, 1) := by decide +kernel
theorem dC_hit_0 : decode cC_hit 0 = .ok (.aload_n 0, 1) := by decide +kernel
theorem dC_hit_1 : decode cC_hit 1 = .ok (.getfield 15, 3) := by decide +kernel
theorem dC_hit_4 : decode cC_hit 4 = .ok (.getfield 44, 3) := by decide +kernel
theorem dC_hit_7 : decode cC_hit 7 = .ok (.iload_n 1, 1) := by decide +kernel
theorem dC_hit_8 : decode cC_hit 8 = .ok (.baload, 1) := by decide +kernel
theorem dC_hit_9 : decode cC_hit 9 = .ok (.ifCond .ne 13, 3) := by decide +kernel
theorem dC_hit_12 : decode cC_hit 12 = .ok (.aload_n 0, 1) := by decide +kernel
theorem dC_hit_13 : decode cC_hit 13 = .ok (.getfield 23, 3) := by decide +kernel
theorem dC_hit_16 : decode cC_hit 16 = .ok (.iload_n 1, 1) := by decide +kernel
theorem dC_hit_17 : decode cC_hit 17 = .ok (.dup2, 1) := by decide +kernel
theorem dC_hit_18 : decode cC_hit 18 = .ok (.iaload, 1) := by decide +kernel
theorem dC_hit_19 : decode cC_hit 19 = .ok (.iconst 1, 1) := by decide +kernel
theorem dC_hit_20 : decode cC_hit 20 = .ok (.iadd, 1) := by decide +kernel
theorem dC_hit_21 : decode cC_hit 21 = .ok (.iastore, 1) := by decide +kernel
theorem dC_hit_22 : decode cC_hit 22 = .ok (.return_, 1) := by decide +kernel
theorem dC_passesOf_0 : decode cC_passesOf 0 = .ok (.aload_n 0, 1) := by decide +kernel
theorem dC_passesOf_1 : decode cC_passesOf 1 = .ok (.getfield 15, 3) := by decide +kernel
theorem dC_passesOf_4 : decode cC_passesOf 4 = .ok (.getfield 44, 3) := by decide +kernel
theorem dC_passesOf_7 : decode cC_passesOf 7 = .ok (.iload_n 1, 1) := by decide +kernel
theorem dC_passesOf_8 : decode cC_passesOf 8 = .ok (.baload, 1) := by decide +kernel
theorem dC_passesOf_9 : decode cC_passesOf 9 = .ok (.ifCond .ne 10, 3) := by decide +kernel
theorem dC_passesOf_12 : decode cC_passesOf 12 = .ok (.aload_n 0, 1) := by decide +kernel
theorem dC_passesOf_13 : decode cC_passesOf 13 = .ok (.getfield 23, 3) := by decide +kernel
theorem dC_passesOf_16 : decode cC_passesOf 16 = .ok (.iload_n 1, 1) := by decide +kernel
theorem dC_passesOf_17 : decode cC_passesOf 17 = .ok (.iaload, 1) := by decide +kernel
theorem dC_passesOf_18 : decode cC_passesOf 18 = .ok (.ireturn, 1) := by decide +kernel
theorem dC_passesOf_19 : decode cC_passesOf 19 = .ok (.aload_n 0, 1) := by decide +kernel
theorem dC_passesOf_20 : decode cC_passesOf 20 = .ok (.aload_n 0, 1) := by decide +kernel
theorem dC_passesOf_21 : decode cC_passesOf 21 = .ok (.getfield 19, 3) := by decide +kernel
theorem dC_passesOf_24 : decode cC_passesOf 24 = .ok (.iload_n 1, 1) := by decide +kernel
theorem dC_passesOf_25 : decode cC_passesOf 25 = .ok (.iaload, 1) := by decide +kernel
theorem dC_passesOf_26 : decode cC_passesOf 26 = .ok (.iload_n 2, 1) := by decide +kernel
theorem dC_passesOf_27 : decode cC_passesOf 27 = .ok (.invokevirtual 54, 3) := by decide +kernel
theorem dC_passesOf_30 : decode cC_passesOf 30 = .ok (.aload_n 0, 1) := by decide +kernel
theorem dC_passesOf_31 : decode cC_passesOf 31 = .ok (.aload_n 0, 1) := by decide +kernel
theorem dC_passesOf_32 : decode cC_passesOf 32 = .ok (.getfield 19, 3) := by decide +kernel
theorem dC_passesOf_35 : decode cC_passesOf 35 = .ok (.iload_n 1, 1) := by decide +kernel
theorem dC_passesOf_36 : decode cC_passesOf 36 = .ok (.iaload, 1) := by decide +kernel
theorem dC_passesOf_37 : decode cC_passesOf 37 = .ok (.invokevirtual 58, 3) := by decide +kernel
theorem dC_passesOf_40 : decode cC_passesOf 40 = .ok (.iadd, 1) := by decide +kernel
theorem dC_passesOf_41 : decode cC_passesOf 41 = .ok (.istore_n 3, 1) := by decide +kernel
theorem dC_passesOf_42 : decode cC_passesOf 42 = .ok (.aload_n 0, 1) := by decide +kernel
theorem dC_passesOf_43 : decode cC_passesOf 43 = .ok (.getfield 19, 3) := by decide +kernel
theorem dC_passesOf_46 : decode cC_passesOf 46 = .ok (.iload_n 1, 1) := by decide +kernel
theorem dC_passesOf_47 : decode cC_passesOf 47 = .ok (.iaload, 1) := by decide +kernel
theorem dC_passesOf_48 : decode cC_passesOf 48 = .ok (.aload_n 0, 1) := by decide +kernel
theorem dC_passesOf_49 : decode cC_passesOf 49 = .ok (.getfield 9, 3) := by decide +kernel
theorem dC_passesOf_52 : decode cC_passesOf 52 = .ok (.getfield 61, 3) := by decide +kernel
theorem dC_passesOf_55 : decode cC_passesOf 55 = .ok (.iload_n 1, 1) := by decide +kernel
theorem dC_passesOf_56 : decode cC_passesOf 56 = .ok (.iaload, 1) := by decide +kernel
theorem dC_passesOf_57 : decode cC_passesOf 57 = .ok (.invokestatic 64, 3) := by decide +kernel
theorem dC_passesOf_60 : decode cC_passesOf 60 = .ok (.ifCond .eq 7, 3) := by decide +kernel
theorem dC_passesOf_63 : decode cC_passesOf 63 = .ok (.iload_n 3, 1) := by decide +kernel
theorem dC_passesOf_64 : decode cC_passesOf 64 = .ok (.goto 5, 3) := by decide +kernel
theorem dC_passesOf_67 : decode cC_passesOf 67 = .ok (.iload_n 3, 1) := by decide +kernel
theorem dC_passesOf_68 : decode cC_passesOf 68 = .ok (.ineg, 1) := by decide +kernel
theorem dC_passesOf_69 : decode cC_passesOf 69 = .ok (.ireturn, 1) := by decide +kernel
theorem dC_runsLeftIn_0 : decode cC_runsLeftIn 0 = .ok (.iload_n 2, 1) := by decide +kernel
theorem dC_runsLeftIn_1 : decode cC_runsLeftIn 1 = .ok (.iconst (-1), 1) := by decide +kernel
theorem dC_runsLeftIn_2 : decode cC_runsLeftIn 2 = .ok (.if_icmp .eq 15, 3) := by decide +kernel
theorem dC_runsLeftIn_5 : decode cC_runsLeftIn 5 = .ok (.iload_n 1, 1) := by decide +kernel
theorem dC_runsLeftIn_6 : decode cC_runsLeftIn 6 = .ok (.iload_n 2, 1) := by decide +kernel
theorem dC_runsLeftIn_7 : decode cC_runsLeftIn 7 = .ok (.invokestatic 64, 3) := by decide +kernel
theorem dC_runsLeftIn_10 : decode cC_runsLeftIn 10 = .ok (.ifCond .eq 7, 3) := by decide +kernel
theorem dC_runsLeftIn_13 : decode cC_runsLeftIn 13 = .ok (.iconst 1, 1) := by decide +kernel
theorem dC_runsLeftIn_14 : decode cC_runsLeftIn 14 = .ok (.goto 4, 3) := by decide +kernel
theorem dC_runsLeftIn_17 : decode cC_runsLeftIn 17 = .ok (.iconst 0, 1) := by decide +kernel
theorem dC_runsLeftIn_18 : decode cC_runsLeftIn 18 = .ok (.istore_n 3, 1) := by decide +kernel
theorem dC_runsLeftIn_19 : decode cC_runsLeftIn 19 = .ok (.iconst 0, 1) := by decide +kernel
theorem dC_runsLeftIn_20 : decode cC_runsLeftIn 20 = .ok (.istore 4, 2) := by decide +kernel
theorem dC_runsLeftIn_22 : decode cC_runsLeftIn 22 = .ok (.iload 4, 2) := by decide +kernel
theorem dC_runsLeftIn_24 : decode cC_runsLeftIn 24 = .ok (.aload_n 0, 1) := by decide +kernel
theorem dC_runsLeftIn_25 : decode cC_runsLeftIn 25 = .ok (.getfield 9, 3) := by decide +kernel
theorem dC_runsLeftIn_28 : decode cC_runsLeftIn 28 = .ok (.getfield 68, 3) := by decide +kernel
theorem dC_runsLeftIn_31 : decode cC_runsLeftIn 31 = .ok (.if_icmp .ge 28, 3) := by decide +kernel
theorem dC_runsLeftIn_34 : decode cC_runsLeftIn 34 = .ok (.iload_n 1, 1) := by decide +kernel
theorem dC_runsLeftIn_35 : decode cC_runsLeftIn 35 = .ok (.iload 4, 2) := by decide +kernel
theorem dC_runsLeftIn_37 : decode cC_runsLeftIn 37 = .ok (.invokestatic 64, 3) := by decide +kernel
theorem dC_runsLeftIn_40 : decode cC_runsLeftIn 40 = .ok (.ifCond .eq 13, 3) := by decide +kernel
theorem dC_runsLeftIn_43 : decode cC_runsLeftIn 43 = .ok (.iload_n 3, 1) := by decide +kernel
theorem dC_runsLeftIn_44 : decode cC_runsLeftIn 44 = .ok (.aload_n 0, 1) := by decide +kernel
theorem dC_runsLeftIn_45 : decode cC_runsLeftIn 45 = .ok (.getfield 26, 3) := by decide +kernel
theorem dC_runsLeftIn_48 : decode cC_runsLeftIn 48 = .ok (.iload 4, 2) := by decide +kernel
theorem dC_runsLeftIn_50 : decode cC_runsLeftIn 50 = .ok (.iaload, 1) := by decide +kernel
theorem dC_runsLeftIn_51 : decode cC_runsLeftIn 51 = .ok (.iadd, 1) := by decide +kernel
theorem dC_runsLeftIn_52 : decode cC_runsLeftIn 52 = .ok (.istore_n 3, 1) := by decide +kernel
theorem dC_runsLeftIn_53 : decode cC_runsLeftIn 53 = .ok (.iinc 4 1, 3) := by decide +kernel
theorem dC_runsLeftIn_56 : decode cC_runsLeftIn 56 = .ok (.goto (-34), 3) := by decide +kernel
theorem dC_runsLeftIn_59 : decode cC_runsLeftIn 59 = .ok (.iload_n 3, 1) := by decide +kernel
theorem dC_runsLeftIn_60 : decode cC_runsLeftIn 60 = .ok (.ireturn, 1) := by decide +kernel
theorem dC_hitsOutOf_0 : decode cC_hitsOutOf 0 = .ok (.iconst 0, 1) := by decide +kernel
theorem dC_hitsOutOf_1 : decode cC_hitsOutOf 1 = .ok (.istore_n 2, 1) := by decide +kernel
theorem dC_hitsOutOf_2 : decode cC_hitsOutOf 2 = .ok (.iconst 0, 1) := by decide +kernel
theorem dC_hitsOutOf_3 : decode cC_hitsOutOf 3 = .ok (.istore_n 3, 1) := by decide +kernel
theorem dC_hitsOutOf_4 : decode cC_hitsOutOf 4 = .ok (.iload_n 3, 1) := by decide +kernel
theorem dC_hitsOutOf_5 : decode cC_hitsOutOf 5 = .ok (.aload_n 0, 1) := by decide +kernel
theorem dC_hitsOutOf_6 : decode cC_hitsOutOf 6 = .ok (.getfield 9, 3) := by decide +kernel
theorem dC_hitsOutOf_9 : decode cC_hitsOutOf 9 = .ok (.getfield 38, 3) := by decide +kernel
theorem dC_hitsOutOf_12 : decode cC_hitsOutOf 12 = .ok (.if_icmp .ge 67, 3) := by decide +kernel
theorem dC_hitsOutOf_15 : decode cC_hitsOutOf 15 = .ok (.iload_n 2, 1) := by decide +kernel
theorem dC_hitsOutOf_16 : decode cC_hitsOutOf 16 = .ok (.iload_n 1, 1) := by decide +kernel
theorem dC_hitsOutOf_17 : decode cC_hitsOutOf 17 = .ok (.aload_n 0, 1) := by decide +kernel
theorem dC_hitsOutOf_18 : decode cC_hitsOutOf 18 = .ok (.getfield 9, 3) := by decide +kernel
theorem dC_hitsOutOf_21 : decode cC_hitsOutOf 21 = .ok (.getfield 71, 3) := by decide +kernel
theorem dC_hitsOutOf_24 : decode cC_hitsOutOf 24 = .ok (.iload_n 3, 1) := by decide +kernel
theorem dC_hitsOutOf_25 : decode cC_hitsOutOf 25 = .ok (.iaload, 1) := by decide +kernel
theorem dC_hitsOutOf_26 : decode cC_hitsOutOf 26 = .ok (.invokestatic 64, 3) := by decide +kernel
theorem dC_hitsOutOf_29 : decode cC_hitsOutOf 29 = .ok (.ifCond .eq 12, 3) := by decide +kernel
theorem dC_hitsOutOf_32 : decode cC_hitsOutOf 32 = .ok (.aload_n 0, 1) := by decide +kernel
theorem dC_hitsOutOf_33 : decode cC_hitsOutOf 33 = .ok (.getfield 23, 3) := by decide +kernel
theorem dC_hitsOutOf_36 : decode cC_hitsOutOf 36 = .ok (.iload_n 3, 1) := by decide +kernel
theorem dC_hitsOutOf_37 : decode cC_hitsOutOf 37 = .ok (.iaload, 1) := by decide +kernel
theorem dC_hitsOutOf_38 : decode cC_hitsOutOf 38 = .ok (.goto 4, 3) := by decide +kernel
theorem dC_hitsOutOf_41 : decode cC_hitsOutOf 41 = .ok (.iconst 0, 1) := by decide +kernel
theorem dC_hitsOutOf_42 : decode cC_hitsOutOf 42 = .ok (.iadd, 1) := by decide +kernel
theorem dC_hitsOutOf_43 : decode cC_hitsOutOf 43 = .ok (.istore_n 2, 1) := by decide +kernel
theorem dC_hitsOutOf_44 : decode cC_hitsOutOf 44 = .ok (.iload_n 2, 1) := by decide +kernel
theorem dC_hitsOutOf_45 : decode cC_hitsOutOf 45 = .ok (.iload_n 1, 1) := by decide +kernel
theorem dC_hitsOutOf_46 : decode cC_hitsOutOf 46 = .ok (.aload_n 0, 1) := by decide +kernel
theorem dC_hitsOutOf_47 : decode cC_hitsOutOf 47 = .ok (.getfield 9, 3) := by decide +kernel
theorem dC_hitsOutOf_50 : decode cC_hitsOutOf 50 = .ok (.getfield 61, 3) := by decide +kernel
theorem dC_hitsOutOf_53 : decode cC_hitsOutOf 53 = .ok (.iload_n 3, 1) := by decide +kernel
theorem dC_hitsOutOf_54 : decode cC_hitsOutOf 54 = .ok (.iaload, 1) := by decide +kernel
theorem dC_hitsOutOf_55 : decode cC_hitsOutOf 55 = .ok (.invokestatic 64, 3) := by decide +kernel
theorem dC_hitsOutOf_58 : decode cC_hitsOutOf 58 = .ok (.ifCond .eq 12, 3) := by decide +kernel
theorem dC_hitsOutOf_61 : decode cC_hitsOutOf 61 = .ok (.aload_n 0, 1) := by decide +kernel
theorem dC_hitsOutOf_62 : decode cC_hitsOutOf 62 = .ok (.getfield 23, 3) := by decide +kernel
theorem dC_hitsOutOf_65 : decode cC_hitsOutOf 65 = .ok (.iload_n 3, 1) := by decide +kernel
theorem dC_hitsOutOf_66 : decode cC_hitsOutOf 66 = .ok (.iaload, 1) := by decide +kernel
theorem dC_hitsOutOf_67 : decode cC_hitsOutOf 67 = .ok (.goto 4, 3) := by decide +kernel
theorem dC_hitsOutOf_70 : decode cC_hitsOutOf 70 = .ok (.iconst 0, 1) := by decide +kernel
theorem dC_hitsOutOf_71 : decode cC_hitsOutOf 71 = .ok (.isub, 1) := by decide +kernel
theorem dC_hitsOutOf_72 : decode cC_hitsOutOf 72 = .ok (.istore_n 2, 1) := by decide +kernel
theorem dC_hitsOutOf_73 : decode cC_hitsOutOf 73 = .ok (.iinc 3 1, 3) := by decide +kernel
theorem dC_hitsOutOf_76 : decode cC_hitsOutOf 76 = .ok (.goto (-72), 3) := by decide +kernel
theorem dC_hitsOutOf_79 : decode cC_hitsOutOf 79 = .ok (.iload_n 2, 1) := by decide +kernel
theorem dC_hitsOutOf_80 : decode cC_hitsOutOf 80 = .ok (.ireturn, 1) := by decide +kernel
theorem dC_visitsOf_0 : decode cC_visitsOf 0 = .ok (.iload_n 1, 1) := by decide +kernel
theorem dC_visitsOf_1 : decode cC_visitsOf 1 = .ok (.ifCond .ne 23, 3) := by decide +kernel
theorem dC_visitsOf_4 : decode cC_visitsOf 4 = .ok (.aload_n 0, 1) := by decide +kernel
theorem dC_visitsOf_5 : decode cC_visitsOf 5 = .ok (.iconst 1, 1) := by decide +kernel
theorem dC_visitsOf_6 : decode cC_visitsOf 6 = .ok (.iload_n 2, 1) := by decide +kernel
theorem dC_visitsOf_7 : decode cC_visitsOf 7 = .ok (.invokevirtual 74, 3) := by decide +kernel
theorem dC_visitsOf_10 : decode cC_visitsOf 10 = .ok (.aload_n 0, 1) := by decide +kernel
theorem dC_visitsOf_11 : decode cC_visitsOf 11 = .ok (.aload_n 0, 1) := by decide +kernel
theorem dC_visitsOf_12 : decode cC_visitsOf 12 = .ok (.getfield 9, 3) := by decide +kernel
theorem dC_visitsOf_15 : decode cC_visitsOf 15 = .ok (.invokevirtual 77, 3) := by decide +kernel
theorem dC_visitsOf_18 : decode cC_visitsOf 18 = .ok (.iload_n 2, 1) := by decide +kernel
theorem dC_visitsOf_19 : decode cC_visitsOf 19 = .ok (.invokevirtual 54, 3) := by decide +kernel
theorem dC_visitsOf_22 : decode cC_visitsOf 22 = .ok (.iadd, 1) := by decide +kernel
theorem dC_visitsOf_23 : decode cC_visitsOf 23 = .ok (.ireturn, 1) := by decide +kernel
theorem dC_visitsOf_24 : decode cC_visitsOf 24 = .ok (.aload_n 0, 1) := by decide +kernel
theorem dC_visitsOf_25 : decode cC_visitsOf 25 = .ok (.iload_n 1, 1) := by decide +kernel
theorem dC_visitsOf_26 : decode cC_visitsOf 26 = .ok (.iload_n 2, 1) := by decide +kernel
theorem dC_visitsOf_27 : decode cC_visitsOf 27 = .ok (.invokevirtual 74, 3) := by decide +kernel
theorem dC_visitsOf_30 : decode cC_visitsOf 30 = .ok (.ireturn, 1) := by decide +kernel
theorem dC_passesInto_0 : decode cC_passesInto 0 = .ok (.iconst 0, 1) := by decide +kernel
theorem dC_passesInto_1 : decode cC_passesInto 1 = .ok (.istore_n 3, 1) := by decide +kernel
theorem dC_passesInto_2 : decode cC_passesInto 2 = .ok (.iconst 0, 1) := by decide +kernel
theorem dC_passesInto_3 : decode cC_passesInto 3 = .ok (.istore 4, 2) := by decide +kernel
theorem dC_passesInto_5 : decode cC_passesInto 5 = .ok (.iload 4, 2) := by decide +kernel
theorem dC_passesInto_7 : decode cC_passesInto 7 = .ok (.aload_n 0, 1) := by decide +kernel
theorem dC_passesInto_8 : decode cC_passesInto 8 = .ok (.getfield 9, 3) := by decide +kernel
theorem dC_passesInto_11 : decode cC_passesInto 11 = .ok (.getfield 38, 3) := by decide +kernel
theorem dC_passesInto_14 : decode cC_passesInto 14 = .ok (.if_icmp .ge 33, 3) := by decide +kernel
theorem dC_passesInto_17 : decode cC_passesInto 17 = .ok (.aload_n 0, 1) := by decide +kernel
theorem dC_passesInto_18 : decode cC_passesInto 18 = .ok (.getfield 9, 3) := by decide +kernel
theorem dC_passesInto_21 : decode cC_passesInto 21 = .ok (.getfield 61, 3) := by decide +kernel
theorem dC_passesInto_24 : decode cC_passesInto 24 = .ok (.iload 4, 2) := by decide +kernel
theorem dC_passesInto_26 : decode cC_passesInto 26 = .ok (.iaload, 1) := by decide +kernel
theorem dC_passesInto_27 : decode cC_passesInto 27 = .ok (.iload_n 1, 1) := by decide +kernel
theorem dC_passesInto_28 : decode cC_passesInto 28 = .ok (.if_icmp .ne 13, 3) := by decide +kernel
theorem dC_passesInto_31 : decode cC_passesInto 31 = .ok (.iload_n 3, 1) := by decide +kernel
theorem dC_passesInto_32 : decode cC_passesInto 32 = .ok (.aload_n 0, 1) := by decide +kernel
theorem dC_passesInto_33 : decode cC_passesInto 33 = .ok (.iload 4, 2) := by decide +kernel
theorem dC_passesInto_35 : decode cC_passesInto 35 = .ok (.iload_n 2, 1) := by decide +kernel
theorem dC_passesInto_36 : decode cC_passesInto 36 = .ok (.invokevirtual 81, 3) := by decide +kernel
theorem dC_passesInto_39 : decode cC_passesInto 39 = .ok (.iadd, 1) := by decide +kernel
theorem dC_passesInto_40 : decode cC_passesInto 40 = .ok (.istore_n 3, 1) := by decide +kernel
theorem dC_passesInto_41 : decode cC_passesInto 41 = .ok (.iinc 4 1, 3) := by decide +kernel
theorem dC_passesInto_44 : decode cC_passesInto 44 = .ok (.goto (-39), 3) := by decide +kernel
theorem dC_passesInto_47 : decode cC_passesInto 47 = .ok (.iload_n 3, 1) := by decide +kernel
theorem dC_passesInto_48 : decode cC_passesInto 48 = .ok (.ireturn, 1) := by decide +kernel
theorem dC_blocksVisited_0 : decode cC_blocksVisited 0 = .ok (.iconst 0, 1) := by decide +kernel
theorem dC_blocksVisited_1 : decode cC_blocksVisited 1 = .ok (.istore_n 2, 1) := by decide +kernel
theorem dC_blocksVisited_2 : decode cC_blocksVisited 2 = .ok (.iconst 0, 1) := by decide +kernel
theorem dC_blocksVisited_3 : decode cC_blocksVisited 3 = .ok (.istore_n 3, 1) := by decide +kernel
theorem dC_blocksVisited_4 : decode cC_blocksVisited 4 = .ok (.iload_n 3, 1) := by decide +kernel
theorem dC_blocksVisited_5 : decode cC_blocksVisited 5 = .ok (.aload_n 0, 1) := by decide +kernel
theorem dC_blocksVisited_6 : decode cC_blocksVisited 6 = .ok (.getfield 9, 3) := by decide +kernel
theorem dC_blocksVisited_9 : decode cC_blocksVisited 9 = .ok (.getfield 68, 3) := by decide +kernel
theorem dC_blocksVisited_12 : decode cC_blocksVisited 12 = .ok (.if_icmp .ge 21, 3) := by decide +kernel
theorem dC_blocksVisited_15 : decode cC_blocksVisited 15 = .ok (.aload_n 0, 1) := by decide +kernel
theorem dC_blocksVisited_16 : decode cC_blocksVisited 16 = .ok (.iload_n 3, 1) := by decide +kernel
theorem dC_blocksVisited_17 : decode cC_blocksVisited 17 = .ok (.iload_n 1, 1) := by decide +kernel
theorem dC_blocksVisited_18 : decode cC_blocksVisited 18 = .ok (.invokevirtual 84, 3) := by decide +kernel
theorem dC_blocksVisited_21 : decode cC_blocksVisited 21 = .ok (.ifCond .le 6, 3) := by decide +kernel
theorem dC_blocksVisited_24 : decode cC_blocksVisited 24 = .ok (.iinc 2 1, 3) := by decide +kernel
theorem dC_blocksVisited_27 : decode cC_blocksVisited 27 = .ok (.iinc 3 1, 3) := by decide +kernel
theorem dC_blocksVisited_30 : decode cC_blocksVisited 30 = .ok (.goto (-26), 3) := by decide +kernel
theorem dC_blocksVisited_33 : decode cC_blocksVisited 33 = .ok (.iload_n 2, 1) := by decide +kernel
theorem dC_blocksVisited_34 : decode cC_blocksVisited 34 = .ok (.ireturn, 1) := by decide +kernel
theorem dC_edgesPassed_0 : decode cC_edgesPassed 0 = .ok (.iconst 0, 1) := by decide +kernel
theorem dC_edgesPassed_1 : decode cC_edgesPassed 1 = .ok (.istore_n 2, 1) := by decide +kernel
theorem dC_edgesPassed_2 : decode cC_edgesPassed 2 = .ok (.iconst 0, 1) := by decide +kernel
theorem dC_edgesPassed_3 : decode cC_edgesPassed 3 = .ok (.istore_n 3, 1) := by decide +kernel
theorem dC_edgesPassed_4 : decode cC_edgesPassed 4 = .ok (.iload_n 3, 1) := by decide +kernel
theorem dC_edgesPassed_5 : decode cC_edgesPassed 5 = .ok (.aload_n 0, 1) := by decide +kernel
theorem dC_edgesPassed_6 : decode cC_edgesPassed 6 = .ok (.getfield 9, 3) := by decide +kernel
theorem dC_edgesPassed_9 : decode cC_edgesPassed 9 = .ok (.getfield 38, 3) := by decide +kernel
theorem dC_edgesPassed_12 : decode cC_edgesPassed 12 = .ok (.if_icmp .ge 21, 3) := by decide +kernel
theorem dC_edgesPassed_15 : decode cC_edgesPassed 15 = .ok (.aload_n 0, 1) := by decide +kernel
theorem dC_edgesPassed_16 : decode cC_edgesPassed 16 = .ok (.iload_n 3, 1) := by decide +kernel
theorem dC_edgesPassed_17 : decode cC_edgesPassed 17 = .ok (.iload_n 1, 1) := by decide +kernel
theorem dC_edgesPassed_18 : decode cC_edgesPassed 18 = .ok (.invokevirtual 81, 3) := by decide +kernel
theorem dC_edgesPassed_21 : decode cC_edgesPassed 21 = .ok (.ifCond .le 6, 3) := by decide +kernel
theorem dC_edgesPassed_24 : decode cC_edgesPassed 24 = .ok (.iinc 2 1, 3) := by decide +kernel
theorem dC_edgesPassed_27 : decode cC_edgesPassed 27 = .ok (.iinc 3 1, 3) := by decide +kernel
theorem dC_edgesPassed_30 : decode cC_edgesPassed 30 = .ok (.goto (-26), 3) := by decide +kernel
theorem dC_edgesPassed_33 : decode cC_edgesPassed 33 = .ok (.iload_n 2, 1) := by decide +kernel
theorem dC_edgesPassed_34 : decode cC_edgesPassed 34 = .ok (.ireturn, 1) := by decide +kernel
theorem dC_waysCompleted_0 : decode cC_waysCompleted 0 = .ok (.iconst 0, 1) := by decide +kernel
theorem dC_waysCompleted_1 : decode cC_waysCompleted 1 = .ok (.istore_n 1, 1) := by decide +kernel
theorem dC_waysCompleted_2 : decode cC_waysCompleted 2 = .ok (.iconst 0, 1) := by decide +kernel
theorem dC_waysCompleted_3 : decode cC_waysCompleted 3 = .ok (.istore_n 2, 1) := by decide +kernel
theorem dC_waysCompleted_4 : decode cC_waysCompleted 4 = .ok (.iload_n 2, 1) := by decide +kernel
theorem dC_waysCompleted_5 : decode cC_waysCompleted 5 = .ok (.sipush 200, 3) := by decide +kernel
theorem dC_waysCompleted_8 : decode cC_waysCompleted 8 = .ok (.if_icmp .ge 21, 3) := by decide +kernel
theorem dC_waysCompleted_11 : decode cC_waysCompleted 11 = .ok (.aload_n 0, 1) := by decide +kernel
theorem dC_waysCompleted_12 : decode cC_waysCompleted 12 = .ok (.getfield 29, 3) := by decide +kernel
theorem dC_waysCompleted_15 : decode cC_waysCompleted 15 = .ok (.iload_n 2, 1) := by decide +kernel
theorem dC_waysCompleted_16 : decode cC_waysCompleted 16 = .ok (.iaload, 1) := by decide +kernel
theorem dC_waysCompleted_17 : decode cC_waysCompleted 17 = .ok (.ifCond .le 6, 3) := by decide +kernel
theorem dC_waysCompleted_20 : decode cC_waysCompleted 20 = .ok (.iinc 1 1, 3) := by decide +kernel
theorem dC_waysCompleted_23 : decode cC_waysCompleted 23 = .ok (.iinc 2 1, 3) := by decide +kernel
theorem dC_waysCompleted_26 : decode cC_waysCompleted 26 = .ok (.goto (-22), 3) := by decide +kernel
theorem dC_waysCompleted_29 : decode cC_waysCompleted 29 = .ok (.iload_n 1, 1) := by decide +kernel
theorem dC_waysCompleted_30 : decode cC_waysCompleted 30 = .ok (.ireturn, 1) := by decide +kernel
