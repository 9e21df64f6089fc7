theorem dX0_init_0 : decode cX0_init 0 = .ok (.aload_n 0, 1) := by decide +kernel
theorem dX0_init_1 : decode cX0_init 1 = .ok (.invokespecial 3, 3) := by decide +kernel
theorem dX0_init_4 : decode cX0_init 4 = .ok (.aload_n 0, 1) := by decide +kernel
theorem dX0_init_5 : decode cX0_init 5 = .ok (.bipush 15, 2) := by decide +kernel
theorem dX0_init_7 : decode cX0_init 7 = .ok (.newarray .int, 2) := by decide +kernel
theorem dX0_init_9 : decode cX0_init 9 = .ok (.putfield 9, 3) := by decide +kernel
theorem dX0_init_12 : decode cX0_init 12 = .ok (.return_, 1) := by decide +kernel
theorem dX0_add_0 : decode cX0_add 0 = .ok (.aload_n 0, 1) := by decide +kernel
theorem dX0_add_1 : decode cX0_add 1 = .ok (.getfield 15, 3) := by decide +kernel
theorem dX0_add_4 : decode cX0_add 4 = .ok (.bipush 15, 2) := by decide +kernel
theorem dX0_add_6 : decode cX0_add 6 = .ok (.if_icmp .lt 5, 3) := by decide +kernel
theorem dX0_add_9 : decode cX0_add 9 = .ok (.iconst 0, 1) := by decide +kernel
theorem dX0_add_10 : decode cX0_add 10 = .ok (.ireturn, 1) := by decide +kernel
theorem dX0_add_11 : decode cX0_add 11 = .ok (.aload_n 0, 1) := by decide +kernel
theorem dX0_add_12 : decode cX0_add 12 = .ok (.getfield 9, 3) := by decide +kernel
theorem dX0_add_15 : decode cX0_add 15 = .ok (.aload_n 0, 1) := by decide +kernel
theorem dX0_add_16 : decode cX0_add 16 = .ok (.getfield 15, 3) := by decide +kernel
theorem dX0_add_19 : decode cX0_add 19 = .ok (.iload_n 1, 1) := by decide +kernel
theorem dX0_add_20 : decode cX0_add 20 = .ok (.invokestatic 19, 3) := by decide +kernel
theorem dX0_add_23 : decode cX0_add 23 = .ok (.aload_n 0, 1) := by decide +kernel
theorem dX0_add_24 : decode cX0_add 24 = .ok (.dup, 1) := by decide +kernel
theorem dX0_add_25 : decode cX0_add 25 = .ok (.getfield 15, 3) := by decide +kernel
theorem dX0_add_28 : decode cX0_add 28 = .ok (.iconst 1, 1) := by decide +kernel
theorem dX0_add_29 : decode cX0_add 29 = .ok (.iadd, 1) := by decide +kernel
theorem dX0_add_30 : decode cX0_add 30 = .ok (.putfield 15, 3) := by decide +kernel
theorem dX0_add_33 : decode cX0_add 33 = .ok (.iconst 1, 1) := by decide +kernel
theorem dX0_add_34 : decode cX0_add 34 = .ok (.ireturn, 1) := by decide +kernel
theorem dX0_codeAt_0 : decode cX0_codeAt 0 = .ok (.aload_n 0, 1) := by decide +kernel
theorem dX0_codeAt_1 : decode cX0_codeAt 1 = .ok (.getfield 9, 3) := by decide +kernel
theorem dX0_codeAt_4 : decode cX0_codeAt 4 = .ok (.iload_n 1, 1) := by decide +kernel
theorem dX0_codeAt_5 : decode cX0_codeAt 5 = .ok (.invokestatic 23, 3) := by decide +kernel
theorem dX0_codeAt_8 : decode cX0_codeAt 8 = .ok (.ireturn, 1) := by decide +kernel
theorem dX0_firstWrong_0 : decode cX0_firstWrong 0 = .ok (.iconst 0, 1) := by decide +kernel
theorem dX0_firstWrong_1 : decode cX0_firstWrong 1 = .ok (.istore_n 1, 1) := by decide +kernel
theorem dX0_firstWrong_2 : decode cX0_firstWrong 2 = .ok (.iconst (-1), 1) := by decide +kernel
theorem dX0_firstWrong_3 : decode cX0_firstWrong 3 = .ok (.istore_n 2, 1) := by decide +kernel
theorem dX0_firstWrong_4 : decode cX0_firstWrong 4 = .ok (.iconst 0, 1) := by decide +kernel
theorem dX0_firstWrong_5 : decode cX0_firstWrong 5 = .ok (.istore_n 3, 1) := by decide +kernel
theorem dX0_firstWrong_6 : decode cX0_firstWrong 6 = .ok (.iload_n 3, 1) := by decide +kernel
theorem dX0_firstWrong_7 : decode cX0_firstWrong 7 = .ok (.aload_n 0, 1) := by decide +kernel
theorem dX0_firstWrong_8 : decode cX0_firstWrong 8 = .ok (.getfield 15, 3) := by decide +kernel
theorem dX0_firstWrong_11 : decode cX0_firstWrong 11 = .ok (.if_icmp .ge 88, 3) := by decide +kernel
theorem dX0_firstWrong_14 : decode cX0_firstWrong 14 = .ok (.aload_n 0, 1) := by decide +kernel
theorem dX0_firstWrong_15 : decode cX0_firstWrong 15 = .ok (.iload_n 3, 1) := by decide +kernel
theorem dX0_firstWrong_16 : decode cX0_firstWrong 16 = .ok (.invokevirtual 27, 3) := by decide +kernel
theorem dX0_firstWrong_19 : decode cX0_firstWrong 19 = .ok (.istore 4, 2) := by decide +kernel
theorem dX0_firstWrong_21 : decode cX0_firstWrong 21 = .ok (.iload_n 2, 1) := by decide +kernel
theorem dX0_firstWrong_22 : decode cX0_firstWrong 22 = .ok (.iconst (-1), 1) := by decide +kernel
theorem dX0_firstWrong_23 : decode cX0_firstWrong 23 = .ok (.if_icmp .eq 30, 3) := by decide +kernel
theorem dX0_firstWrong_26 : decode cX0_firstWrong 26 = .ok (.iload_n 2, 1) := by decide +kernel
theorem dX0_firstWrong_27 : decode cX0_firstWrong 27 = .ok (.iconst 5, 1) := by decide +kernel
theorem dX0_firstWrong_28 : decode cX0_firstWrong 28 = .ok (.if_icmp .eq 17, 3) := by decide +kernel
theorem dX0_firstWrong_31 : decode cX0_firstWrong 31 = .ok (.iload 4, 2) := by decide +kernel
theorem dX0_firstWrong_33 : decode cX0_firstWrong 33 = .ok (.bipush 48, 2) := by decide +kernel
theorem dX0_firstWrong_35 : decode cX0_firstWrong 35 = .ok (.if_icmp .lt 10, 3) := by decide +kernel
theorem dX0_firstWrong_38 : decode cX0_firstWrong 38 = .ok (.iload 4, 2) := by decide +kernel
theorem dX0_firstWrong_40 : decode cX0_firstWrong 40 = .ok (.bipush 57, 2) := by decide +kernel
theorem dX0_firstWrong_42 : decode cX0_firstWrong 42 = .ok (.if_icmp .le 5, 3) := by decide +kernel
theorem dX0_firstWrong_45 : decode cX0_firstWrong 45 = .ok (.iload_n 3, 1) := by decide +kernel
theorem dX0_firstWrong_46 : decode cX0_firstWrong 46 = .ok (.ireturn, 1) := by decide +kernel
theorem dX0_firstWrong_47 : decode cX0_firstWrong 47 = .ok (.iinc 2 1, 3) := by decide +kernel
theorem dX0_firstWrong_50 : decode cX0_firstWrong 50 = .ok (.goto 43, 3) := by decide +kernel
theorem dX0_firstWrong_53 : decode cX0_firstWrong 53 = .ok (.iload 4, 2) := by decide +kernel
theorem dX0_firstWrong_55 : decode cX0_firstWrong 55 = .ok (.bipush 59, 2) := by decide +kernel
theorem dX0_firstWrong_57 : decode cX0_firstWrong 57 = .ok (.if_icmp .ne 13, 3) := by decide +kernel
theorem dX0_firstWrong_60 : decode cX0_firstWrong 60 = .ok (.iload_n 1, 1) := by decide +kernel
theorem dX0_firstWrong_61 : decode cX0_firstWrong 61 = .ok (.iconst 2, 1) := by decide +kernel
theorem dX0_firstWrong_62 : decode cX0_firstWrong 62 = .ok (.if_icmp .lt 8, 3) := by decide +kernel
theorem dX0_firstWrong_65 : decode cX0_firstWrong 65 = .ok (.iconst 0, 1) := by decide +kernel
theorem dX0_firstWrong_66 : decode cX0_firstWrong 66 = .ok (.istore_n 2, 1) := by decide +kernel
theorem dX0_firstWrong_67 : decode cX0_firstWrong 67 = .ok (.goto 26, 3) := by decide +kernel
theorem dX0_firstWrong_70 : decode cX0_firstWrong 70 = .ok (.iload 4, 2) := by decide +kernel
theorem dX0_firstWrong_72 : decode cX0_firstWrong 72 = .ok (.invokestatic 31, 3) := by decide +kernel
theorem dX0_firstWrong_75 : decode cX0_firstWrong 75 = .ok (.iconst (-1), 1) := by decide +kernel
theorem dX0_firstWrong_76 : decode cX0_firstWrong 76 = .ok (.if_icmp .eq 15, 3) := by decide +kernel
theorem dX0_firstWrong_79 : decode cX0_firstWrong 79 = .ok (.iload_n 1, 1) := by decide +kernel
theorem dX0_firstWrong_80 : decode cX0_firstWrong 80 = .ok (.bipush 6, 2) := by decide +kernel
theorem dX0_firstWrong_82 : decode cX0_firstWrong 82 = .ok (.if_icmp .ge 9, 3) := by decide +kernel
theorem dX0_firstWrong_85 : decode cX0_firstWrong 85 = .ok (.iinc 1 1, 3) := by decide +kernel
theorem dX0_firstWrong_88 : decode cX0_firstWrong 88 = .ok (.goto 5, 3) := by decide +kernel
theorem dX0_firstWrong_91 : decode cX0_firstWrong 91 = .ok (.iload_n 3, 1) := by decide +kernel
theorem dX0_firstWrong_92 : decode cX0_firstWrong 92 = .ok (.ireturn, 1) := by decide +kernel
theorem dX0_firstWrong_93 : decode cX0_firstWrong 93 = .ok (.iinc 3 1, 3) := by decide +kernel
theorem dX0_firstWrong_96 : decode cX0_firstWrong 96 = .ok (.goto (-90), 3) := by decide +kernel
theorem dX0_firstWrong_99 : decode cX0_firstWrong 99 = .ok (.aload_n 0, 1) := by decide +kernel
theorem dX0_firstWrong_100 : decode cX0_firstWrong 100 = .ok (.getfield 15, 3) := by decide +kernel
theorem dX0_firstWrong_103 : decode cX0_firstWrong 103 = .ok (.ireturn, 1) := by decide +kernel
theorem dX0_isCamp_0 : decode cX0_isCamp 0 = .ok (.aload_n 0, 1) := by decide +kernel
theorem dX0_isCamp_1 : decode cX0_isCamp 1 = .ok (.invokevirtual 34, 3) := by decide +kernel
theorem dX0_isCamp_4 : decode cX0_isCamp 4 = .ok (.aload_n 0, 1) := by decide +kernel
theorem dX0_isCamp_5 : decode cX0_isCamp 5 = .ok (.getfield 15, 3) := by decide +kernel
theorem dX0_isCamp_8 : decode cX0_isCamp 8 = .ok (.if_icmp .ne 24, 3) := by decide +kernel
theorem dX0_isCamp_11 : decode cX0_isCamp 11 = .ok (.aload_n 0, 1) := by decide +kernel
theorem dX0_isCamp_12 : decode cX0_isCamp 12 = .ok (.aload_n 0, 1) := by decide +kernel
theorem dX0_isCamp_13 : decode cX0_isCamp 13 = .ok (.getfield 15, 3) := by decide +kernel
theorem dX0_isCamp_16 : decode cX0_isCamp 16 = .ok (.iconst 5, 1) := by decide +kernel
theorem dX0_isCamp_17 : decode cX0_isCamp 17 = .ok (.isub, 1) := by decide +kernel
theorem dX0_isCamp_18 : decode cX0_isCamp 18 = .ok (.iconst 1, 1) := by decide +kernel
theorem dX0_isCamp_19 : decode cX0_isCamp 19 = .ok (.isub, 1) := by decide +kernel
theorem dX0_isCamp_20 : decode cX0_isCamp 20 = .ok (.invokevirtual 27, 3) := by decide +kernel
theorem dX0_isCamp_23 : decode cX0_isCamp 23 = .ok (.bipush 59, 2) := by decide +kernel
theorem dX0_isCamp_25 : decode cX0_isCamp 25 = .ok (.if_icmp .ne 7, 3) := by decide +kernel
theorem dX0_isCamp_28 : decode cX0_isCamp 28 = .ok (.iconst 1, 1) := by decide +kernel
theorem dX0_isCamp_29 : decode cX0_isCamp 29 = .ok (.goto 4, 3) := by decide +kernel
theorem dX0_isCamp_32 : decode cX0_isCamp 32 = .ok (.iconst 0, 1) := by decide +kernel
theorem dX0_isCamp_33 : decode cX0_isCamp 33 = .ok (.ireturn, 1) := by decide +kernel
theorem dX1_init_0 : decode cX1_init 0 = .ok (.aload_n 0, 1) := by decide +kernel
theorem dX1_init_1 : decode cX1_init 1 = .ok (.invokespecial 3, 3) := by decide +kernel
theorem dX1_init_4 : decode cX1_init 4 = .ok (.aload_n 0, 1) := by decide +kernel
theorem dX1_init_5 : decode cX1_init 5 = .ok (.bipush 6, 2) := by decide +kernel
theorem dX1_init_7 : decode cX1_init 7 = .ok (.newarray .int, 2) := by decide +kernel
theorem dX1_init_9 : decode cX1_init 9 = .ok (.putfield 9, 3) := by decide +kernel
theorem dX1_init_12 : decode cX1_init 12 = .ok (.aload_n 0, 1) := by decide +kernel
theorem dX1_init_13 : decode cX1_init 13 = .ok (.iconst 5, 1) := by decide +kernel
theorem dX1_init_14 : decode cX1_init 14 = .ok (.newarray .int, 2) := by decide +kernel
theorem dX1_init_16 : decode cX1_init 16 = .ok (.putfield 15, 3) := by decide +kernel
theorem dX1_init_19 : decode cX1_init 19 = .ok (.return_, 1) := by decide +kernel
theorem dX1_all_0 : decode cX1_all 0 = .ok (.iconst 1, 1) := by decide +kernel
theorem dX1_all_1 : decode cX1_all 1 = .ok (.aload_n 0, 1) := by decide +kernel
theorem dX1_all_2 : decode cX1_all 2 = .ok (.getfield 18, 3) := by decide +kernel
theorem dX1_all_5 : decode cX1_all 5 = .ok (.ishl, 1) := by decide +kernel
theorem dX1_all_6 : decode cX1_all 6 = .ok (.iconst 1, 1) := by decide +kernel
theorem dX1_all_7 : decode cX1_all 7 = .ok (.isub, 1) := by decide +kernel
theorem dX1_all_8 : decode cX1_all 8 = .ok (.ireturn, 1) := by decide +kernel
theorem dX1_together_0 : decode cX1_together 0 = .ok (.iconst 0, 1) := by decide +kernel
theorem dX1_together_1 : decode cX1_together 1 = .ok (.istore_n 3, 1) := by decide +kernel
theorem dX1_together_2 : decode cX1_together 2 = .ok (.iconst 0, 1) := by decide +kernel
theorem dX1_together_3 : decode cX1_together 3 = .ok (.istore 4, 2) := by decide +kernel
theorem dX1_together_5 : decode cX1_together 5 = .ok (.iload 4, 2) := by decide +kernel
theorem dX1_together_7 : decode cX1_together 7 = .ok (.aload_n 0, 1) := by decide +kernel
theorem dX1_together_8 : decode cX1_together 8 = .ok (.getfield 18, 3) := by decide +kernel
theorem dX1_together_11 : decode cX1_together 11 = .ok (.if_icmp .ge 35, 3) := by decide +kernel
theorem dX1_together_14 : decode cX1_together 14 = .ok (.iload_n 1, 1) := by decide +kernel
theorem dX1_together_15 : decode cX1_together 15 = .ok (.iload 4, 2) := by decide +kernel
theorem dX1_together_17 : decode cX1_together 17 = .ok (.ishr, 1) := by decide +kernel
theorem dX1_together_18 : decode cX1_together 18 = .ok (.iconst 1, 1) := by decide +kernel
theorem dX1_together_19 : decode cX1_together 19 = .ok (.iand, 1) := by decide +kernel
theorem dX1_together_20 : decode cX1_together 20 = .ok (.iconst 1, 1) := by decide +kernel
theorem dX1_together_21 : decode cX1_together 21 = .ok (.if_icmp .ne 19, 3) := by decide +kernel
theorem dX1_together_24 : decode cX1_together 24 = .ok (.iload_n 3, 1) := by decide +kernel
theorem dX1_together_25 : decode cX1_together 25 = .ok (.aload_n 2, 1) := by decide +kernel
theorem dX1_together_26 : decode cX1_together 26 = .ok (.aload_n 0, 1) := by decide +kernel
theorem dX1_together_27 : decode cX1_together 27 = .ok (.getfield 9, 3) := by decide +kernel
theorem dX1_together_30 : decode cX1_together 30 = .ok (.iload 4, 2) := by decide +kernel
theorem dX1_together_32 : decode cX1_together 32 = .ok (.invokestatic 22, 3) := by decide +kernel
theorem dX1_together_35 : decode cX1_together 35 = .ok (.invokestatic 22, 3) := by decide +kernel
theorem dX1_together_38 : decode cX1_together 38 = .ok (.iadd, 1) := by decide +kernel
theorem dX1_together_39 : decode cX1_together 39 = .ok (.istore_n 3, 1) := by decide +kernel
theorem dX1_together_40 : decode cX1_together 40 = .ok (.iinc 4 1, 3) := by decide +kernel
theorem dX1_together_43 : decode cX1_together 43 = .ok (.goto (-38), 3) := by decide +kernel
theorem dX1_together_46 : decode cX1_together 46 = .ok (.iload_n 3, 1) := by decide +kernel
theorem dX1_together_47 : decode cX1_together 47 = .ok (.ireturn, 1) := by decide +kernel
theorem dX1_setCairns_0 : decode cX1_setCairns 0 = .ok (.aload_n 1, 1) := by decide +kernel
theorem dX1_setCairns_1 : decode cX1_setCairns 1 = .ok (.aload_n 0, 1) := by decide +kernel
theorem dX1_setCairns_2 : decode cX1_setCairns 2 = .ok (.getfield 15, 3) := by decide +kernel
theorem dX1_setCairns_5 : decode cX1_setCairns 5 = .ok (.invokestatic 26, 3) := by decide +kernel
theorem dX1_setCairns_8 : decode cX1_setCairns 8 = .ok (.return_, 1) := by decide +kernel
theorem dX1_go_0 : decode cX1_go 0 = .ok (.aload_n 0, 1) := by decide +kernel
theorem dX1_go_1 : decode cX1_go 1 = .ok (.iload_n 1, 1) := by decide +kernel
theorem dX1_go_2 : decode cX1_go 2 = .ok (.iload_n 3, 1) := by decide +kernel
theorem dX1_go_3 : decode cX1_go 3 = .ok (.invokevirtual 30, 3) := by decide +kernel
theorem dX1_go_6 : decode cX1_go 6 = .ok (.iconst 1, 1) := by decide +kernel
theorem dX1_go_7 : decode cX1_go 7 = .ok (.istore 4, 2) := by decide +kernel
theorem dX1_go_9 : decode cX1_go 9 = .ok (.iload 4, 2) := by decide +kernel
theorem dX1_go_11 : decode cX1_go 11 = .ok (.iconst 2, 1) := by decide +kernel
theorem dX1_go_12 : decode cX1_go 12 = .ok (.iload_n 2, 1) := by decide +kernel
theorem dX1_go_13 : decode cX1_go 13 = .ok (.imul, 1) := by decide +kernel
theorem dX1_go_14 : decode cX1_go 14 = .ok (.if_icmp .gt 97, 3) := by decide +kernel
theorem dX1_go_17 : decode cX1_go 17 = .ok (.iload 4, 2) := by decide +kernel
theorem dX1_go_19 : decode cX1_go 19 = .ok (.iload_n 2, 1) := by decide +kernel
theorem dX1_go_20 : decode cX1_go 20 = .ok (.if_icmp .gt 7, 3) := by decide +kernel
theorem dX1_go_23 : decode cX1_go 23 = .ok (.iconst 1, 1) := by decide +kernel
theorem dX1_go_24 : decode cX1_go 24 = .ok (.goto 4, 3) := by decide +kernel
theorem dX1_go_27 : decode cX1_go 27 = .ok (.iconst 0, 1) := by decide +kernel
theorem dX1_go_28 : decode cX1_go 28 = .ok (.istore 5, 2) := by decide +kernel
theorem dX1_go_30 : decode cX1_go 30 = .ok (.iload 5, 2) := by decide +kernel
theorem dX1_go_32 : decode cX1_go 32 = .ok (.ifCond .eq 15, 3) := by decide +kernel
theorem dX1_go_35 : decode cX1_go 35 = .ok (.iload 4, 2) := by decide +kernel
theorem dX1_go_37 : decode cX1_go 37 = .ok (.iconst 1, 1) := by decide +kernel
theorem dX1_go_38 : decode cX1_go 38 = .ok (.isub, 1) := by decide +kernel
theorem dX1_go_39 : decode cX1_go 39 = .ok (.iconst 3, 1) := by decide +kernel
theorem dX1_go_40 : decode cX1_go 40 = .ok (.if_icmp .lt 7, 3) := by decide +kernel
theorem dX1_go_43 : decode cX1_go 43 = .ok (.aload_n 0, 1) := by decide +kernel
theorem dX1_go_44 : decode cX1_go 44 = .ok (.invokevirtual 34, 3) := by decide +kernel
theorem dX1_go_47 : decode cX1_go 47 = .ok (.aload_n 0, 1) := by decide +kernel
theorem dX1_go_48 : decode cX1_go 48 = .ok (.invokevirtual 37, 3) := by decide +kernel
theorem dX1_go_51 : decode cX1_go 51 = .ok (.aload_n 0, 1) := by decide +kernel
theorem dX1_go_52 : decode cX1_go 52 = .ok (.getfield 40, 3) := by decide +kernel
theorem dX1_go_55 : decode cX1_go 55 = .ok (.ifCond .eq 14, 3) := by decide +kernel
theorem dX1_go_58 : decode cX1_go 58 = .ok (.aload_n 0, 1) := by decide +kernel
theorem dX1_go_59 : decode cX1_go 59 = .ok (.getfield 43, 3) := by decide +kernel
theorem dX1_go_62 : decode cX1_go 62 = .ok (.aload_n 0, 1) := by decide +kernel
theorem dX1_go_63 : decode cX1_go 63 = .ok (.getfield 46, 3) := by decide +kernel
theorem dX1_go_66 : decode cX1_go 66 = .ok (.if_icmp .ge 11, 3) := by decide +kernel
theorem dX1_go_69 : decode cX1_go 69 = .ok (.aload_n 0, 1) := by decide +kernel
theorem dX1_go_70 : decode cX1_go 70 = .ok (.iload 4, 2) := by decide +kernel
theorem dX1_go_72 : decode cX1_go 72 = .ok (.invokevirtual 49, 3) := by decide +kernel
theorem dX1_go_75 : decode cX1_go 75 = .ok (.iconst 0, 1) := by decide +kernel
theorem dX1_go_76 : decode cX1_go 76 = .ok (.ireturn, 1) := by decide +kernel
theorem dX1_go_77 : decode cX1_go 77 = .ok (.aload_n 0, 1) := by decide +kernel
theorem dX1_go_78 : decode cX1_go 78 = .ok (.dup, 1) := by decide +kernel
theorem dX1_go_79 : decode cX1_go 79 = .ok (.getfield 43, 3) := by decide +kernel
theorem dX1_go_82 : decode cX1_go 82 = .ok (.aload_n 0, 1) := by decide +kernel
theorem dX1_go_83 : decode cX1_go 83 = .ok (.getfield 46, 3) := by decide +kernel
theorem dX1_go_86 : decode cX1_go 86 = .ok (.isub, 1) := by decide +kernel
theorem dX1_go_87 : decode cX1_go 87 = .ok (.putfield 43, 3) := by decide +kernel
theorem dX1_go_90 : decode cX1_go 90 = .ok (.iload 5, 2) := by decide +kernel
theorem dX1_go_92 : decode cX1_go 92 = .ok (.ifCond .ne 13, 3) := by decide +kernel
theorem dX1_go_95 : decode cX1_go 95 = .ok (.aload_n 0, 1) := by decide +kernel
theorem dX1_go_96 : decode cX1_go 96 = .ok (.iconst 2, 1) := by decide +kernel
theorem dX1_go_97 : decode cX1_go 97 = .ok (.iload_n 2, 1) := by decide +kernel
theorem dX1_go_98 : decode cX1_go 98 = .ok (.imul, 1) := by decide +kernel
theorem dX1_go_99 : decode cX1_go 99 = .ok (.iload 4, 2) := by decide +kernel
theorem dX1_go_101 : decode cX1_go 101 = .ok (.isub, 1) := by decide +kernel
theorem dX1_go_102 : decode cX1_go 102 = .ok (.invokevirtual 53, 3) := by decide +kernel
theorem dX1_go_105 : decode cX1_go 105 = .ok (.iinc 4 1, 3) := by decide +kernel
theorem dX1_go_108 : decode cX1_go 108 = .ok (.goto (-99), 3) := by decide +kernel
theorem dX1_go_111 : decode cX1_go 111 = .ok (.iconst 1, 1) := by decide +kernel
theorem dX1_go_112 : decode cX1_go 112 = .ok (.ireturn, 1) := by decide +kernel
theorem dX1_setOut_0 : decode cX1_setOut 0 = .ok (.aload_n 0, 1) := by decide +kernel
theorem dX1_setOut_1 : decode cX1_setOut 1 = .ok (.iload_n 1, 1) := by decide +kernel
theorem dX1_setOut_2 : decode cX1_setOut 2 = .ok (.putfield 40, 3) := by decide +kernel
theorem dX1_setOut_5 : decode cX1_setOut 5 = .ok (.aload_n 0, 1) := by decide +kernel
theorem dX1_setOut_6 : decode cX1_setOut 6 = .ok (.aload_n 0, 1) := by decide +kernel
theorem dX1_setOut_7 : decode cX1_setOut 7 = .ok (.iload_n 1, 1) := by decide +kernel
theorem dX1_setOut_8 : decode cX1_setOut 8 = .ok (.getstatic 56, 3) := by decide +kernel
theorem dX1_setOut_11 : decode cX1_setOut 11 = .ok (.invokevirtual 59, 3) := by decide +kernel
theorem dX1_setOut_14 : decode cX1_setOut 14 = .ok (.putfield 63, 3) := by decide +kernel
theorem dX1_setOut_17 : decode cX1_setOut 17 = .ok (.aload_n 0, 1) := by decide +kernel
theorem dX1_setOut_18 : decode cX1_setOut 18 = .ok (.aload_n 0, 1) := by decide +kernel
theorem dX1_setOut_19 : decode cX1_setOut 19 = .ok (.iload_n 1, 1) := by decide +kernel
theorem dX1_setOut_20 : decode cX1_setOut 20 = .ok (.getstatic 66, 3) := by decide +kernel
theorem dX1_setOut_23 : decode cX1_setOut 23 = .ok (.invokevirtual 59, 3) := by decide +kernel
theorem dX1_setOut_26 : decode cX1_setOut 26 = .ok (.putfield 46, 3) := by decide +kernel
theorem dX1_setOut_29 : decode cX1_setOut 29 = .ok (.aload_n 0, 1) := by decide +kernel
theorem dX1_setOut_30 : decode cX1_setOut 30 = .ok (.iload_n 2, 1) := by decide +kernel
theorem dX1_setOut_31 : decode cX1_setOut 31 = .ok (.aload_n 0, 1) := by decide +kernel
theorem dX1_setOut_32 : decode cX1_setOut 32 = .ok (.getfield 63, 3) := by decide +kernel
theorem dX1_setOut_35 : decode cX1_setOut 35 = .ok (.invokestatic 69, 3) := by decide +kernel
theorem dX1_setOut_38 : decode cX1_setOut 38 = .ok (.putfield 43, 3) := by decide +kernel
theorem dX1_setOut_41 : decode cX1_setOut 41 = .ok (.aload_n 0, 1) := by decide +kernel
theorem dX1_setOut_42 : decode cX1_setOut 42 = .ok (.iconst 0, 1) := by decide +kernel
theorem dX1_setOut_43 : decode cX1_setOut 43 = .ok (.putfield 75, 3) := by decide +kernel
theorem dX1_setOut_46 : decode cX1_setOut 46 = .ok (.return_, 1) := by decide +kernel
theorem dX1_eatPonies_0 : decode cX1_eatPonies 0 = .ok (.aload_n 0, 1) := by decide +kernel
theorem dX1_eatPonies_1 : decode cX1_eatPonies 1 = .ok (.getfield 18, 3) := by decide +kernel
theorem dX1_eatPonies_4 : decode cX1_eatPonies 4 = .ok (.iconst 1, 1) := by decide +kernel
theorem dX1_eatPonies_5 : decode cX1_eatPonies 5 = .ok (.isub, 1) := by decide +kernel
theorem dX1_eatPonies_6 : decode cX1_eatPonies 6 = .ok (.istore_n 1, 1) := by decide +kernel
theorem dX1_eatPonies_7 : decode cX1_eatPonies 7 = .ok (.iload_n 1, 1) := by decide +kernel
theorem dX1_eatPonies_8 : decode cX1_eatPonies 8 = .ok (.ifCond .lt 26, 3) := by decide +kernel
theorem dX1_eatPonies_11 : decode cX1_eatPonies 11 = .ok (.aload_n 0, 1) := by decide +kernel
theorem dX1_eatPonies_12 : decode cX1_eatPonies 12 = .ok (.getfield 9, 3) := by decide +kernel
theorem dX1_eatPonies_15 : decode cX1_eatPonies 15 = .ok (.iload_n 1, 1) := by decide +kernel
theorem dX1_eatPonies_16 : decode cX1_eatPonies 16 = .ok (.invokestatic 22, 3) := by decide +kernel
theorem dX1_eatPonies_19 : decode cX1_eatPonies 19 = .ok (.iconst 1, 1) := by decide +kernel
theorem dX1_eatPonies_20 : decode cX1_eatPonies 20 = .ok (.if_icmp .ne 8, 3) := by decide +kernel
theorem dX1_eatPonies_23 : decode cX1_eatPonies 23 = .ok (.aload_n 0, 1) := by decide +kernel
theorem dX1_eatPonies_24 : decode cX1_eatPonies 24 = .ok (.iload_n 1, 1) := by decide +kernel
theorem dX1_eatPonies_25 : decode cX1_eatPonies 25 = .ok (.invokevirtual 78, 3) := by decide +kernel
theorem dX1_eatPonies_28 : decode cX1_eatPonies 28 = .ok (.iinc 1 (-1), 3) := by decide +kernel
theorem dX1_eatPonies_31 : decode cX1_eatPonies 31 = .ok (.goto (-24), 3) := by decide +kernel
theorem dX1_eatPonies_34 : decode cX1_eatPonies 34 = .ok (.return_, 1) := by decide +kernel
theorem dX1_eatBeasts_0 : decode cX1_eatBeasts 0 = .ok (.aload_n 0, 1) := by decide +kernel
theorem dX1_eatBeasts_1 : decode cX1_eatBeasts 1 = .ok (.getfield 18, 3) := by decide +kernel
theorem dX1_eatBeasts_4 : decode cX1_eatBeasts 4 = .ok (.iconst 1, 1) := by decide +kernel
theorem dX1_eatBeasts_5 : decode cX1_eatBeasts 5 = .ok (.isub, 1) := by decide +kernel
theorem dX1_eatBeasts_6 : decode cX1_eatBeasts 6 = .ok (.istore_n 1, 1) := by decide +kernel
theorem dX1_eatBeasts_7 : decode cX1_eatBeasts 7 = .ok (.iload_n 1, 1) := by decide +kernel
theorem dX1_eatBeasts_8 : decode cX1_eatBeasts 8 = .ok (.ifCond .lt 47, 3) := by decide +kernel
theorem dX1_eatBeasts_11 : decode cX1_eatBeasts 11 = .ok (.aload_n 0, 1) := by decide +kernel
theorem dX1_eatBeasts_12 : decode cX1_eatBeasts 12 = .ok (.getfield 43, 3) := by decide +kernel
theorem dX1_eatBeasts_15 : decode cX1_eatBeasts 15 = .ok (.aload_n 0, 1) := by decide +kernel
theorem dX1_eatBeasts_16 : decode cX1_eatBeasts 16 = .ok (.getfield 46, 3) := by decide +kernel
theorem dX1_eatBeasts_19 : decode cX1_eatBeasts 19 = .ok (.if_icmp .ge 36, 3) := by decide +kernel
theorem dX1_eatBeasts_22 : decode cX1_eatBeasts 22 = .ok (.aload_n 0, 1) := by decide +kernel
theorem dX1_eatBeasts_23 : decode cX1_eatBeasts 23 = .ok (.getfield 9, 3) := by decide +kernel
theorem dX1_eatBeasts_26 : decode cX1_eatBeasts 26 = .ok (.iload_n 1, 1) := by decide +kernel
theorem dX1_eatBeasts_27 : decode cX1_eatBeasts 27 = .ok (.invokestatic 22, 3) := by decide +kernel
theorem dX1_eatBeasts_30 : decode cX1_eatBeasts 30 = .ok (.istore_n 2, 1) := by decide +kernel
theorem dX1_eatBeasts_31 : decode cX1_eatBeasts 31 = .ok (.iload_n 2, 1) := by decide +kernel
theorem dX1_eatBeasts_32 : decode cX1_eatBeasts 32 = .ok (.iconst 1, 1) := by decide +kernel
theorem dX1_eatBeasts_33 : decode cX1_eatBeasts 33 = .ok (.if_icmp .eq 11, 3) := by decide +kernel
theorem dX1_eatBeasts_36 : decode cX1_eatBeasts 36 = .ok (.iload_n 2, 1) := by decide +kernel
theorem dX1_eatBeasts_37 : decode cX1_eatBeasts 37 = .ok (.iconst 2, 1) := by decide +kernel
theorem dX1_eatBeasts_38 : decode cX1_eatBeasts 38 = .ok (.invokestatic 81, 3) := by decide +kernel
theorem dX1_eatBeasts_41 : decode cX1_eatBeasts 41 = .ok (.ifCond .eq 8, 3) := by decide +kernel
theorem dX1_eatBeasts_44 : decode cX1_eatBeasts 44 = .ok (.aload_n 0, 1) := by decide +kernel
theorem dX1_eatBeasts_45 : decode cX1_eatBeasts 45 = .ok (.iload_n 1, 1) := by decide +kernel
theorem dX1_eatBeasts_46 : decode cX1_eatBeasts 46 = .ok (.invokevirtual 78, 3) := by decide +kernel
theorem dX1_eatBeasts_49 : decode cX1_eatBeasts 49 = .ok (.iinc 1 (-1), 3) := by decide +kernel
theorem dX1_eatBeasts_52 : decode cX1_eatBeasts 52 = .ok (.goto (-45), 3) := by decide +kernel
theorem dX1_eatBeasts_55 : decode cX1_eatBeasts 55 = .ok (.return_, 1) := by decide +kernel
theorem dX1_devour_0 : decode cX1_devour 0 = .ok (.aload_n 0, 1) := by decide +kernel
theorem dX1_devour_1 : decode cX1_devour 1 = .ok (.getfield 40, 3) := by decide +kernel
theorem dX1_devour_4 : decode cX1_devour 4 = .ok (.iload_n 1, 1) := by decide +kernel
theorem dX1_devour_5 : decode cX1_devour 5 = .ok (.ishr, 1) := by decide +kernel
theorem dX1_devour_6 : decode cX1_devour 6 = .ok (.iconst 1, 1) := by decide +kernel
theorem dX1_devour_7 : decode cX1_devour 7 = .ok (.iand, 1) := by decide +kernel
theorem dX1_devour_8 : decode cX1_devour 8 = .ok (.ifCond .ne 4, 3) := by decide +kernel
theorem dX1_devour_11 : decode cX1_devour 11 = .ok (.return_, 1) := by decide +kernel
theorem dX1_devour_12 : decode cX1_devour 12 = .ok (.aload_n 0, 1) := by decide +kernel
theorem dX1_devour_13 : decode cX1_devour 13 = .ok (.getfield 9, 3) := by decide +kernel
theorem dX1_devour_16 : decode cX1_devour 16 = .ok (.iload_n 1, 1) := by decide +kernel
theorem dX1_devour_17 : decode cX1_devour 17 = .ok (.invokestatic 22, 3) := by decide +kernel
theorem dX1_devour_20 : decode cX1_devour 20 = .ok (.istore_n 2, 1) := by decide +kernel
theorem dX1_devour_21 : decode cX1_devour 21 = .ok (.aload_n 0, 1) := by decide +kernel
theorem dX1_devour_22 : decode cX1_devour 22 = .ok (.dup, 1) := by decide +kernel
theorem dX1_devour_23 : decode cX1_devour 23 = .ok (.getfield 40, 3) := by decide +kernel
theorem dX1_devour_26 : decode cX1_devour 26 = .ok (.iconst 1, 1) := by decide +kernel
theorem dX1_devour_27 : decode cX1_devour 27 = .ok (.iload_n 1, 1) := by decide +kernel
theorem dX1_devour_28 : decode cX1_devour 28 = .ok (.ishl, 1) := by decide +kernel
theorem dX1_devour_29 : decode cX1_devour 29 = .ok (.iconst (-1), 1) := by decide +kernel
theorem dX1_devour_30 : decode cX1_devour 30 = .ok (.ixor, 1) := by decide +kernel
theorem dX1_devour_31 : decode cX1_devour 31 = .ok (.iand, 1) := by decide +kernel
theorem dX1_devour_32 : decode cX1_devour 32 = .ok (.putfield 40, 3) := by decide +kernel
theorem dX1_devour_35 : decode cX1_devour 35 = .ok (.aload_n 0, 1) := by decide +kernel
theorem dX1_devour_36 : decode cX1_devour 36 = .ok (.dup, 1) := by decide +kernel
theorem dX1_devour_37 : decode cX1_devour 37 = .ok (.getfield 63, 3) := by decide +kernel
theorem dX1_devour_40 : decode cX1_devour 40 = .ok (.getstatic 56, 3) := by decide +kernel
theorem dX1_devour_43 : decode cX1_devour 43 = .ok (.iload_n 2, 1) := by decide +kernel
theorem dX1_devour_44 : decode cX1_devour 44 = .ok (.invokestatic 22, 3) := by decide +kernel
theorem dX1_devour_47 : decode cX1_devour 47 = .ok (.isub, 1) := by decide +kernel
theorem dX1_devour_48 : decode cX1_devour 48 = .ok (.putfield 63, 3) := by decide +kernel
theorem dX1_devour_51 : decode cX1_devour 51 = .ok (.aload_n 0, 1) := by decide +kernel
theorem dX1_devour_52 : decode cX1_devour 52 = .ok (.dup, 1) := by decide +kernel
theorem dX1_devour_53 : decode cX1_devour 53 = .ok (.getfield 46, 3) := by decide +kernel
theorem dX1_devour_56 : decode cX1_devour 56 = .ok (.getstatic 66, 3) := by decide +kernel
theorem dX1_devour_59 : decode cX1_devour 59 = .ok (.iload_n 2, 1) := by decide +kernel
theorem dX1_devour_60 : decode cX1_devour 60 = .ok (.invokestatic 22, 3) := by decide +kernel
theorem dX1_devour_63 : decode cX1_devour 63 = .ok (.isub, 1) := by decide +kernel
theorem dX1_devour_64 : decode cX1_devour 64 = .ok (.putfield 46, 3) := by decide +kernel
theorem dX1_devour_67 : decode cX1_devour 67 = .ok (.aload_n 0, 1) := by decide +kernel
theorem dX1_devour_68 : decode cX1_devour 68 = .ok (.aload_n 0, 1) := by decide +kernel
theorem dX1_devour_69 : decode cX1_devour 69 = .ok (.getfield 43, 3) := by decide +kernel
theorem dX1_devour_72 : decode cX1_devour 72 = .ok (.getstatic 85, 3) := by decide +kernel
theorem dX1_devour_75 : decode cX1_devour 75 = .ok (.iload_n 2, 1) := by decide +kernel
theorem dX1_devour_76 : decode cX1_devour 76 = .ok (.invokestatic 22, 3) := by decide +kernel
theorem dX1_devour_79 : decode cX1_devour 79 = .ok (.iadd, 1) := by decide +kernel
theorem dX1_devour_80 : decode cX1_devour 80 = .ok (.aload_n 0, 1) := by decide +kernel
theorem dX1_devour_81 : decode cX1_devour 81 = .ok (.getfield 63, 3) := by decide +kernel
theorem dX1_devour_84 : decode cX1_devour 84 = .ok (.invokestatic 69, 3) := by decide +kernel
theorem dX1_devour_87 : decode cX1_devour 87 = .ok (.putfield 43, 3) := by decide +kernel
theorem dX1_devour_90 : decode cX1_devour 90 = .ok (.return_, 1) := by decide +kernel
theorem dX1_dieOn_0 : decode cX1_dieOn 0 = .ok (.aload_n 0, 1) := by decide +kernel
theorem dX1_dieOn_1 : decode cX1_dieOn 1 = .ok (.iconst 0, 1) := by decide +kernel
theorem dX1_dieOn_2 : decode cX1_dieOn 2 = .ok (.putfield 40, 3) := by decide +kernel
theorem dX1_dieOn_5 : decode cX1_dieOn 5 = .ok (.aload_n 0, 1) := by decide +kernel
theorem dX1_dieOn_6 : decode cX1_dieOn 6 = .ok (.iconst 0, 1) := by decide +kernel
theorem dX1_dieOn_7 : decode cX1_dieOn 7 = .ok (.putfield 43, 3) := by decide +kernel
theorem dX1_dieOn_10 : decode cX1_dieOn 10 = .ok (.aload_n 0, 1) := by decide +kernel
theorem dX1_dieOn_11 : decode cX1_dieOn 11 = .ok (.iload_n 1, 1) := by decide +kernel
theorem dX1_dieOn_12 : decode cX1_dieOn 12 = .ok (.putfield 75, 3) := by decide +kernel
theorem dX1_dieOn_15 : decode cX1_dieOn 15 = .ok (.return_, 1) := by decide +kernel
theorem dX1_takeUpAt_0 : decode cX1_takeUpAt 0 = .ok (.aload_n 0, 1) := by decide +kernel
theorem dX1_takeUpAt_1 : decode cX1_takeUpAt 1 = .ok (.getfield 15, 3) := by decide +kernel
theorem dX1_takeUpAt_4 : decode cX1_takeUpAt 4 = .ok (.iload_n 1, 1) := by decide +kernel
theorem dX1_takeUpAt_5 : decode cX1_takeUpAt 5 = .ok (.iconst 1, 1) := by decide +kernel
theorem dX1_takeUpAt_6 : decode cX1_takeUpAt 6 = .ok (.isub, 1) := by decide +kernel
theorem dX1_takeUpAt_7 : decode cX1_takeUpAt 7 = .ok (.invokestatic 22, 3) := by decide +kernel
theorem dX1_takeUpAt_10 : decode cX1_takeUpAt 10 = .ok (.aload_n 0, 1) := by decide +kernel
theorem dX1_takeUpAt_11 : decode cX1_takeUpAt 11 = .ok (.getfield 63, 3) := by decide +kernel
theorem dX1_takeUpAt_14 : decode cX1_takeUpAt 14 = .ok (.aload_n 0, 1) := by decide +kernel
theorem dX1_takeUpAt_15 : decode cX1_takeUpAt 15 = .ok (.getfield 43, 3) := by decide +kernel
theorem dX1_takeUpAt_18 : decode cX1_takeUpAt 18 = .ok (.isub, 1) := by decide +kernel
theorem dX1_takeUpAt_19 : decode cX1_takeUpAt 19 = .ok (.invokestatic 69, 3) := by decide +kernel
theorem dX1_takeUpAt_22 : decode cX1_takeUpAt 22 = .ok (.istore_n 2, 1) := by decide +kernel
theorem dX1_takeUpAt_23 : decode cX1_takeUpAt 23 = .ok (.aload_n 0, 1) := by decide +kernel
theorem dX1_takeUpAt_24 : decode cX1_takeUpAt 24 = .ok (.getfield 15, 3) := by decide +kernel
theorem dX1_takeUpAt_27 : decode cX1_takeUpAt 27 = .ok (.iload_n 1, 1) := by decide +kernel
theorem dX1_takeUpAt_28 : decode cX1_takeUpAt 28 = .ok (.iconst 1, 1) := by decide +kernel
theorem dX1_takeUpAt_29 : decode cX1_takeUpAt 29 = .ok (.isub, 1) := by decide +kernel
theorem dX1_takeUpAt_30 : decode cX1_takeUpAt 30 = .ok (.aload_n 0, 1) := by decide +kernel
theorem dX1_takeUpAt_31 : decode cX1_takeUpAt 31 = .ok (.getfield 15, 3) := by decide +kernel
theorem dX1_takeUpAt_34 : decode cX1_takeUpAt 34 = .ok (.iload_n 1, 1) := by decide +kernel
theorem dX1_takeUpAt_35 : decode cX1_takeUpAt 35 = .ok (.iconst 1, 1) := by decide +kernel
theorem dX1_takeUpAt_36 : decode cX1_takeUpAt 36 = .ok (.isub, 1) := by decide +kernel
theorem dX1_takeUpAt_37 : decode cX1_takeUpAt 37 = .ok (.invokestatic 22, 3) := by decide +kernel
theorem dX1_takeUpAt_40 : decode cX1_takeUpAt 40 = .ok (.iload_n 2, 1) := by decide +kernel
theorem dX1_takeUpAt_41 : decode cX1_takeUpAt 41 = .ok (.isub, 1) := by decide +kernel
theorem dX1_takeUpAt_42 : decode cX1_takeUpAt 42 = .ok (.invokestatic 88, 3) := by decide +kernel
theorem dX1_takeUpAt_45 : decode cX1_takeUpAt 45 = .ok (.aload_n 0, 1) := by decide +kernel
theorem dX1_takeUpAt_46 : decode cX1_takeUpAt 46 = .ok (.dup, 1) := by decide +kernel
theorem dX1_takeUpAt_47 : decode cX1_takeUpAt 47 = .ok (.getfield 43, 3) := by decide +kernel
theorem dX1_takeUpAt_50 : decode cX1_takeUpAt 50 = .ok (.iload_n 2, 1) := by decide +kernel
theorem dX1_takeUpAt_51 : decode cX1_takeUpAt 51 = .ok (.iadd, 1) := by decide +kernel
theorem dX1_takeUpAt_52 : decode cX1_takeUpAt 52 = .ok (.putfield 43, 3) := by decide +kernel
theorem dX1_takeUpAt_55 : decode cX1_takeUpAt 55 = .ok (.return_, 1) := by decide +kernel
theorem dX2_init_0 : decode cX2_init 0 = .ok (.aload_n 0, 1) := by decide +kernel
theorem dX2_init_1 : decode cX2_init 1 = .ok (.invokespecial 3, 3) := by decide +kernel
theorem dX2_init_4 : decode cX2_init 4 = .ok (.aload_n 0, 1) := by decide +kernel
theorem dX2_init_5 : decode cX2_init 5 = .ok (.iconst 5, 1) := by decide +kernel
theorem dX2_init_6 : decode cX2_init 6 = .ok (.newarray .int, 2) := by decide +kernel
theorem dX2_init_8 : decode cX2_init 8 = .ok (.putfield 9, 3) := by decide +kernel
theorem dX2_init_11 : decode cX2_init 11 = .ok (.aload_n 0, 1) := by decide +kernel
theorem dX2_init_12 : decode cX2_init 12 = .ok (.bipush 6, 2) := by decide +kernel
theorem dX2_init_14 : decode cX2_init 14 = .ok (.newarray .int, 2) := by decide +kernel
theorem dX2_init_16 : decode cX2_init 16 = .ok (.putfield 15, 3) := by decide +kernel
theorem dX2_init_19 : decode cX2_init 19 = .ok (.aload_n 0, 1) := by decide +kernel
theorem dX2_init_20 : decode cX2_init 20 = .ok (.bipush 6, 2) := by decide +kernel
theorem dX2_init_22 : decode cX2_init 22 = .ok (.newarray .int, 2) := by decide +kernel
theorem dX2_init_24 : decode cX2_init 24 = .ok (.putfield 18, 3) := by decide +kernel
theorem dX2_init_27 : decode cX2_init 27 = .ok (.aload_n 0, 1) := by decide +kernel
theorem dX2_init_28 : decode cX2_init 28 = .ok (.bipush 6, 2) := by decide +kernel
theorem dX2_init_30 : decode cX2_init 30 = .ok (.newarray .int, 2) := by decide +kernel
theorem dX2_init_32 : decode cX2_init 32 = .ok (.putfield 21, 3) := by decide +kernel
theorem dX2_init_35 : decode cX2_init 35 = .ok (.aload_n 0, 1) := by decide +kernel
theorem dX2_init_36 : decode cX2_init 36 = .ok (.bipush 6, 2) := by decide +kernel
theorem dX2_init_38 : decode cX2_init 38 = .ok (.newarray .int, 2) := by decide +kernel
theorem dX2_init_40 : decode cX2_init 40 = .ok (.putfield 24, 3) := by decide +kernel
theorem dX2_init_43 : decode cX2_init 43 = .ok (.return_, 1) := by decide +kernel
theorem dX2_begin_0 : decode cX2_begin 0 = .ok (.aload_n 0, 1) := by decide +kernel
theorem dX2_begin_1 : decode cX2_begin 1 = .ok (.iload_n 1, 1) := by decide +kernel
theorem dX2_begin_2 : decode cX2_begin 2 = .ok (.putfield 27, 3) := by decide +kernel
theorem dX2_begin_5 : decode cX2_begin 5 = .ok (.aload_n 0, 1) := by decide +kernel
theorem dX2_begin_6 : decode cX2_begin 6 = .ok (.iconst 0, 1) := by decide +kernel
theorem dX2_begin_7 : decode cX2_begin 7 = .ok (.putfield 31, 3) := by decide +kernel
theorem dX2_begin_10 : decode cX2_begin 10 = .ok (.aload_n 0, 1) := by decide +kernel
theorem dX2_begin_11 : decode cX2_begin 11 = .ok (.iconst 0, 1) := by decide +kernel
theorem dX2_begin_12 : decode cX2_begin 12 = .ok (.putfield 34, 3) := by decide +kernel
theorem dX2_begin_15 : decode cX2_begin 15 = .ok (.aload_n 0, 1) := by decide +kernel
theorem dX2_begin_16 : decode cX2_begin 16 = .ok (.iconst 0, 1) := by decide +kernel
theorem dX2_begin_17 : decode cX2_begin 17 = .ok (.putfield 37, 3) := by decide +kernel
theorem dX2_begin_20 : decode cX2_begin 20 = .ok (.return_, 1) := by decide +kernel
theorem dX3_init_0 : decode cX3_init 0 = .ok (.aload_n 0, 1) := by decide +kernel
theorem dX3_init_1 : decode cX3_init 1 = .ok (.invokespecial 1, 3) := by decide +kernel
theorem dX3_init_4 : decode cX3_init 4 = .ok (.aload_n 0, 1) := by decide +kernel
theorem dX3_init_5 : decode cX3_init 5 = .ok (.new 7, 3) := by decide +kernel
theorem dX3_init_8 : decode cX3_init 8 = .ok (.dup, 1) := by decide +kernel
theorem dX3_init_9 : decode cX3_init 9 = .ok (.invokespecial 9, 3) := by decide +kernel
theorem dX3_init_12 : decode cX3_init 12 = .ok (.putfield 10, 3) := by decide +kernel
theorem dX3_init_15 : decode cX3_init 15 = .ok (.aload_n 0, 1) := by decide +kernel
theorem dX3_init_16 : decode cX3_init 16 = .ok (.new 16, 3) := by decide +kernel
theorem dX3_init_19 : decode cX3_init 19 = .ok (.dup, 1) := by decide +kernel
theorem dX3_init_20 : decode cX3_init 20 = .ok (.invokespecial 18, 3) := by decide +kernel
theorem dX3_init_23 : decode cX3_init 23 = .ok (.putfield 19, 3) := by decide +kernel
theorem dX3_init_26 : decode cX3_init 26 = .ok (.aload_n 0, 1) := by decide +kernel
theorem dX3_init_27 : decode cX3_init 27 = .ok (.new 23, 3) := by decide +kernel
theorem dX3_init_30 : decode cX3_init 30 = .ok (.dup, 1) := by decide +kernel
theorem dX3_init_31 : decode cX3_init 31 = .ok (.invokespecial 25, 3) := by decide +kernel
theorem dX3_init_34 : decode cX3_init 34 = .ok (.putfield 26, 3) := by decide +kernel
theorem dX3_init_37 : decode cX3_init 37 = .ok (.aload_n 0, 1) := by decide +kernel
theorem dX3_init_38 : decode cX3_init 38 = .ok (.new 23, 3) := by decide +kernel
theorem dX3_init_41 : decode cX3_init 41 = .ok (.dup, 1) := by decide +kernel
theorem dX3_init_42 : decode cX3_init 42 = .ok (.invokespecial 25, 3) := by decide +kernel
theorem dX3_init_45 : decode cX3_init 45 = .ok (.putfield 30, 3) := by decide +kernel
theorem dX3_init_48 : decode cX3_init 48 = .ok (.aload_n 0, 1) := by decide +kernel
theorem dX3_init_49 : decode cX3_init 49 = .ok (.iconst 5, 1) := by decide +kernel
theorem dX3_init_50 : decode cX3_init 50 = .ok (.newarray .int, 2) := by decide +kernel
theorem dX3_init_52 : decode cX3_init 52 = .ok (.putfield 33, 3) := by decide +kernel
theorem dX3_init_55 : decode cX3_init 55 = .ok (.return_, 1) := by decide +kernel
theorem dX3_letter_0 : decode cX3_letter 0 = .ok (.iload_n 1, 1) := by decide +kernel
theorem dX3_letter_1 : decode cX3_letter 1 = .ok (.iconst 1, 1) := by decide +kernel
theorem dX3_letter_2 : decode cX3_letter 2 = .ok (.if_icmp .lt 9, 3) := by decide +kernel
theorem dX3_letter_5 : decode cX3_letter 5 = .ok (.iload_n 1, 1) := by decide +kernel
theorem dX3_letter_6 : decode cX3_letter 6 = .ok (.bipush 126, 2) := by decide +kernel
theorem dX3_letter_8 : decode cX3_letter 8 = .ok (.if_icmp .le 6, 3) := by decide +kernel
theorem dX3_letter_11 : decode cX3_letter 11 = .ok (.bipush (-102), 2) := by decide +kernel
theorem dX3_letter_13 : decode cX3_letter 13 = .ok (.ireturn, 1) := by decide +kernel
theorem dX3_letter_14 : decode cX3_letter 14 = .ok (.aload_n 0, 1) := by decide +kernel
theorem dX3_letter_15 : decode cX3_letter 15 = .ok (.getfield 10, 3) := by decide +kernel
theorem dX3_letter_18 : decode cX3_letter 18 = .ok (.iload_n 1, 1) := by decide +kernel
theorem dX3_letter_19 : decode cX3_letter 19 = .ok (.invokevirtual 37, 3) := by decide +kernel
theorem dX3_letter_22 : decode cX3_letter 22 = .ok (.ifCond .eq 13, 3) := by decide +kernel
theorem dX3_letter_25 : decode cX3_letter 25 = .ok (.aload_n 0, 1) := by decide +kernel
theorem dX3_letter_26 : decode cX3_letter 26 = .ok (.getfield 10, 3) := by decide +kernel
theorem dX3_letter_29 : decode cX3_letter 29 = .ok (.getfield 41, 3) := by decide +kernel
theorem dX3_letter_32 : decode cX3_letter 32 = .ok (.goto 5, 3) := by decide +kernel
theorem dX3_letter_35 : decode cX3_letter 35 = .ok (.bipush (-104), 2) := by decide +kernel
theorem dX3_letter_37 : decode cX3_letter 37 = .ok (.ireturn, 1) := by decide +kernel
theorem dX3_fault_0 : decode cX3_fault 0 = .ok (.aload_n 0, 1) := by decide +kernel
theorem dX3_fault_1 : decode cX3_fault 1 = .ok (.getfield 10, 3) := by decide +kernel
theorem dX3_fault_4 : decode cX3_fault 4 = .ok (.invokevirtual 45, 3) := by decide +kernel
theorem dX3_fault_7 : decode cX3_fault 7 = .ok (.ireturn, 1) := by decide +kernel
theorem dX3_camp_0 : decode cX3_camp 0 = .ok (.aload_n 0, 1) := by decide +kernel
theorem dX3_camp_1 : decode cX3_camp 1 = .ok (.getfield 10, 3) := by decide +kernel
theorem dX3_camp_4 : decode cX3_camp 4 = .ok (.invokevirtual 49, 3) := by decide +kernel
theorem dX3_camp_7 : decode cX3_camp 7 = .ok (.ifCond .ne 6, 3) := by decide +kernel
theorem dX3_camp_10 : decode cX3_camp 10 = .ok (.bipush (-103), 2) := by decide +kernel
theorem dX3_camp_12 : decode cX3_camp 12 = .ok (.ireturn, 1) := by decide +kernel
theorem dX3_camp_13 : decode cX3_camp 13 = .ok (.aload_n 0, 1) := by decide +kernel
theorem dX3_camp_14 : decode cX3_camp 14 = .ok (.getfield 19, 3) := by decide +kernel
theorem dX3_camp_17 : decode cX3_camp 17 = .ok (.aload_n 0, 1) := by decide +kernel
theorem dX3_camp_18 : decode cX3_camp 18 = .ok (.getfield 10, 3) := by decide +kernel
theorem dX3_camp_21 : decode cX3_camp 21 = .ok (.getfield 41, 3) := by decide +kernel
theorem dX3_camp_24 : decode cX3_camp 24 = .ok (.iconst 5, 1) := by decide +kernel
theorem dX3_camp_25 : decode cX3_camp 25 = .ok (.isub, 1) := by decide +kernel
theorem dX3_camp_26 : decode cX3_camp 26 = .ok (.iconst 1, 1) := by decide +kernel
theorem dX3_camp_27 : decode cX3_camp 27 = .ok (.isub, 1) := by decide +kernel
theorem dX3_camp_28 : decode cX3_camp 28 = .ok (.putfield 53, 3) := by decide +kernel
theorem dX3_camp_31 : decode cX3_camp 31 = .ok (.iconst 0, 1) := by decide +kernel
theorem dX3_camp_32 : decode cX3_camp 32 = .ok (.istore_n 1, 1) := by decide +kernel
theorem dX3_camp_33 : decode cX3_camp 33 = .ok (.iload_n 1, 1) := by decide +kernel
theorem dX3_camp_34 : decode cX3_camp 34 = .ok (.aload_n 0, 1) := by decide +kernel
theorem dX3_camp_35 : decode cX3_camp 35 = .ok (.getfield 19, 3) := by decide +kernel
theorem dX3_camp_38 : decode cX3_camp 38 = .ok (.getfield 53, 3) := by decide +kernel
theorem dX3_camp_41 : decode cX3_camp 41 = .ok (.if_icmp .ge 31, 3) := by decide +kernel
theorem dX3_camp_44 : decode cX3_camp 44 = .ok (.aload_n 0, 1) := by decide +kernel
theorem dX3_camp_45 : decode cX3_camp 45 = .ok (.getfield 19, 3) := by decide +kernel
theorem dX3_camp_48 : decode cX3_camp 48 = .ok (.getfield 56, 3) := by decide +kernel
theorem dX3_camp_51 : decode cX3_camp 51 = .ok (.iload_n 1, 1) := by decide +kernel
theorem dX3_camp_52 : decode cX3_camp 52 = .ok (.aload_n 0, 1) := by decide +kernel
theorem dX3_camp_53 : decode cX3_camp 53 = .ok (.getfield 10, 3) := by decide +kernel
theorem dX3_camp_56 : decode cX3_camp 56 = .ok (.iload_n 1, 1) := by decide +kernel
theorem dX3_camp_57 : decode cX3_camp 57 = .ok (.invokevirtual 59, 3) := by decide +kernel
theorem dX3_camp_60 : decode cX3_camp 60 = .ok (.invokestatic 63, 3) := by decide +kernel
theorem dX3_camp_63 : decode cX3_camp 63 = .ok (.invokestatic 66, 3) := by decide +kernel
theorem dX3_camp_66 : decode cX3_camp 66 = .ok (.iinc 1 1, 3) := by decide +kernel
theorem dX3_camp_69 : decode cX3_camp 69 = .ok (.goto (-36), 3) := by decide +kernel
theorem dX3_camp_72 : decode cX3_camp 72 = .ok (.aload_n 0, 1) := by decide +kernel
theorem dX3_camp_73 : decode cX3_camp 73 = .ok (.getfield 26, 3) := by decide +kernel
theorem dX3_camp_76 : decode cX3_camp 76 = .ok (.aload_n 0, 1) := by decide +kernel
theorem dX3_camp_77 : decode cX3_camp 77 = .ok (.getfield 19, 3) := by decide +kernel
theorem dX3_camp_80 : decode cX3_camp 80 = .ok (.invokevirtual 70, 3) := by decide +kernel
theorem dX3_camp_83 : decode cX3_camp 83 = .ok (.invokevirtual 73, 3) := by decide +kernel
theorem dX3_camp_86 : decode cX3_camp 86 = .ok (.iconst 0, 1) := by decide +kernel
theorem dX3_camp_87 : decode cX3_camp 87 = .ok (.istore_n 1, 1) := by decide +kernel
theorem dX3_camp_88 : decode cX3_camp 88 = .ok (.iload_n 1, 1) := by decide +kernel
theorem dX3_camp_89 : decode cX3_camp 89 = .ok (.iconst 5, 1) := by decide +kernel
theorem dX3_camp_90 : decode cX3_camp 90 = .ok (.if_icmp .ge 41, 3) := by decide +kernel
theorem dX3_camp_93 : decode cX3_camp 93 = .ok (.aload_n 0, 1) := by decide +kernel
theorem dX3_camp_94 : decode cX3_camp 94 = .ok (.getfield 26, 3) := by decide +kernel
theorem dX3_camp_97 : decode cX3_camp 97 = .ok (.getfield 77, 3) := by decide +kernel
theorem dX3_camp_100 : decode cX3_camp 100 = .ok (.iload_n 1, 1) := by decide +kernel
theorem dX3_camp_101 : decode cX3_camp 101 = .ok (.aload_n 0, 1) := by decide +kernel
theorem dX3_camp_102 : decode cX3_camp 102 = .ok (.getfield 10, 3) := by decide +kernel
theorem dX3_camp_105 : decode cX3_camp 105 = .ok (.aload_n 0, 1) := by decide +kernel
theorem dX3_camp_106 : decode cX3_camp 106 = .ok (.getfield 19, 3) := by decide +kernel
theorem dX3_camp_109 : decode cX3_camp 109 = .ok (.getfield 53, 3) := by decide +kernel
theorem dX3_camp_112 : decode cX3_camp 112 = .ok (.iconst 1, 1) := by decide +kernel
theorem dX3_camp_113 : decode cX3_camp 113 = .ok (.iadd, 1) := by decide +kernel
theorem dX3_camp_114 : decode cX3_camp 114 = .ok (.iload_n 1, 1) := by decide +kernel
theorem dX3_camp_115 : decode cX3_camp 115 = .ok (.iadd, 1) := by decide +kernel
theorem dX3_camp_116 : decode cX3_camp 116 = .ok (.invokevirtual 59, 3) := by decide +kernel
theorem dX3_camp_119 : decode cX3_camp 119 = .ok (.bipush 48, 2) := by decide +kernel
theorem dX3_camp_121 : decode cX3_camp 121 = .ok (.isub, 1) := by decide +kernel
theorem dX3_camp_122 : decode cX3_camp 122 = .ok (.invokestatic 66, 3) := by decide +kernel
theorem dX3_camp_125 : decode cX3_camp 125 = .ok (.iinc 1 1, 3) := by decide +kernel
theorem dX3_camp_128 : decode cX3_camp 128 = .ok (.goto (-40), 3) := by decide +kernel
theorem dX3_camp_131 : decode cX3_camp 131 = .ok (.aload_n 0, 1) := by decide +kernel
theorem dX3_camp_132 : decode cX3_camp 132 = .ok (.iconst 0, 1) := by decide +kernel
theorem dX3_camp_133 : decode cX3_camp 133 = .ok (.putfield 80, 3) := by decide +kernel
theorem dX3_camp_136 : decode cX3_camp 136 = .ok (.aload_n 0, 1) := by decide +kernel
theorem dX3_camp_137 : decode cX3_camp 137 = .ok (.dup, 1) := by decide +kernel
theorem dX3_camp_138 : decode cX3_camp 138 = .ok (.getfield 84, 3) := by decide +kernel
theorem dX3_camp_141 : decode cX3_camp 141 = .ok (.iconst 1, 1) := by decide +kernel
theorem dX3_camp_142 : decode cX3_camp 142 = .ok (.iadd, 1) := by decide +kernel
theorem dX3_camp_143 : decode cX3_camp 143 = .ok (.putfield 84, 3) := by decide +kernel
theorem dX3_camp_146 : decode cX3_camp 146 = .ok (.aload_n 0, 1) := by decide +kernel
theorem dX3_camp_147 : decode cX3_camp 147 = .ok (.getfield 10, 3) := by decide +kernel
theorem dX3_camp_150 : decode cX3_camp 150 = .ok (.iconst 0, 1) := by decide +kernel
theorem dX3_camp_151 : decode cX3_camp 151 = .ok (.putfield 41, 3) := by decide +kernel
theorem dX3_camp_154 : decode cX3_camp 154 = .ok (.aload_n 0, 1) := by decide +kernel
theorem dX3_camp_155 : decode cX3_camp 155 = .ok (.getfield 19, 3) := by decide +kernel
theorem dX3_camp_158 : decode cX3_camp 158 = .ok (.getfield 53, 3) := by decide +kernel
theorem dX3_camp_161 : decode cX3_camp 161 = .ok (.ireturn, 1) := by decide +kernel
theorem dX3_member_0 : decode cX3_member 0 = .ok (.iload_n 1, 1) := by decide +kernel
theorem dX3_member_1 : decode cX3_member 1 = .ok (.ifCond .lt 14, 3) := by decide +kernel
theorem dX3_member_4 : decode cX3_member 4 = .ok (.iload_n 1, 1) := by decide +kernel
theorem dX3_member_5 : decode cX3_member 5 = .ok (.aload_n 0, 1) := by decide +kernel
theorem dX3_member_6 : decode cX3_member 6 = .ok (.getfield 19, 3) := by decide +kernel
theorem dX3_member_9 : decode cX3_member 9 = .ok (.getfield 53, 3) := by decide +kernel
theorem dX3_member_12 : decode cX3_member 12 = .ok (.if_icmp .lt 6, 3) := by decide +kernel
theorem dX3_member_15 : decode cX3_member 15 = .ok (.bipush (-101), 2) := by decide +kernel
theorem dX3_member_17 : decode cX3_member 17 = .ok (.ireturn, 1) := by decide +kernel
theorem dX3_member_18 : decode cX3_member 18 = .ok (.aload_n 0, 1) := by decide +kernel
theorem dX3_member_19 : decode cX3_member 19 = .ok (.getfield 19, 3) := by decide +kernel
theorem dX3_member_22 : decode cX3_member 22 = .ok (.getfield 56, 3) := by decide +kernel
theorem dX3_member_25 : decode cX3_member 25 = .ok (.iload_n 1, 1) := by decide +kernel
theorem dX3_member_26 : decode cX3_member 26 = .ok (.invokestatic 87, 3) := by decide +kernel
theorem dX3_member_29 : decode cX3_member 29 = .ok (.istore_n 3, 1) := by decide +kernel
theorem dX3_member_30 : decode cX3_member 30 = .ok (.iload_n 2, 1) := by decide +kernel
theorem dX3_member_31 : decode cX3_member 31 = .ok (.tableswitch 71 0 4 #[33, 35, 43, 51, 59], 33) := by decide +kernel
theorem dX3_member_64 : decode cX3_member 64 = .ok (.iload_n 3, 1) := by decide +kernel
theorem dX3_member_65 : decode cX3_member 65 = .ok (.ireturn, 1) := by decide +kernel
theorem dX3_member_66 : decode cX3_member 66 = .ok (.getstatic 91, 3) := by decide +kernel
theorem dX3_member_69 : decode cX3_member 69 = .ok (.iload_n 3, 1) := by decide +kernel
theorem dX3_member_70 : decode cX3_member 70 = .ok (.invokestatic 87, 3) := by decide +kernel
theorem dX3_member_73 : decode cX3_member 73 = .ok (.ireturn, 1) := by decide +kernel
theorem dX3_member_74 : decode cX3_member 74 = .ok (.getstatic 94, 3) := by decide +kernel
theorem dX3_member_77 : decode cX3_member 77 = .ok (.iload_n 3, 1) := by decide +kernel
theorem dX3_member_78 : decode cX3_member 78 = .ok (.invokestatic 87, 3) := by decide +kernel
theorem dX3_member_81 : decode cX3_member 81 = .ok (.ireturn, 1) := by decide +kernel
theorem dX3_member_82 : decode cX3_member 82 = .ok (.getstatic 97, 3) := by decide +kernel
theorem dX3_member_85 : decode cX3_member 85 = .ok (.iload_n 3, 1) := by decide +kernel
theorem dX3_member_86 : decode cX3_member 86 = .ok (.invokestatic 87, 3) := by decide +kernel
theorem dX3_member_89 : decode cX3_member 89 = .ok (.ireturn, 1) := by decide +kernel
theorem dX3_member_90 : decode cX3_member 90 = .ok (.aload_n 0, 1) := by decide +kernel
theorem dX3_member_91 : decode cX3_member 91 = .ok (.getfield 26, 3) := by decide +kernel
theorem dX3_member_94 : decode cX3_member 94 = .ok (.getfield 100, 3) := by decide +kernel
theorem dX3_member_97 : decode cX3_member 97 = .ok (.iload_n 1, 1) := by decide +kernel
theorem dX3_member_98 : decode cX3_member 98 = .ok (.ishr, 1) := by decide +kernel
theorem dX3_member_99 : decode cX3_member 99 = .ok (.iconst 1, 1) := by decide +kernel
theorem dX3_member_100 : decode cX3_member 100 = .ok (.iand, 1) := by decide +kernel
theorem dX3_member_101 : decode cX3_member 101 = .ok (.ireturn, 1) := by decide +kernel
theorem dX3_member_102 : decode cX3_member 102 = .ok (.bipush (-102), 2) := by decide +kernel
theorem dX3_member_104 : decode cX3_member 104 = .ok (.ireturn, 1) := by decide +kernel
theorem dX3_as_0 : decode cX3_as 0 = .ok (.iload_n 1, 1) := by decide +kernel
theorem dX3_as_1 : decode cX3_as 1 = .ok (.ifCond .lt 14, 3) := by decide +kernel
theorem dX3_as_4 : decode cX3_as 4 = .ok (.iload_n 1, 1) := by decide +kernel
theorem dX3_as_5 : decode cX3_as 5 = .ok (.aload_n 0, 1) := by decide +kernel
theorem dX3_as_6 : decode cX3_as 6 = .ok (.getfield 19, 3) := by decide +kernel
theorem dX3_as_9 : decode cX3_as 9 = .ok (.getfield 53, 3) := by decide +kernel
theorem dX3_as_12 : decode cX3_as 12 = .ok (.if_icmp .lt 6, 3) := by decide +kernel
theorem dX3_as_15 : decode cX3_as 15 = .ok (.bipush (-101), 2) := by decide +kernel
theorem dX3_as_17 : decode cX3_as 17 = .ok (.ireturn, 1) := by decide +kernel
theorem dX3_as_18 : decode cX3_as 18 = .ok (.iload_n 2, 1) := by decide +kernel
theorem dX3_as_19 : decode cX3_as 19 = .ok (.ifCond .lt 8, 3) := by decide +kernel
theorem dX3_as_22 : decode cX3_as 22 = .ok (.iload_n 2, 1) := by decide +kernel
theorem dX3_as_23 : decode cX3_as 23 = .ok (.iconst 5, 1) := by decide +kernel
theorem dX3_as_24 : decode cX3_as 24 = .ok (.if_icmp .lt 6, 3) := by decide +kernel
theorem dX3_as_27 : decode cX3_as 27 = .ok (.bipush (-102), 2) := by decide +kernel
theorem dX3_as_29 : decode cX3_as 29 = .ok (.ireturn, 1) := by decide +kernel
theorem dX3_as_30 : decode cX3_as 30 = .ok (.aload_n 0, 1) := by decide +kernel
theorem dX3_as_31 : decode cX3_as 31 = .ok (.getfield 19, 3) := by decide +kernel
theorem dX3_as_34 : decode cX3_as 34 = .ok (.getfield 56, 3) := by decide +kernel
theorem dX3_as_37 : decode cX3_as 37 = .ok (.iload_n 1, 1) := by decide +kernel
theorem dX3_as_38 : decode cX3_as 38 = .ok (.invokestatic 87, 3) := by decide +kernel
theorem dX3_as_41 : decode cX3_as 41 = .ok (.iload_n 2, 1) := by decide +kernel
theorem dX3_as_42 : decode cX3_as 42 = .ok (.invokestatic 103, 3) := by decide +kernel
theorem dX3_as_45 : decode cX3_as 45 = .ok (.ifCond .eq 7, 3) := by decide +kernel
theorem dX3_as_48 : decode cX3_as 48 = .ok (.iload_n 1, 1) := by decide +kernel
theorem dX3_as_49 : decode cX3_as 49 = .ok (.goto 4, 3) := by decide +kernel
theorem dX3_as_52 : decode cX3_as 52 = .ok (.iconst (-1), 1) := by decide +kernel
theorem dX3_as_53 : decode cX3_as 53 = .ok (.ireturn, 1) := by decide +kernel
theorem dX3_cairn_0 : decode cX3_cairn 0 = .ok (.aload_n 0, 1) := by decide +kernel
theorem dX3_cairn_1 : decode cX3_cairn 1 = .ok (.iload_n 1, 1) := by decide +kernel
theorem dX3_cairn_2 : decode cX3_cairn 2 = .ok (.invokevirtual 107, 3) := by decide +kernel
theorem dX3_cairn_5 : decode cX3_cairn 5 = .ok (.ifCond .eq 6, 3) := by decide +kernel
theorem dX3_cairn_8 : decode cX3_cairn 8 = .ok (.bipush (-101), 2) := by decide +kernel
theorem dX3_cairn_10 : decode cX3_cairn 10 = .ok (.ireturn, 1) := by decide +kernel
theorem dX3_cairn_11 : decode cX3_cairn 11 = .ok (.iload_n 2, 1) := by decide +kernel
theorem dX3_cairn_12 : decode cX3_cairn 12 = .ok (.tableswitch 59 0 2 #[28, 42, 48], 28) := by decide +kernel
theorem dX3_cairn_40 : decode cX3_cairn 40 = .ok (.aload_n 0, 1) := by decide +kernel
theorem dX3_cairn_41 : decode cX3_cairn 41 = .ok (.getfield 26, 3) := by decide +kernel
theorem dX3_cairn_44 : decode cX3_cairn 44 = .ok (.getfield 77, 3) := by decide +kernel
theorem dX3_cairn_47 : decode cX3_cairn 47 = .ok (.iload_n 1, 1) := by decide +kernel
theorem dX3_cairn_48 : decode cX3_cairn 48 = .ok (.iconst 1, 1) := by decide +kernel
theorem dX3_cairn_49 : decode cX3_cairn 49 = .ok (.isub, 1) := by decide +kernel
theorem dX3_cairn_50 : decode cX3_cairn 50 = .ok (.invokestatic 87, 3) := by decide +kernel
theorem dX3_cairn_53 : decode cX3_cairn 53 = .ok (.ireturn, 1) := by decide +kernel
theorem dX3_cairn_54 : decode cX3_cairn 54 = .ok (.aload_n 0, 1) := by decide +kernel
theorem dX3_cairn_55 : decode cX3_cairn 55 = .ok (.iload_n 1, 1) := by decide +kernel
theorem dX3_cairn_56 : decode cX3_cairn 56 = .ok (.invokevirtual 110, 3) := by decide +kernel
theorem dX3_cairn_59 : decode cX3_cairn 59 = .ok (.ireturn, 1) := by decide +kernel
theorem dX3_cairn_60 : decode cX3_cairn 60 = .ok (.aload_n 0, 1) := by decide +kernel
theorem dX3_cairn_61 : decode cX3_cairn 61 = .ok (.iload_n 1, 1) := by decide +kernel
theorem dX3_cairn_62 : decode cX3_cairn 62 = .ok (.aload_n 0, 1) := by decide +kernel
theorem dX3_cairn_63 : decode cX3_cairn 63 = .ok (.iload_n 1, 1) := by decide +kernel
theorem dX3_cairn_64 : decode cX3_cairn 64 = .ok (.invokevirtual 110, 3) := by decide +kernel
theorem dX3_cairn_67 : decode cX3_cairn 67 = .ok (.invokevirtual 113, 3) := by decide +kernel
theorem dX3_cairn_70 : decode cX3_cairn 70 = .ok (.ireturn, 1) := by decide +kernel
theorem dX3_cairn_71 : decode cX3_cairn 71 = .ok (.bipush (-102), 2) := by decide +kernel
theorem dX3_cairn_73 : decode cX3_cairn 73 = .ok (.ireturn, 1) := by decide +kernel
theorem dX3_lay_0 : decode cX3_lay 0 = .ok (.aload_n 0, 1) := by decide +kernel
theorem dX3_lay_1 : decode cX3_lay 1 = .ok (.iload_n 1, 1) := by decide +kernel
theorem dX3_lay_2 : decode cX3_lay 2 = .ok (.invokevirtual 107, 3) := by decide +kernel
theorem dX3_lay_5 : decode cX3_lay 5 = .ok (.ifCond .eq 6, 3) := by decide +kernel
theorem dX3_lay_8 : decode cX3_lay 8 = .ok (.bipush (-101), 2) := by decide +kernel
theorem dX3_lay_10 : decode cX3_lay 10 = .ok (.ireturn, 1) := by decide +kernel
theorem dX3_lay_11 : decode cX3_lay 11 = .ok (.iload_n 2, 1) := by decide +kernel
theorem dX3_lay_12 : decode cX3_lay 12 = .ok (.ifCond .lt 9, 3) := by decide +kernel
theorem dX3_lay_15 : decode cX3_lay 15 = .ok (.iload_n 2, 1) := by decide +kernel
theorem dX3_lay_16 : decode cX3_lay 16 = .ok (.bipush 9, 2) := by decide +kernel
theorem dX3_lay_18 : decode cX3_lay 18 = .ok (.if_icmp .le 6, 3) := by decide +kernel
theorem dX3_lay_21 : decode cX3_lay 21 = .ok (.bipush (-102), 2) := by decide +kernel
theorem dX3_lay_23 : decode cX3_lay 23 = .ok (.ireturn, 1) := by decide +kernel
theorem dX3_lay_24 : decode cX3_lay 24 = .ok (.aload_n 0, 1) := by decide +kernel
theorem dX3_lay_25 : decode cX3_lay 25 = .ok (.getfield 26, 3) := by decide +kernel
theorem dX3_lay_28 : decode cX3_lay 28 = .ok (.getfield 77, 3) := by decide +kernel
theorem dX3_lay_31 : decode cX3_lay 31 = .ok (.iload_n 1, 1) := by decide +kernel
theorem dX3_lay_32 : decode cX3_lay 32 = .ok (.iconst 1, 1) := by decide +kernel
theorem dX3_lay_33 : decode cX3_lay 33 = .ok (.isub, 1) := by decide +kernel
theorem dX3_lay_34 : decode cX3_lay 34 = .ok (.invokestatic 87, 3) := by decide +kernel
theorem dX3_lay_37 : decode cX3_lay 37 = .ok (.istore_n 3, 1) := by decide +kernel
theorem dX3_lay_38 : decode cX3_lay 38 = .ok (.aload_n 0, 1) := by decide +kernel
theorem dX3_lay_39 : decode cX3_lay 39 = .ok (.getfield 26, 3) := by decide +kernel
theorem dX3_lay_42 : decode cX3_lay 42 = .ok (.getfield 77, 3) := by decide +kernel
theorem dX3_lay_45 : decode cX3_lay 45 = .ok (.iload_n 1, 1) := by decide +kernel
theorem dX3_lay_46 : decode cX3_lay 46 = .ok (.iconst 1, 1) := by decide +kernel
theorem dX3_lay_47 : decode cX3_lay 47 = .ok (.isub, 1) := by decide +kernel
theorem dX3_lay_48 : decode cX3_lay 48 = .ok (.iload_n 2, 1) := by decide +kernel
theorem dX3_lay_49 : decode cX3_lay 49 = .ok (.invokestatic 66, 3) := by decide +kernel
theorem dX3_lay_52 : decode cX3_lay 52 = .ok (.iload_n 3, 1) := by decide +kernel
theorem dX3_lay_53 : decode cX3_lay 53 = .ok (.ireturn, 1) := by decide +kernel
theorem dX3_march_0 : decode cX3_march 0 = .ok (.aload_n 0, 1) := by decide +kernel
theorem dX3_march_1 : decode cX3_march 1 = .ok (.iload_n 1, 1) := by decide +kernel
theorem dX3_march_2 : decode cX3_march 2 = .ok (.iload_n 2, 1) := by decide +kernel
theorem dX3_march_3 : decode cX3_march 3 = .ok (.iload_n 3, 1) := by decide +kernel
theorem dX3_march_4 : decode cX3_march 4 = .ok (.invokevirtual 117, 3) := by decide +kernel
theorem dX3_march_7 : decode cX3_march 7 = .ok (.ifCond .eq 6, 3) := by decide +kernel
theorem dX3_march_10 : decode cX3_march 10 = .ok (.bipush (-102), 2) := by decide +kernel
theorem dX3_march_12 : decode cX3_march 12 = .ok (.ireturn, 1) := by decide +kernel
theorem dX3_march_13 : decode cX3_march 13 = .ok (.aload_n 0, 1) := by decide +kernel
theorem dX3_march_14 : decode cX3_march 14 = .ok (.iload_n 1, 1) := by decide +kernel
theorem dX3_march_15 : decode cX3_march 15 = .ok (.invokevirtual 121, 3) := by decide +kernel
theorem dX3_march_18 : decode cX3_march 18 = .ok (.ifCond .eq 6, 3) := by decide +kernel
theorem dX3_march_21 : decode cX3_march 21 = .ok (.bipush (-103), 2) := by decide +kernel
theorem dX3_march_23 : decode cX3_march 23 = .ok (.ireturn, 1) := by decide +kernel
theorem dX3_march_24 : decode cX3_march 24 = .ok (.aload_n 0, 1) := by decide +kernel
theorem dX3_march_25 : decode cX3_march 25 = .ok (.getfield 19, 3) := by decide +kernel
theorem dX3_march_28 : decode cX3_march 28 = .ok (.aload_n 0, 1) := by decide +kernel
theorem dX3_march_29 : decode cX3_march 29 = .ok (.getfield 26, 3) := by decide +kernel
theorem dX3_march_32 : decode cX3_march 32 = .ok (.getfield 77, 3) := by decide +kernel
theorem dX3_march_35 : decode cX3_march 35 = .ok (.invokevirtual 124, 3) := by decide +kernel
theorem dX3_march_38 : decode cX3_march 38 = .ok (.aload_n 0, 1) := by decide +kernel
theorem dX3_march_39 : decode cX3_march 39 = .ok (.getfield 19, 3) := by decide +kernel
theorem dX3_march_42 : decode cX3_march 42 = .ok (.iload_n 1, 1) := by decide +kernel
theorem dX3_march_43 : decode cX3_march 43 = .ok (.iload_n 2, 1) := by decide +kernel
theorem dX3_march_44 : decode cX3_march 44 = .ok (.iload_n 3, 1) := by decide +kernel
theorem dX3_march_45 : decode cX3_march 45 = .ok (.invokevirtual 128, 3) := by decide +kernel
theorem dX3_march_48 : decode cX3_march 48 = .ok (.pop, 1) := by decide +kernel
theorem dX3_march_49 : decode cX3_march 49 = .ok (.aload_n 0, 1) := by decide +kernel
theorem dX3_march_50 : decode cX3_march 50 = .ok (.getfield 26, 3) := by decide +kernel
theorem dX3_march_53 : decode cX3_march 53 = .ok (.aload_n 0, 1) := by decide +kernel
theorem dX3_march_54 : decode cX3_march 54 = .ok (.getfield 26, 3) := by decide +kernel
theorem dX3_march_57 : decode cX3_march 57 = .ok (.getfield 100, 3) := by decide +kernel
theorem dX3_march_60 : decode cX3_march 60 = .ok (.iload_n 1, 1) := by decide +kernel
theorem dX3_march_61 : decode cX3_march 61 = .ok (.iconst (-1), 1) := by decide +kernel
theorem dX3_march_62 : decode cX3_march 62 = .ok (.ixor, 1) := by decide +kernel
theorem dX3_march_63 : decode cX3_march 63 = .ok (.iand, 1) := by decide +kernel
theorem dX3_march_64 : decode cX3_march 64 = .ok (.aload_n 0, 1) := by decide +kernel
theorem dX3_march_65 : decode cX3_march 65 = .ok (.getfield 19, 3) := by decide +kernel
theorem dX3_march_68 : decode cX3_march 68 = .ok (.getfield 131, 3) := by decide +kernel
theorem dX3_march_71 : decode cX3_march 71 = .ok (.ior, 1) := by decide +kernel
theorem dX3_march_72 : decode cX3_march 72 = .ok (.putfield 100, 3) := by decide +kernel
theorem dX3_march_75 : decode cX3_march 75 = .ok (.aload_n 0, 1) := by decide +kernel
theorem dX3_march_76 : decode cX3_march 76 = .ok (.getfield 19, 3) := by decide +kernel
theorem dX3_march_79 : decode cX3_march 79 = .ok (.getfield 132, 3) := by decide +kernel
theorem dX3_march_82 : decode cX3_march 82 = .ok (.aload_n 0, 1) := by decide +kernel
theorem dX3_march_83 : decode cX3_march 83 = .ok (.getfield 26, 3) := by decide +kernel
theorem dX3_march_86 : decode cX3_march 86 = .ok (.getfield 77, 3) := by decide +kernel
theorem dX3_march_89 : decode cX3_march 89 = .ok (.invokestatic 133, 3) := by decide +kernel
theorem dX3_march_92 : decode cX3_march 92 = .ok (.aload_n 0, 1) := by decide +kernel
theorem dX3_march_93 : decode cX3_march 93 = .ok (.getfield 26, 3) := by decide +kernel
theorem dX3_march_96 : decode cX3_march 96 = .ok (.dup, 1) := by decide +kernel
theorem dX3_march_97 : decode cX3_march 97 = .ok (.getfield 137, 3) := by decide +kernel
theorem dX3_march_100 : decode cX3_march 100 = .ok (.iconst 1, 1) := by decide +kernel
theorem dX3_march_101 : decode cX3_march 101 = .ok (.iadd, 1) := by decide +kernel
theorem dX3_march_102 : decode cX3_march 102 = .ok (.putfield 137, 3) := by decide +kernel
theorem dX3_march_105 : decode cX3_march 105 = .ok (.aload_n 0, 1) := by decide +kernel
theorem dX3_march_106 : decode cX3_march 106 = .ok (.getfield 19, 3) := by decide +kernel
theorem dX3_march_109 : decode cX3_march 109 = .ok (.getfield 131, 3) := by decide +kernel
theorem dX3_march_112 : decode cX3_march 112 = .ok (.ifCond .eq 16, 3) := by decide +kernel
theorem dX3_march_115 : decode cX3_march 115 = .ok (.aload_n 0, 1) := by decide +kernel
theorem dX3_march_116 : decode cX3_march 116 = .ok (.getfield 26, 3) := by decide +kernel
theorem dX3_march_119 : decode cX3_march 119 = .ok (.dup, 1) := by decide +kernel
theorem dX3_march_120 : decode cX3_march 120 = .ok (.getfield 140, 3) := by decide +kernel
theorem dX3_march_123 : decode cX3_march 123 = .ok (.iconst 1, 1) := by decide +kernel
theorem dX3_march_124 : decode cX3_march 124 = .ok (.iadd, 1) := by decide +kernel
theorem dX3_march_125 : decode cX3_march 125 = .ok (.putfield 140, 3) := by decide +kernel
theorem dX3_march_128 : decode cX3_march 128 = .ok (.aload_n 0, 1) := by decide +kernel
theorem dX3_march_129 : decode cX3_march 129 = .ok (.getfield 19, 3) := by decide +kernel
theorem dX3_march_132 : decode cX3_march 132 = .ok (.getfield 131, 3) := by decide +kernel
theorem dX3_march_135 : decode cX3_march 135 = .ok (.ireturn, 1) := by decide +kernel
theorem dX3_would_0 : decode cX3_would 0 = .ok (.aload_n 0, 1) := by decide +kernel
theorem dX3_would_1 : decode cX3_would 1 = .ok (.iload_n 1, 1) := by decide +kernel
theorem dX3_would_2 : decode cX3_would 2 = .ok (.iload_n 2, 1) := by decide +kernel
theorem dX3_would_3 : decode cX3_would 3 = .ok (.iload_n 3, 1) := by decide +kernel
theorem dX3_would_4 : decode cX3_would 4 = .ok (.invokevirtual 117, 3) := by decide +kernel
theorem dX3_would_7 : decode cX3_would 7 = .ok (.ifCond .ne 14, 3) := by decide +kernel
theorem dX3_would_10 : decode cX3_would 10 = .ok (.iload 4, 2) := by decide +kernel
theorem dX3_would_12 : decode cX3_would 12 = .ok (.ifCond .lt 9, 3) := by decide +kernel
theorem dX3_would_15 : decode cX3_would 15 = .ok (.iload 4, 2) := by decide +kernel
theorem dX3_would_17 : decode cX3_would 17 = .ok (.iconst 3, 1) := by decide +kernel
theorem dX3_would_18 : decode cX3_would 18 = .ok (.if_icmp .le 6, 3) := by decide +kernel
theorem dX3_would_21 : decode cX3_would 21 = .ok (.bipush (-102), 2) := by decide +kernel
theorem dX3_would_23 : decode cX3_would 23 = .ok (.ireturn, 1) := by decide +kernel
theorem dX3_would_24 : decode cX3_would 24 = .ok (.aload_n 0, 1) := by decide +kernel
theorem dX3_would_25 : decode cX3_would 25 = .ok (.iload_n 1, 1) := by decide +kernel
theorem dX3_would_26 : decode cX3_would 26 = .ok (.invokevirtual 121, 3) := by decide +kernel
theorem dX3_would_29 : decode cX3_would 29 = .ok (.ifCond .eq 6, 3) := by decide +kernel
theorem dX3_would_32 : decode cX3_would 32 = .ok (.bipush (-103), 2) := by decide +kernel
theorem dX3_would_34 : decode cX3_would 34 = .ok (.ireturn, 1) := by decide +kernel
theorem dX3_would_35 : decode cX3_would 35 = .ok (.aload_n 0, 1) := by decide +kernel
theorem dX3_would_36 : decode cX3_would 36 = .ok (.getfield 19, 3) := by decide +kernel
theorem dX3_would_39 : decode cX3_would 39 = .ok (.aload_n 0, 1) := by decide +kernel
theorem dX3_would_40 : decode cX3_would 40 = .ok (.getfield 26, 3) := by decide +kernel
theorem dX3_would_43 : decode cX3_would 43 = .ok (.getfield 77, 3) := by decide +kernel
theorem dX3_would_46 : decode cX3_would 46 = .ok (.invokevirtual 124, 3) := by decide +kernel
theorem dX3_would_49 : decode cX3_would 49 = .ok (.aload_n 0, 1) := by decide +kernel
theorem dX3_would_50 : decode cX3_would 50 = .ok (.getfield 19, 3) := by decide +kernel
theorem dX3_would_53 : decode cX3_would 53 = .ok (.iload_n 1, 1) := by decide +kernel
theorem dX3_would_54 : decode cX3_would 54 = .ok (.iload_n 2, 1) := by decide +kernel
theorem dX3_would_55 : decode cX3_would 55 = .ok (.iload_n 3, 1) := by decide +kernel
theorem dX3_would_56 : decode cX3_would 56 = .ok (.invokevirtual 128, 3) := by decide +kernel
theorem dX3_would_59 : decode cX3_would 59 = .ok (.pop, 1) := by decide +kernel
theorem dX3_would_60 : decode cX3_would 60 = .ok (.iload 4, 2) := by decide +kernel
theorem dX3_would_62 : decode cX3_would 62 = .ok (.tableswitch 53 0 2 #[26, 34, 42], 26) := by decide +kernel
theorem dX3_would_88 : decode cX3_would 88 = .ok (.aload_n 0, 1) := by decide +kernel
theorem dX3_would_89 : decode cX3_would 89 = .ok (.getfield 19, 3) := by decide +kernel
theorem dX3_would_92 : decode cX3_would 92 = .ok (.getfield 131, 3) := by decide +kernel
theorem dX3_would_95 : decode cX3_would 95 = .ok (.ireturn, 1) := by decide +kernel
theorem dX3_would_96 : decode cX3_would 96 = .ok (.aload_n 0, 1) := by decide +kernel
theorem dX3_would_97 : decode cX3_would 97 = .ok (.getfield 19, 3) := by decide +kernel
theorem dX3_would_100 : decode cX3_would 100 = .ok (.getfield 143, 3) := by decide +kernel
theorem dX3_would_103 : decode cX3_would 103 = .ok (.ireturn, 1) := by decide +kernel
theorem dX3_would_104 : decode cX3_would 104 = .ok (.aload_n 0, 1) := by decide +kernel
theorem dX3_would_105 : decode cX3_would 105 = .ok (.getfield 19, 3) := by decide +kernel
theorem dX3_would_108 : decode cX3_would 108 = .ok (.getfield 132, 3) := by decide +kernel
theorem dX3_would_111 : decode cX3_would 111 = .ok (.invokestatic 146, 3) := by decide +kernel
theorem dX3_would_114 : decode cX3_would 114 = .ok (.ireturn, 1) := by decide +kernel
theorem dX3_would_115 : decode cX3_would 115 = .ok (.aload_n 0, 1) := by decide +kernel
theorem dX3_would_116 : decode cX3_would 116 = .ok (.getfield 19, 3) := by decide +kernel
theorem dX3_would_119 : decode cX3_would 119 = .ok (.getfield 150, 3) := by decide +kernel
theorem dX3_would_122 : decode cX3_would 122 = .ok (.ireturn, 1) := by decide +kernel
theorem dX3_winters_0 : decode cX3_winters 0 = .ok (.iload_n 1, 1) := by decide +kernel
theorem dX3_winters_1 : decode cX3_winters 1 = .ok (.iconst 1, 1) := by decide +kernel
theorem dX3_winters_2 : decode cX3_winters 2 = .ok (.if_icmp .lt 22, 3) := by decide +kernel
theorem dX3_winters_5 : decode cX3_winters 5 = .ok (.iload_n 1, 1) := by decide +kernel
theorem dX3_winters_6 : decode cX3_winters 6 = .ok (.bipush 20, 2) := by decide +kernel
theorem dX3_winters_8 : decode cX3_winters 8 = .ok (.if_icmp .gt 16, 3) := by decide +kernel
theorem dX3_winters_11 : decode cX3_winters 11 = .ok (.iload_n 2, 1) := by decide +kernel
theorem dX3_winters_12 : decode cX3_winters 12 = .ok (.ifCond .lt 12, 3) := by decide +kernel
theorem dX3_winters_15 : decode cX3_winters 15 = .ok (.iload_n 3, 1) := by decide +kernel
theorem dX3_winters_16 : decode cX3_winters 16 = .ok (.ifCond .lt 8, 3) := by decide +kernel
theorem dX3_winters_19 : decode cX3_winters 19 = .ok (.iload_n 3, 1) := by decide +kernel
theorem dX3_winters_20 : decode cX3_winters 20 = .ok (.iconst 2, 1) := by decide +kernel
theorem dX3_winters_21 : decode cX3_winters 21 = .ok (.if_icmp .le 6, 3) := by decide +kernel
theorem dX3_winters_24 : decode cX3_winters 24 = .ok (.bipush (-102), 2) := by decide +kernel
theorem dX3_winters_26 : decode cX3_winters 26 = .ok (.ireturn, 1) := by decide +kernel
theorem dX3_winters_27 : decode cX3_winters 27 = .ok (.aload_n 0, 1) := by decide +kernel
theorem dX3_winters_28 : decode cX3_winters 28 = .ok (.getfield 19, 3) := by decide +kernel
theorem dX3_winters_31 : decode cX3_winters 31 = .ok (.getfield 53, 3) := by decide +kernel
theorem dX3_winters_34 : decode cX3_winters 34 = .ok (.ifCond .ne 6, 3) := by decide +kernel
theorem dX3_winters_37 : decode cX3_winters 37 = .ok (.bipush (-103), 2) := by decide +kernel
theorem dX3_winters_39 : decode cX3_winters 39 = .ok (.ireturn, 1) := by decide +kernel
theorem dX3_winters_40 : decode cX3_winters 40 = .ok (.aload_n 0, 1) := by decide +kernel
theorem dX3_winters_41 : decode cX3_winters 41 = .ok (.iload_n 1, 1) := by decide +kernel
theorem dX3_winters_42 : decode cX3_winters 42 = .ok (.iload_n 2, 1) := by decide +kernel
theorem dX3_winters_43 : decode cX3_winters 43 = .ok (.invokevirtual 180, 3) := by decide +kernel
theorem dX3_winters_46 : decode cX3_winters 46 = .ok (.istore 4, 2) := by decide +kernel
theorem dX3_winters_48 : decode cX3_winters 48 = .ok (.iload_n 3, 1) := by decide +kernel
theorem dX3_winters_49 : decode cX3_winters 49 = .ok (.iconst 2, 1) := by decide +kernel
theorem dX3_winters_50 : decode cX3_winters 50 = .ok (.if_icmp .ne 6, 3) := by decide +kernel
theorem dX3_winters_53 : decode cX3_winters 53 = .ok (.iload 4, 2) := by decide +kernel
theorem dX3_winters_55 : decode cX3_winters 55 = .ok (.ireturn, 1) := by decide +kernel
theorem dX3_winters_56 : decode cX3_winters 56 = .ok (.iload_n 3, 1) := by decide +kernel
theorem dX3_winters_57 : decode cX3_winters 57 = .ok (.ifCond .ne 13, 3) := by decide +kernel
theorem dX3_winters_60 : decode cX3_winters 60 = .ok (.aload_n 0, 1) := by decide +kernel
theorem dX3_winters_61 : decode cX3_winters 61 = .ok (.getfield 33, 3) := by decide +kernel
theorem dX3_winters_64 : decode cX3_winters 64 = .ok (.invokestatic 146, 3) := by decide +kernel
theorem dX3_winters_67 : decode cX3_winters 67 = .ok (.goto 18, 3) := by decide +kernel
theorem dX3_winters_70 : decode cX3_winters 70 = .ok (.aload_n 0, 1) := by decide +kernel
theorem dX3_winters_71 : decode cX3_winters 71 = .ok (.aload_n 0, 1) := by decide +kernel
theorem dX3_winters_72 : decode cX3_winters 72 = .ok (.getfield 26, 3) := by decide +kernel
theorem dX3_winters_75 : decode cX3_winters 75 = .ok (.getfield 100, 3) := by decide +kernel
theorem dX3_winters_78 : decode cX3_winters 78 = .ok (.aload_n 0, 1) := by decide +kernel
theorem dX3_winters_79 : decode cX3_winters 79 = .ok (.getfield 33, 3) := by decide +kernel
theorem dX3_winters_82 : decode cX3_winters 82 = .ok (.invokevirtual 163, 3) := by decide +kernel
theorem dX3_winters_85 : decode cX3_winters 85 = .ok (.ireturn, 1) := by decide +kernel
theorem dX3_count_0 : decode cX3_count 0 = .ok (.iload_n 1, 1) := by decide +kernel
theorem dX3_count_1 : decode cX3_count 1 = .ok (.tableswitch 167 0 10 #[59, 67, 78, 89, 97, 105, 123, 141, 149, 157, 162], 59) := by decide +kernel
theorem dX3_count_60 : decode cX3_count 60 = .ok (.aload_n 0, 1) := by decide +kernel
theorem dX3_count_61 : decode cX3_count 61 = .ok (.getfield 19, 3) := by decide +kernel
theorem dX3_count_64 : decode cX3_count 64 = .ok (.getfield 53, 3) := by decide +kernel
theorem dX3_count_67 : decode cX3_count 67 = .ok (.ireturn, 1) := by decide +kernel
theorem dX3_count_68 : decode cX3_count 68 = .ok (.aload_n 0, 1) := by decide +kernel
theorem dX3_count_69 : decode cX3_count 69 = .ok (.getfield 26, 3) := by decide +kernel
theorem dX3_count_72 : decode cX3_count 72 = .ok (.getfield 100, 3) := by decide +kernel
theorem dX3_count_75 : decode cX3_count 75 = .ok (.invokestatic 187, 3) := by decide +kernel
theorem dX3_count_78 : decode cX3_count 78 = .ok (.ireturn, 1) := by decide +kernel
theorem dX3_count_79 : decode cX3_count 79 = .ok (.aload_n 0, 1) := by decide +kernel
theorem dX3_count_80 : decode cX3_count 80 = .ok (.getfield 26, 3) := by decide +kernel
theorem dX3_count_83 : decode cX3_count 83 = .ok (.getfield 77, 3) := by decide +kernel
theorem dX3_count_86 : decode cX3_count 86 = .ok (.invokestatic 146, 3) := by decide +kernel
theorem dX3_count_89 : decode cX3_count 89 = .ok (.ireturn, 1) := by decide +kernel
theorem dX3_count_90 : decode cX3_count 90 = .ok (.aload_n 0, 1) := by decide +kernel
theorem dX3_count_91 : decode cX3_count 91 = .ok (.getfield 26, 3) := by decide +kernel
theorem dX3_count_94 : decode cX3_count 94 = .ok (.getfield 137, 3) := by decide +kernel
theorem dX3_count_97 : decode cX3_count 97 = .ok (.ireturn, 1) := by decide +kernel
theorem dX3_count_98 : decode cX3_count 98 = .ok (.aload_n 0, 1) := by decide +kernel
theorem dX3_count_99 : decode cX3_count 99 = .ok (.getfield 26, 3) := by decide +kernel
theorem dX3_count_102 : decode cX3_count 102 = .ok (.getfield 140, 3) := by decide +kernel
theorem dX3_count_105 : decode cX3_count 105 = .ok (.ireturn, 1) := by decide +kernel
theorem dX3_count_106 : decode cX3_count 106 = .ok (.aload_n 0, 1) := by decide +kernel
theorem dX3_count_107 : decode cX3_count 107 = .ok (.getfield 19, 3) := by decide +kernel
theorem dX3_count_110 : decode cX3_count 110 = .ok (.aload_n 0, 1) := by decide +kernel
theorem dX3_count_111 : decode cX3_count 111 = .ok (.getfield 26, 3) := by decide +kernel
theorem dX3_count_114 : decode cX3_count 114 = .ok (.getfield 100, 3) := by decide +kernel
theorem dX3_count_117 : decode cX3_count 117 = .ok (.getstatic 91, 3) := by decide +kernel
theorem dX3_count_120 : decode cX3_count 120 = .ok (.invokevirtual 192, 3) := by decide +kernel
theorem dX3_count_123 : decode cX3_count 123 = .ok (.ireturn, 1) := by decide +kernel
theorem dX3_count_124 : decode cX3_count 124 = .ok (.aload_n 0, 1) := by decide +kernel
theorem dX3_count_125 : decode cX3_count 125 = .ok (.getfield 19, 3) := by decide +kernel
theorem dX3_count_128 : decode cX3_count 128 = .ok (.aload_n 0, 1) := by decide +kernel
theorem dX3_count_129 : decode cX3_count 129 = .ok (.getfield 26, 3) := by decide +kernel
theorem dX3_count_132 : decode cX3_count 132 = .ok (.getfield 100, 3) := by decide +kernel
theorem dX3_count_135 : decode cX3_count 135 = .ok (.getstatic 94, 3) := by decide +kernel
theorem dX3_count_138 : decode cX3_count 138 = .ok (.invokevirtual 192, 3) := by decide +kernel
theorem dX3_count_141 : decode cX3_count 141 = .ok (.ireturn, 1) := by decide +kernel
theorem dX3_count_142 : decode cX3_count 142 = .ok (.aload_n 0, 1) := by decide +kernel
theorem dX3_count_143 : decode cX3_count 143 = .ok (.getfield 26, 3) := by decide +kernel
theorem dX3_count_146 : decode cX3_count 146 = .ok (.getfield 173, 3) := by decide +kernel
theorem dX3_count_149 : decode cX3_count 149 = .ok (.ireturn, 1) := by decide +kernel
theorem dX3_count_150 : decode cX3_count 150 = .ok (.aload_n 0, 1) := by decide +kernel
theorem dX3_count_151 : decode cX3_count 151 = .ok (.getfield 10, 3) := by decide +kernel
theorem dX3_count_154 : decode cX3_count 154 = .ok (.getfield 41, 3) := by decide +kernel
theorem dX3_count_157 : decode cX3_count 157 = .ok (.ireturn, 1) := by decide +kernel
theorem dX3_count_158 : decode cX3_count 158 = .ok (.aload_n 0, 1) := by decide +kernel
theorem dX3_count_159 : decode cX3_count 159 = .ok (.getfield 84, 3) := by decide +kernel
theorem dX3_count_162 : decode cX3_count 162 = .ok (.ireturn, 1) := by decide +kernel
theorem dX3_count_163 : decode cX3_count 163 = .ok (.aload_n 0, 1) := by decide +kernel
theorem dX3_count_164 : decode cX3_count 164 = .ok (.getfield 167, 3) := by decide +kernel
theorem dX3_count_167 : decode cX3_count 167 = .ok (.ireturn, 1) := by decide +kernel
theorem dX3_count_168 : decode cX3_count 168 = .ok (.bipush (-102), 2) := by decide +kernel
theorem dX3_count_170 : decode cX3_count 170 = .ok (.ireturn, 1) := by decide +kernel
theorem dX3_isNoCairn_0 : decode cX3_isNoCairn 0 = .ok (.iload_n 1, 1) := by decide +kernel
theorem dX3_isNoCairn_1 : decode cX3_isNoCairn 1 = .ok (.iconst 1, 1) := by decide +kernel
theorem dX3_isNoCairn_2 : decode cX3_isNoCairn 2 = .ok (.if_icmp .lt 18, 3) := by decide +kernel
theorem dX3_isNoCairn_5 : decode cX3_isNoCairn 5 = .ok (.iload_n 1, 1) := by decide +kernel
theorem dX3_isNoCairn_6 : decode cX3_isNoCairn 6 = .ok (.iconst 5, 1) := by decide +kernel
theorem dX3_isNoCairn_7 : decode cX3_isNoCairn 7 = .ok (.if_icmp .gt 13, 3) := by decide +kernel
theorem dX3_isNoCairn_10 : decode cX3_isNoCairn 10 = .ok (.aload_n 0, 1) := by decide +kernel
theorem dX3_isNoCairn_11 : decode cX3_isNoCairn 11 = .ok (.getfield 19, 3) := by decide +kernel
theorem dX3_isNoCairn_14 : decode cX3_isNoCairn 14 = .ok (.getfield 53, 3) := by decide +kernel
theorem dX3_isNoCairn_17 : decode cX3_isNoCairn 17 = .ok (.ifCond .ne 7, 3) := by decide +kernel
theorem dX3_isNoCairn_20 : decode cX3_isNoCairn 20 = .ok (.iconst 1, 1) := by decide +kernel
theorem dX3_isNoCairn_21 : decode cX3_isNoCairn 21 = .ok (.goto 4, 3) := by decide +kernel
theorem dX3_isNoCairn_24 : decode cX3_isNoCairn 24 = .ok (.iconst 0, 1) := by decide +kernel
theorem dX3_isNoCairn_25 : decode cX3_isNoCairn 25 = .ok (.ireturn, 1) := by decide +kernel
theorem dX3_isNobody_0 : decode cX3_isNobody 0 = .ok (.iload_n 1, 1) := by decide +kernel
theorem dX3_isNobody_1 : decode cX3_isNobody 1 = .ok (.iconst 1, 1) := by decide +kernel
theorem dX3_isNobody_2 : decode cX3_isNobody 2 = .ok (.if_icmp .lt 14, 3) := by decide +kernel
theorem dX3_isNobody_5 : decode cX3_isNobody 5 = .ok (.iload_n 1, 1) := by decide +kernel
theorem dX3_isNobody_6 : decode cX3_isNobody 6 = .ok (.aload_n 0, 1) := by decide +kernel
theorem dX3_isNobody_7 : decode cX3_isNobody 7 = .ok (.getfield 19, 3) := by decide +kernel
theorem dX3_isNobody_10 : decode cX3_isNobody 10 = .ok (.invokevirtual 70, 3) := by decide +kernel
theorem dX3_isNobody_13 : decode cX3_isNobody 13 = .ok (.if_icmp .le 7, 3) := by decide +kernel
theorem dX3_isNobody_16 : decode cX3_isNobody 16 = .ok (.iconst 1, 1) := by decide +kernel
theorem dX3_isNobody_17 : decode cX3_isNobody 17 = .ok (.goto 4, 3) := by decide +kernel
theorem dX3_isNobody_20 : decode cX3_isNobody 20 = .ok (.iconst 0, 1) := by decide +kernel
theorem dX3_isNobody_21 : decode cX3_isNobody 21 = .ok (.ireturn, 1) := by decide +kernel
theorem dX3_isNoMarch_0 : decode cX3_isNoMarch 0 = .ok (.aload_n 0, 1) := by decide +kernel
theorem dX3_isNoMarch_1 : decode cX3_isNoMarch 1 = .ok (.iload_n 1, 1) := by decide +kernel
theorem dX3_isNoMarch_2 : decode cX3_isNoMarch 2 = .ok (.invokevirtual 153, 3) := by decide +kernel
theorem dX3_isNoMarch_5 : decode cX3_isNoMarch 5 = .ok (.ifCond .ne 20, 3) := by decide +kernel
theorem dX3_isNoMarch_8 : decode cX3_isNoMarch 8 = .ok (.iload_n 2, 1) := by decide +kernel
theorem dX3_isNoMarch_9 : decode cX3_isNoMarch 9 = .ok (.invokestatic 156, 3) := by decide +kernel
theorem dX3_isNoMarch_12 : decode cX3_isNoMarch 12 = .ok (.ifCond .ne 13, 3) := by decide +kernel
theorem dX3_isNoMarch_15 : decode cX3_isNoMarch 15 = .ok (.iload_n 3, 1) := by decide +kernel
theorem dX3_isNoMarch_16 : decode cX3_isNoMarch 16 = .ok (.ifCond .lt 9, 3) := by decide +kernel
theorem dX3_isNoMarch_19 : decode cX3_isNoMarch 19 = .ok (.iload_n 3, 1) := by decide +kernel
theorem dX3_isNoMarch_20 : decode cX3_isNoMarch 20 = .ok (.bipush 40, 2) := by decide +kernel
theorem dX3_isNoMarch_22 : decode cX3_isNoMarch 22 = .ok (.if_icmp .le 7, 3) := by decide +kernel
theorem dX3_isNoMarch_25 : decode cX3_isNoMarch 25 = .ok (.iconst 1, 1) := by decide +kernel
theorem dX3_isNoMarch_26 : decode cX3_isNoMarch 26 = .ok (.goto 4, 3) := by decide +kernel
theorem dX3_isNoMarch_29 : decode cX3_isNoMarch 29 = .ok (.iconst 0, 1) := by decide +kernel
theorem dX3_isNoMarch_30 : decode cX3_isNoMarch 30 = .ok (.ireturn, 1) := by decide +kernel
theorem dX3_anyIsDead_0 : decode cX3_anyIsDead 0 = .ok (.iload_n 1, 1) := by decide +kernel
theorem dX3_anyIsDead_1 : decode cX3_anyIsDead 1 = .ok (.aload_n 0, 1) := by decide +kernel
theorem dX3_anyIsDead_2 : decode cX3_anyIsDead 2 = .ok (.getfield 26, 3) := by decide +kernel
theorem dX3_anyIsDead_5 : decode cX3_anyIsDead 5 = .ok (.getfield 100, 3) := by decide +kernel
theorem dX3_anyIsDead_8 : decode cX3_anyIsDead 8 = .ok (.iconst (-1), 1) := by decide +kernel
theorem dX3_anyIsDead_9 : decode cX3_anyIsDead 9 = .ok (.ixor, 1) := by decide +kernel
theorem dX3_anyIsDead_10 : decode cX3_anyIsDead 10 = .ok (.iand, 1) := by decide +kernel
theorem dX3_anyIsDead_11 : decode cX3_anyIsDead 11 = .ok (.ifCond .eq 7, 3) := by decide +kernel
theorem dX3_anyIsDead_14 : decode cX3_anyIsDead 14 = .ok (.iconst 1, 1) := by decide +kernel
theorem dX3_anyIsDead_15 : decode cX3_anyIsDead 15 = .ok (.goto 4, 3) := by decide +kernel
theorem dX3_anyIsDead_18 : decode cX3_anyIsDead 18 = .ok (.iconst 0, 1) := by decide +kernel
theorem dX3_anyIsDead_19 : decode cX3_anyIsDead 19 = .ok (.ireturn, 1) := by decide +kernel
theorem dX3_isNoStage_0 : decode cX3_isNoStage 0 = .ok (.iload_n 0, 1) := by decide +kernel
theorem dX3_isNoStage_1 : decode cX3_isNoStage 1 = .ok (.iconst 1, 1) := by decide +kernel
theorem dX3_isNoStage_2 : decode cX3_isNoStage 2 = .ok (.if_icmp .lt 9, 3) := by decide +kernel
theorem dX3_isNoStage_5 : decode cX3_isNoStage 5 = .ok (.iload_n 0, 1) := by decide +kernel
theorem dX3_isNoStage_6 : decode cX3_isNoStage 6 = .ok (.bipush 6, 2) := by decide +kernel
theorem dX3_isNoStage_8 : decode cX3_isNoStage 8 = .ok (.if_icmp .le 7, 3) := by decide +kernel
theorem dX3_isNoStage_11 : decode cX3_isNoStage 11 = .ok (.iconst 1, 1) := by decide +kernel
theorem dX3_isNoStage_12 : decode cX3_isNoStage 12 = .ok (.goto 4, 3) := by decide +kernel
theorem dX3_isNoStage_15 : decode cX3_isNoStage 15 = .ok (.iconst 0, 1) := by decide +kernel
theorem dX3_isNoStage_16 : decode cX3_isNoStage 16 = .ok (.ireturn, 1) := by decide +kernel
theorem dX3_mostFoodOf_0 : decode cX3_mostFoodOf 0 = .ok (.bipush 40, 2) := by decide +kernel
theorem dX3_mostFoodOf_2 : decode cX3_mostFoodOf 2 = .ok (.aload_n 0, 1) := by decide +kernel
theorem dX3_mostFoodOf_3 : decode cX3_mostFoodOf 3 = .ok (.getfield 19, 3) := by decide +kernel
theorem dX3_mostFoodOf_6 : decode cX3_mostFoodOf 6 = .ok (.iload_n 1, 1) := by decide +kernel
theorem dX3_mostFoodOf_7 : decode cX3_mostFoodOf 7 = .ok (.getstatic 91, 3) := by decide +kernel
theorem dX3_mostFoodOf_10 : decode cX3_mostFoodOf 10 = .ok (.invokevirtual 192, 3) := by decide +kernel
theorem dX3_mostFoodOf_13 : decode cX3_mostFoodOf 13 = .ok (.invokestatic 209, 3) := by decide +kernel
theorem dX3_mostFoodOf_16 : decode cX3_mostFoodOf 16 = .ok (.ireturn, 1) := by decide +kernel
theorem dX3_leastFood_0 : decode cX3_leastFood 0 = .ok (.aload_n 0, 1) := by decide +kernel
theorem dX3_leastFood_1 : decode cX3_leastFood 1 = .ok (.iload_n 1, 1) := by decide +kernel
theorem dX3_leastFood_2 : decode cX3_leastFood 2 = .ok (.invokevirtual 214, 3) := by decide +kernel
theorem dX3_leastFood_5 : decode cX3_leastFood 5 = .ok (.istore 4, 2) := by decide +kernel
theorem dX3_leastFood_7 : decode cX3_leastFood 7 = .ok (.iconst 0, 1) := by decide +kernel
theorem dX3_leastFood_8 : decode cX3_leastFood 8 = .ok (.istore 5, 2) := by decide +kernel
theorem dX3_leastFood_10 : decode cX3_leastFood 10 = .ok (.iload 5, 2) := by decide +kernel
theorem dX3_leastFood_12 : decode cX3_leastFood 12 = .ok (.iload 4, 2) := by decide +kernel
theorem dX3_leastFood_14 : decode cX3_leastFood 14 = .ok (.if_icmp .gt 34, 3) := by decide +kernel
theorem dX3_leastFood_17 : decode cX3_leastFood 17 = .ok (.aload_n 0, 1) := by decide +kernel
theorem dX3_leastFood_18 : decode cX3_leastFood 18 = .ok (.getfield 19, 3) := by decide +kernel
theorem dX3_leastFood_21 : decode cX3_leastFood 21 = .ok (.aload_n 3, 1) := by decide +kernel
theorem dX3_leastFood_22 : decode cX3_leastFood 22 = .ok (.invokevirtual 124, 3) := by decide +kernel
theorem dX3_leastFood_25 : decode cX3_leastFood 25 = .ok (.aload_n 0, 1) := by decide +kernel
theorem dX3_leastFood_26 : decode cX3_leastFood 26 = .ok (.getfield 19, 3) := by decide +kernel
theorem dX3_leastFood_29 : decode cX3_leastFood 29 = .ok (.iload_n 1, 1) := by decide +kernel
theorem dX3_leastFood_30 : decode cX3_leastFood 30 = .ok (.iload_n 2, 1) := by decide +kernel
theorem dX3_leastFood_31 : decode cX3_leastFood 31 = .ok (.iload 5, 2) := by decide +kernel
theorem dX3_leastFood_33 : decode cX3_leastFood 33 = .ok (.invokevirtual 128, 3) := by decide +kernel
theorem dX3_leastFood_36 : decode cX3_leastFood 36 = .ok (.ifCond .eq 6, 3) := by decide +kernel
theorem dX3_leastFood_39 : decode cX3_leastFood 39 = .ok (.iload 5, 2) := by decide +kernel
theorem dX3_leastFood_41 : decode cX3_leastFood 41 = .ok (.ireturn, 1) := by decide +kernel
theorem dX3_leastFood_42 : decode cX3_leastFood 42 = .ok (.iinc 5 1, 3) := by decide +kernel
theorem dX3_leastFood_45 : decode cX3_leastFood 45 = .ok (.goto (-35), 3) := by decide +kernel
theorem dX3_leastFood_48 : decode cX3_leastFood 48 = .ok (.iconst (-1), 1) := by decide +kernel
theorem dX3_leastFood_49 : decode cX3_leastFood 49 = .ok (.ireturn, 1) := by decide +kernel
theorem dX3_farthest_0 : decode cX3_farthest 0 = .ok (.bipush 6, 2) := by decide +kernel
theorem dX3_farthest_2 : decode cX3_farthest 2 = .ok (.istore_n 3, 1) := by decide +kernel
theorem dX3_farthest_3 : decode cX3_farthest 3 = .ok (.iload_n 3, 1) := by decide +kernel
theorem dX3_farthest_4 : decode cX3_farthest 4 = .ok (.iconst 1, 1) := by decide +kernel
theorem dX3_farthest_5 : decode cX3_farthest 5 = .ok (.if_icmp .lt 26, 3) := by decide +kernel
theorem dX3_farthest_8 : decode cX3_farthest 8 = .ok (.iload_n 1, 1) := by decide +kernel
theorem dX3_farthest_9 : decode cX3_farthest 9 = .ok (.ifCond .eq 16, 3) := by decide +kernel
theorem dX3_farthest_12 : decode cX3_farthest 12 = .ok (.aload_n 0, 1) := by decide +kernel
theorem dX3_farthest_13 : decode cX3_farthest 13 = .ok (.iload_n 1, 1) := by decide +kernel
theorem dX3_farthest_14 : decode cX3_farthest 14 = .ok (.iload_n 3, 1) := by decide +kernel
theorem dX3_farthest_15 : decode cX3_farthest 15 = .ok (.aload_n 2, 1) := by decide +kernel
theorem dX3_farthest_16 : decode cX3_farthest 16 = .ok (.invokevirtual 159, 3) := by decide +kernel
theorem dX3_farthest_19 : decode cX3_farthest 19 = .ok (.iconst (-1), 1) := by decide +kernel
theorem dX3_farthest_20 : decode cX3_farthest 20 = .ok (.if_icmp .eq 5, 3) := by decide +kernel
theorem dX3_farthest_23 : decode cX3_farthest 23 = .ok (.iload_n 3, 1) := by decide +kernel
theorem dX3_farthest_24 : decode cX3_farthest 24 = .ok (.ireturn, 1) := by decide +kernel
theorem dX3_farthest_25 : decode cX3_farthest 25 = .ok (.iinc 3 (-1), 3) := by decide +kernel
theorem dX3_farthest_28 : decode cX3_farthest 28 = .ok (.goto (-25), 3) := by decide +kernel
theorem dX3_farthest_31 : decode cX3_farthest 31 = .ok (.iconst 0, 1) := by decide +kernel
theorem dX3_farthest_32 : decode cX3_farthest 32 = .ok (.ireturn, 1) := by decide +kernel
theorem dX3_amountsAt_0 : decode cX3_amountsAt 0 = .ok (.iconst 0, 1) := by decide +kernel
theorem dX3_amountsAt_1 : decode cX3_amountsAt 1 = .ok (.istore_n 2, 1) := by decide +kernel
theorem dX3_amountsAt_2 : decode cX3_amountsAt 2 = .ok (.iconst 0, 1) := by decide +kernel
theorem dX3_amountsAt_3 : decode cX3_amountsAt 3 = .ok (.istore_n 3, 1) := by decide +kernel
theorem dX3_amountsAt_4 : decode cX3_amountsAt 4 = .ok (.iload_n 3, 1) := by decide +kernel
theorem dX3_amountsAt_5 : decode cX3_amountsAt 5 = .ok (.bipush 9, 2) := by decide +kernel
theorem dX3_amountsAt_7 : decode cX3_amountsAt 7 = .ok (.if_icmp .gt 24, 3) := by decide +kernel
theorem dX3_amountsAt_10 : decode cX3_amountsAt 10 = .ok (.aload_n 0, 1) := by decide +kernel
theorem dX3_amountsAt_11 : decode cX3_amountsAt 11 = .ok (.iload_n 1, 1) := by decide +kernel
theorem dX3_amountsAt_12 : decode cX3_amountsAt 12 = .ok (.iload_n 3, 1) := by decide +kernel
theorem dX3_amountsAt_13 : decode cX3_amountsAt 13 = .ok (.invokevirtual 217, 3) := by decide +kernel
theorem dX3_amountsAt_16 : decode cX3_amountsAt 16 = .ok (.ifCond .eq 9, 3) := by decide +kernel
theorem dX3_amountsAt_19 : decode cX3_amountsAt 19 = .ok (.iload_n 2, 1) := by decide +kernel
theorem dX3_amountsAt_20 : decode cX3_amountsAt 20 = .ok (.iconst 1, 1) := by decide +kernel
theorem dX3_amountsAt_21 : decode cX3_amountsAt 21 = .ok (.iload_n 3, 1) := by decide +kernel
theorem dX3_amountsAt_22 : decode cX3_amountsAt 22 = .ok (.ishl, 1) := by decide +kernel
theorem dX3_amountsAt_23 : decode cX3_amountsAt 23 = .ok (.ior, 1) := by decide +kernel
theorem dX3_amountsAt_24 : decode cX3_amountsAt 24 = .ok (.istore_n 2, 1) := by decide +kernel
theorem dX3_amountsAt_25 : decode cX3_amountsAt 25 = .ok (.iinc 3 1, 3) := by decide +kernel
theorem dX3_amountsAt_28 : decode cX3_amountsAt 28 = .ok (.goto (-24), 3) := by decide +kernel
theorem dX3_amountsAt_31 : decode cX3_amountsAt 31 = .ok (.iload_n 2, 1) := by decide +kernel
theorem dX3_amountsAt_32 : decode cX3_amountsAt 32 = .ok (.ireturn, 1) := by decide +kernel
theorem dX3_isAllSo_0 : decode cX3_isAllSo 0 = .ok (.iconst 0, 1) := by decide +kernel
theorem dX3_isAllSo_1 : decode cX3_isAllSo 1 = .ok (.istore_n 3, 1) := by decide +kernel
theorem dX3_isAllSo_2 : decode cX3_isAllSo 2 = .ok (.iload_n 3, 1) := by decide +kernel
theorem dX3_isAllSo_3 : decode cX3_isAllSo 3 = .ok (.aload_n 0, 1) := by decide +kernel
theorem dX3_isAllSo_4 : decode cX3_isAllSo 4 = .ok (.getfield 26, 3) := by decide +kernel
theorem dX3_isAllSo_7 : decode cX3_isAllSo 7 = .ok (.getfield 173, 3) := by decide +kernel
theorem dX3_isAllSo_10 : decode cX3_isAllSo 10 = .ok (.if_icmp .ge 110, 3) := by decide +kernel
theorem dX3_isAllSo_13 : decode cX3_isAllSo 13 = .ok (.aload_n 0, 1) := by decide +kernel
theorem dX3_isAllSo_14 : decode cX3_isAllSo 14 = .ok (.getfield 19, 3) := by decide +kernel
theorem dX3_isAllSo_17 : decode cX3_isAllSo 17 = .ok (.aload_n 0, 1) := by decide +kernel
theorem dX3_isAllSo_18 : decode cX3_isAllSo 18 = .ok (.getfield 26, 3) := by decide +kernel
theorem dX3_isAllSo_21 : decode cX3_isAllSo 21 = .ok (.getfield 77, 3) := by decide +kernel
theorem dX3_isAllSo_24 : decode cX3_isAllSo 24 = .ok (.invokevirtual 124, 3) := by decide +kernel
theorem dX3_isAllSo_27 : decode cX3_isAllSo 27 = .ok (.aload_n 0, 1) := by decide +kernel
theorem dX3_isAllSo_28 : decode cX3_isAllSo 28 = .ok (.getfield 19, 3) := by decide +kernel
theorem dX3_isAllSo_31 : decode cX3_isAllSo 31 = .ok (.getfield 132, 3) := by decide +kernel
theorem dX3_isAllSo_34 : decode cX3_isAllSo 34 = .ok (.iload_n 1, 1) := by decide +kernel
theorem dX3_isAllSo_35 : decode cX3_isAllSo 35 = .ok (.iconst 1, 1) := by decide +kernel
theorem dX3_isAllSo_36 : decode cX3_isAllSo 36 = .ok (.isub, 1) := by decide +kernel
theorem dX3_isAllSo_37 : decode cX3_isAllSo 37 = .ok (.iload_n 2, 1) := by decide +kernel
theorem dX3_isAllSo_38 : decode cX3_isAllSo 38 = .ok (.invokestatic 66, 3) := by decide +kernel
theorem dX3_isAllSo_41 : decode cX3_isAllSo 41 = .ok (.aload_n 0, 1) := by decide +kernel
theorem dX3_isAllSo_42 : decode cX3_isAllSo 42 = .ok (.getfield 26, 3) := by decide +kernel
theorem dX3_isAllSo_45 : decode cX3_isAllSo 45 = .ok (.getfield 220, 3) := by decide +kernel
theorem dX3_isAllSo_48 : decode cX3_isAllSo 48 = .ok (.iload_n 3, 1) := by decide +kernel
theorem dX3_isAllSo_49 : decode cX3_isAllSo 49 = .ok (.invokestatic 87, 3) := by decide +kernel
theorem dX3_isAllSo_52 : decode cX3_isAllSo 52 = .ok (.istore 4, 2) := by decide +kernel
theorem dX3_isAllSo_54 : decode cX3_isAllSo 54 = .ok (.aload_n 0, 1) := by decide +kernel
theorem dX3_isAllSo_55 : decode cX3_isAllSo 55 = .ok (.getfield 19, 3) := by decide +kernel
theorem dX3_isAllSo_58 : decode cX3_isAllSo 58 = .ok (.aload_n 0, 1) := by decide +kernel
theorem dX3_isAllSo_59 : decode cX3_isAllSo 59 = .ok (.getfield 26, 3) := by decide +kernel
theorem dX3_isAllSo_62 : decode cX3_isAllSo 62 = .ok (.getfield 223, 3) := by decide +kernel
theorem dX3_isAllSo_65 : decode cX3_isAllSo 65 = .ok (.iload_n 3, 1) := by decide +kernel
theorem dX3_isAllSo_66 : decode cX3_isAllSo 66 = .ok (.invokestatic 87, 3) := by decide +kernel
theorem dX3_isAllSo_69 : decode cX3_isAllSo 69 = .ok (.iload 4, 2) := by decide +kernel
theorem dX3_isAllSo_71 : decode cX3_isAllSo 71 = .ok (.aload_n 0, 1) := by decide +kernel
theorem dX3_isAllSo_72 : decode cX3_isAllSo 72 = .ok (.getfield 26, 3) := by decide +kernel
theorem dX3_isAllSo_75 : decode cX3_isAllSo 75 = .ok (.getfield 226, 3) := by decide +kernel
theorem dX3_isAllSo_78 : decode cX3_isAllSo 78 = .ok (.iload_n 3, 1) := by decide +kernel
theorem dX3_isAllSo_79 : decode cX3_isAllSo 79 = .ok (.invokestatic 87, 3) := by decide +kernel
theorem dX3_isAllSo_82 : decode cX3_isAllSo 82 = .ok (.invokevirtual 128, 3) := by decide +kernel
theorem dX3_isAllSo_85 : decode cX3_isAllSo 85 = .ok (.istore 5, 2) := by decide +kernel
theorem dX3_isAllSo_87 : decode cX3_isAllSo 87 = .ok (.iload 5, 2) := by decide +kernel
theorem dX3_isAllSo_89 : decode cX3_isAllSo 89 = .ok (.aload_n 0, 1) := by decide +kernel
theorem dX3_isAllSo_90 : decode cX3_isAllSo 90 = .ok (.getfield 26, 3) := by decide +kernel
theorem dX3_isAllSo_93 : decode cX3_isAllSo 93 = .ok (.getfield 229, 3) := by decide +kernel
theorem dX3_isAllSo_96 : decode cX3_isAllSo 96 = .ok (.iload_n 3, 1) := by decide +kernel
theorem dX3_isAllSo_97 : decode cX3_isAllSo 97 = .ok (.invokestatic 87, 3) := by decide +kernel
theorem dX3_isAllSo_100 : decode cX3_isAllSo 100 = .ok (.iconst 1, 1) := by decide +kernel
theorem dX3_isAllSo_101 : decode cX3_isAllSo 101 = .ok (.if_icmp .ne 7, 3) := by decide +kernel
theorem dX3_isAllSo_104 : decode cX3_isAllSo 104 = .ok (.iconst 1, 1) := by decide +kernel
theorem dX3_isAllSo_105 : decode cX3_isAllSo 105 = .ok (.goto 4, 3) := by decide +kernel
theorem dX3_isAllSo_108 : decode cX3_isAllSo 108 = .ok (.iconst 0, 1) := by decide +kernel
theorem dX3_isAllSo_109 : decode cX3_isAllSo 109 = .ok (.if_icmp .eq 5, 3) := by decide +kernel
theorem dX3_isAllSo_112 : decode cX3_isAllSo 112 = .ok (.iconst 0, 1) := by decide +kernel
theorem dX3_isAllSo_113 : decode cX3_isAllSo 113 = .ok (.ireturn, 1) := by decide +kernel
theorem dX3_isAllSo_114 : decode cX3_isAllSo 114 = .ok (.iinc 3 1, 3) := by decide +kernel
theorem dX3_isAllSo_117 : decode cX3_isAllSo 117 = .ok (.goto (-115), 3) := by decide +kernel
theorem dX3_isAllSo_120 : decode cX3_isAllSo 120 = .ok (.iconst 1, 1) := by decide +kernel
theorem dX3_isAllSo_121 : decode cX3_isAllSo 121 = .ok (.ireturn, 1) := by decide +kernel
theorem dX3_bestTrial_0 : decode cX3_bestTrial 0 = .ok (.iconst (-1), 1) := by decide +kernel
theorem dX3_bestTrial_1 : decode cX3_bestTrial 1 = .ok (.istore_n 3, 1) := by decide +kernel
theorem dX3_bestTrial_2 : decode cX3_bestTrial 2 = .ok (.iload_n 2, 1) := by decide +kernel
theorem dX3_bestTrial_3 : decode cX3_bestTrial 3 = .ok (.invokestatic 187, 3) := by decide +kernel
theorem dX3_bestTrial_6 : decode cX3_bestTrial 6 = .ok (.iconst 1, 1) := by decide +kernel
theorem dX3_bestTrial_7 : decode cX3_bestTrial 7 = .ok (.iadd, 1) := by decide +kernel
theorem dX3_bestTrial_8 : decode cX3_bestTrial 8 = .ok (.istore 4, 2) := by decide +kernel
theorem dX3_bestTrial_10 : decode cX3_bestTrial 10 = .ok (.aload_n 0, 1) := by decide +kernel
theorem dX3_bestTrial_11 : decode cX3_bestTrial 11 = .ok (.aload_n 0, 1) := by decide +kernel
theorem dX3_bestTrial_12 : decode cX3_bestTrial 12 = .ok (.getfield 19, 3) := by decide +kernel
theorem dX3_bestTrial_15 : decode cX3_bestTrial 15 = .ok (.invokevirtual 70, 3) := by decide +kernel
theorem dX3_bestTrial_18 : decode cX3_bestTrial 18 = .ok (.invokevirtual 214, 3) := by decide +kernel
theorem dX3_bestTrial_21 : decode cX3_bestTrial 21 = .ok (.istore 5, 2) := by decide +kernel
theorem dX3_bestTrial_23 : decode cX3_bestTrial 23 = .ok (.iconst 0, 1) := by decide +kernel
theorem dX3_bestTrial_24 : decode cX3_bestTrial 24 = .ok (.istore 6, 2) := by decide +kernel
theorem dX3_bestTrial_26 : decode cX3_bestTrial 26 = .ok (.iload_n 2, 1) := by decide +kernel
theorem dX3_bestTrial_27 : decode cX3_bestTrial 27 = .ok (.ifCond .eq 40, 3) := by decide +kernel
theorem dX3_bestTrial_30 : decode cX3_bestTrial 30 = .ok (.iload 6, 2) := by decide +kernel
theorem dX3_bestTrial_32 : decode cX3_bestTrial 32 = .ok (.iload 5, 2) := by decide +kernel
theorem dX3_bestTrial_34 : decode cX3_bestTrial 34 = .ok (.if_icmp .gt 33, 3) := by decide +kernel
theorem dX3_bestTrial_37 : decode cX3_bestTrial 37 = .ok (.aload_n 0, 1) := by decide +kernel
theorem dX3_bestTrial_38 : decode cX3_bestTrial 38 = .ok (.iload_n 1, 1) := by decide +kernel
theorem dX3_bestTrial_39 : decode cX3_bestTrial 39 = .ok (.iload_n 2, 1) := by decide +kernel
theorem dX3_bestTrial_40 : decode cX3_bestTrial 40 = .ok (.iload 6, 2) := by decide +kernel
theorem dX3_bestTrial_42 : decode cX3_bestTrial 42 = .ok (.invokevirtual 232, 3) := by decide +kernel
theorem dX3_bestTrial_45 : decode cX3_bestTrial 45 = .ok (.istore 7, 2) := by decide +kernel
theorem dX3_bestTrial_47 : decode cX3_bestTrial 47 = .ok (.iload 7, 2) := by decide +kernel
theorem dX3_bestTrial_49 : decode cX3_bestTrial 49 = .ok (.iload 4, 2) := by decide +kernel
theorem dX3_bestTrial_51 : decode cX3_bestTrial 51 = .ok (.if_icmp .ge 10, 3) := by decide +kernel
theorem dX3_bestTrial_54 : decode cX3_bestTrial 54 = .ok (.iload 6, 2) := by decide +kernel
theorem dX3_bestTrial_56 : decode cX3_bestTrial 56 = .ok (.istore_n 3, 1) := by decide +kernel
theorem dX3_bestTrial_57 : decode cX3_bestTrial 57 = .ok (.iload 7, 2) := by decide +kernel
theorem dX3_bestTrial_59 : decode cX3_bestTrial 59 = .ok (.istore 4, 2) := by decide +kernel
theorem dX3_bestTrial_61 : decode cX3_bestTrial 61 = .ok (.iinc 6 1, 3) := by decide +kernel
theorem dX3_bestTrial_64 : decode cX3_bestTrial 64 = .ok (.goto (-38), 3) := by decide +kernel
theorem dX3_bestTrial_67 : decode cX3_bestTrial 67 = .ok (.iload_n 3, 1) := by decide +kernel
theorem dX3_bestTrial_68 : decode cX3_bestTrial 68 = .ok (.ireturn, 1) := by decide +kernel
theorem dX3_leftAtWorst_0 : decode cX3_leftAtWorst 0 = .ok (.iconst 0, 1) := by decide +kernel
theorem dX3_leftAtWorst_1 : decode cX3_leftAtWorst 1 = .ok (.istore 4, 2) := by decide +kernel
theorem dX3_leftAtWorst_3 : decode cX3_leftAtWorst 3 = .ok (.iconst 0, 1) := by decide +kernel
theorem dX3_leftAtWorst_4 : decode cX3_leftAtWorst 4 = .ok (.istore 5, 2) := by decide +kernel
theorem dX3_leftAtWorst_6 : decode cX3_leftAtWorst 6 = .ok (.iload 5, 2) := by decide +kernel
theorem dX3_leftAtWorst_8 : decode cX3_leftAtWorst 8 = .ok (.bipush 9, 2) := by decide +kernel
theorem dX3_leftAtWorst_10 : decode cX3_leftAtWorst 10 = .ok (.if_icmp .gt 78, 3) := by decide +kernel
theorem dX3_leftAtWorst_13 : decode cX3_leftAtWorst 13 = .ok (.iload_n 2, 1) := by decide +kernel
theorem dX3_leftAtWorst_14 : decode cX3_leftAtWorst 14 = .ok (.iload 5, 2) := by decide +kernel
theorem dX3_leftAtWorst_16 : decode cX3_leftAtWorst 16 = .ok (.ishr, 1) := by decide +kernel
theorem dX3_leftAtWorst_17 : decode cX3_leftAtWorst 17 = .ok (.iconst 1, 1) := by decide +kernel
theorem dX3_leftAtWorst_18 : decode cX3_leftAtWorst 18 = .ok (.iand, 1) := by decide +kernel
theorem dX3_leftAtWorst_19 : decode cX3_leftAtWorst 19 = .ok (.iconst 1, 1) := by decide +kernel
theorem dX3_leftAtWorst_20 : decode cX3_leftAtWorst 20 = .ok (.if_icmp .ne 62, 3) := by decide +kernel
theorem dX3_leftAtWorst_23 : decode cX3_leftAtWorst 23 = .ok (.aload_n 0, 1) := by decide +kernel
theorem dX3_leftAtWorst_24 : decode cX3_leftAtWorst 24 = .ok (.getfield 19, 3) := by decide +kernel
theorem dX3_leftAtWorst_27 : decode cX3_leftAtWorst 27 = .ok (.aload_n 0, 1) := by decide +kernel
theorem dX3_leftAtWorst_28 : decode cX3_leftAtWorst 28 = .ok (.getfield 26, 3) := by decide +kernel
theorem dX3_leftAtWorst_31 : decode cX3_leftAtWorst 31 = .ok (.getfield 77, 3) := by decide +kernel
theorem dX3_leftAtWorst_34 : decode cX3_leftAtWorst 34 = .ok (.invokevirtual 124, 3) := by decide +kernel
theorem dX3_leftAtWorst_37 : decode cX3_leftAtWorst 37 = .ok (.aload_n 0, 1) := by decide +kernel
theorem dX3_leftAtWorst_38 : decode cX3_leftAtWorst 38 = .ok (.getfield 19, 3) := by decide +kernel
theorem dX3_leftAtWorst_41 : decode cX3_leftAtWorst 41 = .ok (.getfield 132, 3) := by decide +kernel
theorem dX3_leftAtWorst_44 : decode cX3_leftAtWorst 44 = .ok (.iload_n 1, 1) := by decide +kernel
theorem dX3_leftAtWorst_45 : decode cX3_leftAtWorst 45 = .ok (.iconst 1, 1) := by decide +kernel
theorem dX3_leftAtWorst_46 : decode cX3_leftAtWorst 46 = .ok (.isub, 1) := by decide +kernel
theorem dX3_leftAtWorst_47 : decode cX3_leftAtWorst 47 = .ok (.iload 5, 2) := by decide +kernel
theorem dX3_leftAtWorst_49 : decode cX3_leftAtWorst 49 = .ok (.invokestatic 66, 3) := by decide +kernel
theorem dX3_leftAtWorst_52 : decode cX3_leftAtWorst 52 = .ok (.iload 4, 2) := by decide +kernel
theorem dX3_leftAtWorst_54 : decode cX3_leftAtWorst 54 = .ok (.aload_n 0, 1) := by decide +kernel
theorem dX3_leftAtWorst_55 : decode cX3_leftAtWorst 55 = .ok (.getfield 19, 3) := by decide +kernel
theorem dX3_leftAtWorst_58 : decode cX3_leftAtWorst 58 = .ok (.aload_n 0, 1) := by decide +kernel
theorem dX3_leftAtWorst_59 : decode cX3_leftAtWorst 59 = .ok (.getfield 19, 3) := by decide +kernel
theorem dX3_leftAtWorst_62 : decode cX3_leftAtWorst 62 = .ok (.invokevirtual 70, 3) := by decide +kernel
theorem dX3_leftAtWorst_65 : decode cX3_leftAtWorst 65 = .ok (.bipush 6, 2) := by decide +kernel
theorem dX3_leftAtWorst_67 : decode cX3_leftAtWorst 67 = .ok (.iload_n 3, 1) := by decide +kernel
theorem dX3_leftAtWorst_68 : decode cX3_leftAtWorst 68 = .ok (.invokevirtual 128, 3) := by decide +kernel
theorem dX3_leftAtWorst_71 : decode cX3_leftAtWorst 71 = .ok (.ifCond .eq 7, 3) := by decide +kernel
theorem dX3_leftAtWorst_74 : decode cX3_leftAtWorst 74 = .ok (.iconst 1, 1) := by decide +kernel
theorem dX3_leftAtWorst_75 : decode cX3_leftAtWorst 75 = .ok (.goto 4, 3) := by decide +kernel
theorem dX3_leftAtWorst_78 : decode cX3_leftAtWorst 78 = .ok (.iconst 0, 1) := by decide +kernel
theorem dX3_leftAtWorst_79 : decode cX3_leftAtWorst 79 = .ok (.iadd, 1) := by decide +kernel
theorem dX3_leftAtWorst_80 : decode cX3_leftAtWorst 80 = .ok (.istore 4, 2) := by decide +kernel
theorem dX3_leftAtWorst_82 : decode cX3_leftAtWorst 82 = .ok (.iinc 5 1, 3) := by decide +kernel
theorem dX3_leftAtWorst_85 : decode cX3_leftAtWorst 85 = .ok (.goto (-79), 3) := by decide +kernel
theorem dX3_leftAtWorst_88 : decode cX3_leftAtWorst 88 = .ok (.iload 4, 2) := by decide +kernel
theorem dX3_leftAtWorst_90 : decode cX3_leftAtWorst 90 = .ok (.iload_n 2, 1) := by decide +kernel
theorem dX3_leftAtWorst_91 : decode cX3_leftAtWorst 91 = .ok (.invokestatic 187, 3) := by decide +kernel
theorem dX3_leftAtWorst_94 : decode cX3_leftAtWorst 94 = .ok (.iload 4, 2) := by decide +kernel
theorem dX3_leftAtWorst_96 : decode cX3_leftAtWorst 96 = .ok (.isub, 1) := by decide +kernel
theorem dX3_leftAtWorst_97 : decode cX3_leftAtWorst 97 = .ok (.invokestatic 236, 3) := by decide +kernel
theorem dX3_leftAtWorst_100 : decode cX3_leftAtWorst 100 = .ok (.ireturn, 1) := by decide +kernel
theorem dX3_letCreep_0 : decode cX3_letCreep 0 = .ok (.aload_n 0, 1) := by decide +kernel
theorem dX3_letCreep_1 : decode cX3_letCreep 1 = .ok (.getfield 26, 3) := by decide +kernel
theorem dX3_letCreep_4 : decode cX3_letCreep 4 = .ok (.getfield 77, 3) := by decide +kernel
theorem dX3_letCreep_7 : decode cX3_letCreep 7 = .ok (.aload_n 0, 1) := by decide +kernel
theorem dX3_letCreep_8 : decode cX3_letCreep 8 = .ok (.getfield 33, 3) := by decide +kernel
theorem dX3_letCreep_11 : decode cX3_letCreep 11 = .ok (.invokestatic 133, 3) := by decide +kernel
theorem dX3_letCreep_14 : decode cX3_letCreep 14 = .ok (.iload_n 2, 1) := by decide +kernel
theorem dX3_letCreep_15 : decode cX3_letCreep 15 = .ok (.istore_n 3, 1) := by decide +kernel
theorem dX3_letCreep_16 : decode cX3_letCreep 16 = .ok (.iconst 0, 1) := by decide +kernel
theorem dX3_letCreep_17 : decode cX3_letCreep 17 = .ok (.istore 4, 2) := by decide +kernel
theorem dX3_letCreep_19 : decode cX3_letCreep 19 = .ok (.iload 4, 2) := by decide +kernel
theorem dX3_letCreep_21 : decode cX3_letCreep 21 = .ok (.iload_n 1, 1) := by decide +kernel
theorem dX3_letCreep_22 : decode cX3_letCreep 22 = .ok (.if_icmp .ge 62, 3) := by decide +kernel
theorem dX3_letCreep_25 : decode cX3_letCreep 25 = .ok (.iconst 0, 1) := by decide +kernel
theorem dX3_letCreep_26 : decode cX3_letCreep 26 = .ok (.istore 5, 2) := by decide +kernel
theorem dX3_letCreep_28 : decode cX3_letCreep 28 = .ok (.iload 5, 2) := by decide +kernel
theorem dX3_letCreep_30 : decode cX3_letCreep 30 = .ok (.iconst 5, 1) := by decide +kernel
theorem dX3_letCreep_31 : decode cX3_letCreep 31 = .ok (.if_icmp .ge 47, 3) := by decide +kernel
theorem dX3_letCreep_34 : decode cX3_letCreep 34 = .ok (.iload_n 3, 1) := by decide +kernel
theorem dX3_letCreep_35 : decode cX3_letCreep 35 = .ok (.invokestatic 239, 3) := by decide +kernel
theorem dX3_letCreep_38 : decode cX3_letCreep 38 = .ok (.istore_n 3, 1) := by decide +kernel
theorem dX3_letCreep_39 : decode cX3_letCreep 39 = .ok (.iload_n 3, 1) := by decide +kernel
theorem dX3_letCreep_40 : decode cX3_letCreep 40 = .ok (.bipush 16, 2) := by decide +kernel
theorem dX3_letCreep_42 : decode cX3_letCreep 42 = .ok (.ishr, 1) := by decide +kernel
theorem dX3_letCreep_43 : decode cX3_letCreep 43 = .ok (.iconst 3, 1) := by decide +kernel
theorem dX3_letCreep_44 : decode cX3_letCreep 44 = .ok (.irem, 1) := by decide +kernel
theorem dX3_letCreep_45 : decode cX3_letCreep 45 = .ok (.istore 6, 2) := by decide +kernel
theorem dX3_letCreep_47 : decode cX3_letCreep 47 = .ok (.aload_n 0, 1) := by decide +kernel
theorem dX3_letCreep_48 : decode cX3_letCreep 48 = .ok (.getfield 33, 3) := by decide +kernel
theorem dX3_letCreep_51 : decode cX3_letCreep 51 = .ok (.iload 5, 2) := by decide +kernel
theorem dX3_letCreep_53 : decode cX3_letCreep 53 = .ok (.iconst 0, 1) := by decide +kernel
theorem dX3_letCreep_54 : decode cX3_letCreep 54 = .ok (.aload_n 0, 1) := by decide +kernel
theorem dX3_letCreep_55 : decode cX3_letCreep 55 = .ok (.getfield 33, 3) := by decide +kernel
theorem dX3_letCreep_58 : decode cX3_letCreep 58 = .ok (.iload 5, 2) := by decide +kernel
theorem dX3_letCreep_60 : decode cX3_letCreep 60 = .ok (.invokestatic 87, 3) := by decide +kernel
theorem dX3_letCreep_63 : decode cX3_letCreep 63 = .ok (.iload 6, 2) := by decide +kernel
theorem dX3_letCreep_65 : decode cX3_letCreep 65 = .ok (.isub, 1) := by decide +kernel
theorem dX3_letCreep_66 : decode cX3_letCreep 66 = .ok (.invokestatic 236, 3) := by decide +kernel
theorem dX3_letCreep_69 : decode cX3_letCreep 69 = .ok (.invokestatic 66, 3) := by decide +kernel
theorem dX3_letCreep_72 : decode cX3_letCreep 72 = .ok (.iinc 5 1, 3) := by decide +kernel
theorem dX3_letCreep_75 : decode cX3_letCreep 75 = .ok (.goto (-47), 3) := by decide +kernel
theorem dX3_letCreep_78 : decode cX3_letCreep 78 = .ok (.iinc 4 1, 3) := by decide +kernel
theorem dX3_letCreep_81 : decode cX3_letCreep 81 = .ok (.goto (-62), 3) := by decide +kernel
theorem dX3_letCreep_84 : decode cX3_letCreep 84 = .ok (.iload_n 3, 1) := by decide +kernel
theorem dX3_letCreep_85 : decode cX3_letCreep 85 = .ok (.ireturn, 1) := by decide +kernel
theorem dX3_nextSeed_0 : decode cX3_nextSeed 0 = .ok (.ldc 242, 2) := by decide +kernel
theorem dX3_nextSeed_2 : decode cX3_nextSeed 2 = .ok (.iload_n 0, 1) := by decide +kernel
theorem dX3_nextSeed_3 : decode cX3_nextSeed 3 = .ok (.imul, 1) := by decide +kernel
theorem dX3_nextSeed_4 : decode cX3_nextSeed 4 = .ok (.sipush 12345, 3) := by decide +kernel
theorem dX3_nextSeed_7 : decode cX3_nextSeed 7 = .ok (.iadd, 1) := by decide +kernel
theorem dX3_nextSeed_8 : decode cX3_nextSeed 8 = .ok (.ldc 243, 2) := by decide +kernel
theorem dX3_nextSeed_10 : decode cX3_nextSeed 10 = .ok (.iand, 1) := by decide +kernel
theorem dX3_nextSeed_11 : decode cX3_nextSeed 11 = .ok (.ireturn, 1) := by decide +kernel
theorem dX3_kindOf_0 : decode cX3_kindOf 0 = .ok (.iload_n 0, 1) := by decide +kernel
theorem dX3_kindOf_1 : decode cX3_kindOf 1 = .ok (.tableswitch 85 98 112 #[81, 85, 79, 85, 85, 85, 83, 85, 85, 85, 85, 75, 85, 85, 77], 75) := by decide +kernel
theorem dX3_kindOf_76 : decode cX3_kindOf 76 = .ok (.iconst 0, 1) := by decide +kernel
theorem dX3_kindOf_77 : decode cX3_kindOf 77 = .ok (.ireturn, 1) := by decide +kernel
theorem dX3_kindOf_78 : decode cX3_kindOf 78 = .ok (.iconst 1, 1) := by decide +kernel
theorem dX3_kindOf_79 : decode cX3_kindOf 79 = .ok (.ireturn, 1) := by decide +kernel
theorem dX3_kindOf_80 : decode cX3_kindOf 80 = .ok (.iconst 2, 1) := by decide +kernel
theorem dX3_kindOf_81 : decode cX3_kindOf 81 = .ok (.ireturn, 1) := by decide +kernel
theorem dX3_kindOf_82 : decode cX3_kindOf 82 = .ok (.iconst 3, 1) := by decide +kernel
theorem dX3_kindOf_83 : decode cX3_kindOf 83 = .ok (.ireturn, 1) := by decide +kernel
theorem dX3_kindOf_84 : decode cX3_kindOf 84 = .ok (.iconst 4, 1) := by decide +kernel
theorem dX3_kindOf_85 : decode cX3_kindOf 85 = .ok (.ireturn, 1) := by decide +kernel
theorem dX3_kindOf_86 : decode cX3_kindOf 86 = .ok (.iconst (-1), 1) := by decide +kernel
theorem dX3_kindOf_87 : decode cX3_kindOf 87 = .ok (.ireturn, 1) := by decide +kernel
theorem dX3_isOf_0 : decode cX3_isOf 0 = .ok (.iload_n 1, 1) := by decide +kernel
theorem dX3_isOf_1 : decode cX3_isOf 1 = .ok (.ifCond .eq 18, 3) := by decide +kernel
theorem dX3_isOf_4 : decode cX3_isOf 4 = .ok (.iload_n 0, 1) := by decide +kernel
theorem dX3_isOf_5 : decode cX3_isOf 5 = .ok (.iload_n 1, 1) := by decide +kernel
theorem dX3_isOf_6 : decode cX3_isOf 6 = .ok (.if_icmp .eq 13, 3) := by decide +kernel
theorem dX3_isOf_9 : decode cX3_isOf 9 = .ok (.iload_n 1, 1) := by decide +kernel
theorem dX3_isOf_10 : decode cX3_isOf 10 = .ok (.iconst 2, 1) := by decide +kernel
theorem dX3_isOf_11 : decode cX3_isOf 11 = .ok (.if_icmp .ne 12, 3) := by decide +kernel
theorem dX3_isOf_14 : decode cX3_isOf 14 = .ok (.iload_n 0, 1) := by decide +kernel
theorem dX3_isOf_15 : decode cX3_isOf 15 = .ok (.iconst 4, 1) := by decide +kernel
theorem dX3_isOf_16 : decode cX3_isOf 16 = .ok (.if_icmp .ne 7, 3) := by decide +kernel
theorem dX3_isOf_19 : decode cX3_isOf 19 = .ok (.iconst 1, 1) := by decide +kernel
theorem dX3_isOf_20 : decode cX3_isOf 20 = .ok (.goto 4, 3) := by decide +kernel
theorem dX3_isOf_23 : decode cX3_isOf 23 = .ok (.iconst 0, 1) := by decide +kernel
theorem dX3_isOf_24 : decode cX3_isOf 24 = .ok (.ireturn, 1) := by decide +kernel
theorem dX3_at_0 : decode cX3_at 0 = .ok (.aload_n 0, 1) := by decide +kernel
theorem dX3_at_1 : decode cX3_at 1 = .ok (.ifnull 19, 3) := by decide +kernel
theorem dX3_at_4 : decode cX3_at 4 = .ok (.iload_n 1, 1) := by decide +kernel
theorem dX3_at_5 : decode cX3_at 5 = .ok (.ifCond .lt 15, 3) := by decide +kernel
theorem dX3_at_8 : decode cX3_at 8 = .ok (.iload_n 1, 1) := by decide +kernel
theorem dX3_at_9 : decode cX3_at 9 = .ok (.aload_n 0, 1) := by decide +kernel
theorem dX3_at_10 : decode cX3_at 10 = .ok (.arraylength, 1) := by decide +kernel
theorem dX3_at_11 : decode cX3_at 11 = .ok (.if_icmp .ge 9, 3) := by decide +kernel
theorem dX3_at_14 : decode cX3_at 14 = .ok (.aload_n 0, 1) := by decide +kernel
theorem dX3_at_15 : decode cX3_at 15 = .ok (.iload_n 1, 1) := by decide +kernel
theorem dX3_at_16 : decode cX3_at 16 = .ok (.iaload, 1) := by decide +kernel
theorem dX3_at_17 : decode cX3_at 17 = .ok (.goto 4, 3) := by decide +kernel
theorem dX3_at_20 : decode cX3_at 20 = .ok (.iconst 0, 1) := by decide +kernel
theorem dX3_at_21 : decode cX3_at 21 = .ok (.ireturn, 1) := by decide +kernel
theorem dX3_put_0 : decode cX3_put 0 = .ok (.aload_n 0, 1) := by decide +kernel
theorem dX3_put_1 : decode cX3_put 1 = .ok (.ifnull 17, 3) := by decide +kernel
theorem dX3_put_4 : decode cX3_put 4 = .ok (.iload_n 1, 1) := by decide +kernel
theorem dX3_put_5 : decode cX3_put 5 = .ok (.ifCond .lt 13, 3) := by decide +kernel
theorem dX3_put_8 : decode cX3_put 8 = .ok (.iload_n 1, 1) := by decide +kernel
theorem dX3_put_9 : decode cX3_put 9 = .ok (.aload_n 0, 1) := by decide +kernel
theorem dX3_put_10 : decode cX3_put 10 = .ok (.arraylength, 1) := by decide +kernel
theorem dX3_put_11 : decode cX3_put 11 = .ok (.if_icmp .ge 7, 3) := by decide +kernel
theorem dX3_put_14 : decode cX3_put 14 = .ok (.aload_n 0, 1) := by decide +kernel
theorem dX3_put_15 : decode cX3_put 15 = .ok (.iload_n 1, 1) := by decide +kernel
theorem dX3_put_16 : decode cX3_put 16 = .ok (.iload_n 2, 1) := by decide +kernel
theorem dX3_put_17 : decode cX3_put 17 = .ok (.iastore, 1) := by decide +kernel
theorem dX3_put_18 : decode cX3_put 18 = .ok (.return_, 1) := by decide +kernel
theorem dX3_copy_0 : decode cX3_copy 0 = .ok (.iconst 0, 1) := by decide +kernel
theorem dX3_copy_1 : decode cX3_copy 1 = .ok (.istore_n 2, 1) := by decide +kernel
theorem dX3_copy_2 : decode cX3_copy 2 = .ok (.aload_n 1, 1) := by decide +kernel
theorem dX3_copy_3 : decode cX3_copy 3 = .ok (.ifnull 25, 3) := by decide +kernel
theorem dX3_copy_6 : decode cX3_copy 6 = .ok (.iload_n 2, 1) := by decide +kernel
theorem dX3_copy_7 : decode cX3_copy 7 = .ok (.aload_n 1, 1) := by decide +kernel
theorem dX3_copy_8 : decode cX3_copy 8 = .ok (.arraylength, 1) := by decide +kernel
theorem dX3_copy_9 : decode cX3_copy 9 = .ok (.if_icmp .ge 19, 3) := by decide +kernel
theorem dX3_copy_12 : decode cX3_copy 12 = .ok (.aload_n 1, 1) := by decide +kernel
theorem dX3_copy_13 : decode cX3_copy 13 = .ok (.iload_n 2, 1) := by decide +kernel
theorem dX3_copy_14 : decode cX3_copy 14 = .ok (.aload_n 0, 1) := by decide +kernel
theorem dX3_copy_15 : decode cX3_copy 15 = .ok (.iload_n 2, 1) := by decide +kernel
theorem dX3_copy_16 : decode cX3_copy 16 = .ok (.invokestatic 87, 3) := by decide +kernel
theorem dX3_copy_19 : decode cX3_copy 19 = .ok (.invokestatic 66, 3) := by decide +kernel
theorem dX3_copy_22 : decode cX3_copy 22 = .ok (.iinc 2 1, 3) := by decide +kernel
theorem dX3_copy_25 : decode cX3_copy 25 = .ok (.goto (-23), 3) := by decide +kernel
theorem dX3_copy_28 : decode cX3_copy 28 = .ok (.return_, 1) := by decide +kernel
theorem dX3_sum_0 : decode cX3_sum 0 = .ok (.iconst 0, 1) := by decide +kernel
theorem dX3_sum_1 : decode cX3_sum 1 = .ok (.istore_n 1, 1) := by decide +kernel
theorem dX3_sum_2 : decode cX3_sum 2 = .ok (.iconst 0, 1) := by decide +kernel
theorem dX3_sum_3 : decode cX3_sum 3 = .ok (.istore_n 2, 1) := by decide +kernel
theorem dX3_sum_4 : decode cX3_sum 4 = .ok (.aload_n 0, 1) := by decide +kernel
theorem dX3_sum_5 : decode cX3_sum 5 = .ok (.ifnull 21, 3) := by decide +kernel
theorem dX3_sum_8 : decode cX3_sum 8 = .ok (.iload_n 2, 1) := by decide +kernel
theorem dX3_sum_9 : decode cX3_sum 9 = .ok (.aload_n 0, 1) := by decide +kernel
theorem dX3_sum_10 : decode cX3_sum 10 = .ok (.arraylength, 1) := by decide +kernel
theorem dX3_sum_11 : decode cX3_sum 11 = .ok (.if_icmp .ge 15, 3) := by decide +kernel
theorem dX3_sum_14 : decode cX3_sum 14 = .ok (.iload_n 1, 1) := by decide +kernel
theorem dX3_sum_15 : decode cX3_sum 15 = .ok (.aload_n 0, 1) := by decide +kernel
theorem dX3_sum_16 : decode cX3_sum 16 = .ok (.iload_n 2, 1) := by decide +kernel
theorem dX3_sum_17 : decode cX3_sum 17 = .ok (.iaload, 1) := by decide +kernel
theorem dX3_sum_18 : decode cX3_sum 18 = .ok (.iadd, 1) := by decide +kernel
theorem dX3_sum_19 : decode cX3_sum 19 = .ok (.istore_n 1, 1) := by decide +kernel
theorem dX3_sum_20 : decode cX3_sum 20 = .ok (.iinc 2 1, 3) := by decide +kernel
theorem dX3_sum_23 : decode cX3_sum 23 = .ok (.goto (-19), 3) := by decide +kernel
theorem dX3_sum_26 : decode cX3_sum 26 = .ok (.iload_n 1, 1) := by decide +kernel
theorem dX3_sum_27 : decode cX3_sum 27 = .ok (.ireturn, 1) := by decide +kernel
