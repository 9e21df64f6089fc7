theorem dX4_init_0 : decode cX4_init 0 = .ok (.aload_n 0, 1) := by decide +kernel
theorem dX4_init_1 : decode cX4_init 1 = .ok (.invokespecial 1, 3) := by decide +kernel
theorem dX4_init_4 : decode cX4_init 4 = .ok (.aload_n 0, 1) := by decide +kernel
theorem dX4_init_5 : decode cX4_init 5 = .ok (.bipush 15, 2) := by decide +kernel
theorem dX4_init_7 : decode cX4_init 7 = .ok (.newarray .int, 2) := by decide +kernel
theorem dX4_init_9 : decode cX4_init 9 = .ok (.putfield 7, 3) := by decide +kernel
theorem dX4_init_12 : decode cX4_init 12 = .ok (.aload_n 0, 1) := by decide +kernel
theorem dX4_init_13 : decode cX4_init 13 = .ok (.bipush 6, 2) := by decide +kernel
theorem dX4_init_15 : decode cX4_init 15 = .ok (.newarray .int, 2) := by decide +kernel
theorem dX4_init_17 : decode cX4_init 17 = .ok (.putfield 13, 3) := by decide +kernel
theorem dX4_init_20 : decode cX4_init 20 = .ok (.aload_n 0, 1) := by decide +kernel
theorem dX4_init_21 : decode cX4_init 21 = .ok (.bipush 7, 2) := by decide +kernel
theorem dX4_init_23 : decode cX4_init 23 = .ok (.newarray .int, 2) := by decide +kernel
theorem dX4_init_25 : decode cX4_init 25 = .ok (.putfield 16, 3) := by decide +kernel
theorem dX4_init_28 : decode cX4_init 28 = .ok (.aload_n 0, 1) := by decide +kernel
theorem dX4_init_29 : decode cX4_init 29 = .ok (.bipush 7, 2) := by decide +kernel
theorem dX4_init_31 : decode cX4_init 31 = .ok (.newarray .int, 2) := by decide +kernel
theorem dX4_init_33 : decode cX4_init 33 = .ok (.putfield 19, 3) := by decide +kernel
theorem dX4_init_36 : decode cX4_init 36 = .ok (.aload_n 0, 1) := by decide +kernel
theorem dX4_init_37 : decode cX4_init 37 = .ok (.bipush 24, 2) := by decide +kernel
theorem dX4_init_39 : decode cX4_init 39 = .ok (.newarray .int, 2) := by decide +kernel
theorem dX4_init_41 : decode cX4_init 41 = .ok (.putfield 22, 3) := by decide +kernel
theorem dX4_init_44 : decode cX4_init 44 = .ok (.aload_n 0, 1) := by decide +kernel
theorem dX4_init_45 : decode cX4_init 45 = .ok (.bipush 7, 2) := by decide +kernel
theorem dX4_init_47 : decode cX4_init 47 = .ok (.newarray .int, 2) := by decide +kernel
theorem dX4_init_49 : decode cX4_init 49 = .ok (.putfield 25, 3) := by decide +kernel
theorem dX4_init_52 : decode cX4_init 52 = .ok (.aload_n 0, 1) := by decide +kernel
theorem dX4_init_53 : decode cX4_init 53 = .ok (.bipush 7, 2) := by decide +kernel
theorem dX4_init_55 : decode cX4_init 55 = .ok (.newarray .int, 2) := by decide +kernel
theorem dX4_init_57 : decode cX4_init 57 = .ok (.putfield 28, 3) := by decide +kernel
theorem dX4_init_60 : decode cX4_init 60 = .ok (.aload_n 0, 1) := by decide +kernel
theorem dX4_init_61 : decode cX4_init 61 = .ok (.bipush 7, 2) := by decide +kernel
theorem dX4_init_63 : decode cX4_init 63 = .ok (.newarray .int, 2) := by decide +kernel
theorem dX4_init_65 : decode cX4_init 65 = .ok (.putfield 31, 3) := by decide +kernel
theorem dX4_init_68 : decode cX4_init 68 = .ok (.aload_n 0, 1) := by decide +kernel
theorem dX4_init_69 : decode cX4_init 69 = .ok (.bipush 24, 2) := by decide +kernel
theorem dX4_init_71 : decode cX4_init 71 = .ok (.newarray .int, 2) := by decide +kernel
theorem dX4_init_73 : decode cX4_init 73 = .ok (.putfield 34, 3) := by decide +kernel
theorem dX4_init_76 : decode cX4_init 76 = .ok (.aload_n 0, 1) := by decide +kernel
theorem dX4_init_77 : decode cX4_init 77 = .ok (.iconst (-1), 1) := by decide +kernel
theorem dX4_init_78 : decode cX4_init 78 = .ok (.putfield 37, 3) := by decide +kernel
theorem dX4_init_81 : decode cX4_init 81 = .ok (.return_, 1) := by decide +kernel
theorem dX4_in_0 : decode cX4_in 0 = .ok (.lload_n 0, 1) := by decide +kernel
theorem dX4_in_1 : decode cX4_in 1 = .ok (.lload_n 2, 1) := by decide +kernel
theorem dX4_in_2 : decode cX4_in 2 = .ok (.lcmp, 1) := by decide +kernel
theorem dX4_in_3 : decode cX4_in 3 = .ok (.ifCond .lt 14, 3) := by decide +kernel
theorem dX4_in_6 : decode cX4_in 6 = .ok (.lload_n 0, 1) := by decide +kernel
theorem dX4_in_7 : decode cX4_in 7 = .ok (.lload 4, 2) := by decide +kernel
theorem dX4_in_9 : decode cX4_in 9 = .ok (.lcmp, 1) := by decide +kernel
theorem dX4_in_10 : decode cX4_in 10 = .ok (.ifCond .gt 7, 3) := by decide +kernel
theorem dX4_in_13 : decode cX4_in 13 = .ok (.iconst 1, 1) := by decide +kernel
theorem dX4_in_14 : decode cX4_in 14 = .ok (.goto 4, 3) := by decide +kernel
theorem dX4_in_17 : decode cX4_in 17 = .ok (.iconst 0, 1) := by decide +kernel
theorem dX4_in_18 : decode cX4_in 18 = .ok (.ireturn, 1) := by decide +kernel
theorem dX4_copy_0 : decode cX4_copy 0 = .ok (.iconst 0, 1) := by decide +kernel
theorem dX4_copy_1 : decode cX4_copy 1 = .ok (.istore_n 2, 1) := by decide +kernel
theorem dX4_copy_2 : decode cX4_copy 2 = .ok (.iload_n 2, 1) := by decide +kernel
theorem dX4_copy_3 : decode cX4_copy 3 = .ok (.aload_n 0, 1) := by decide +kernel
theorem dX4_copy_4 : decode cX4_copy 4 = .ok (.arraylength, 1) := by decide +kernel
theorem dX4_copy_5 : decode cX4_copy 5 = .ok (.if_icmp .ge 15, 3) := by decide +kernel
theorem dX4_copy_8 : decode cX4_copy 8 = .ok (.aload_n 1, 1) := by decide +kernel
theorem dX4_copy_9 : decode cX4_copy 9 = .ok (.iload_n 2, 1) := by decide +kernel
theorem dX4_copy_10 : decode cX4_copy 10 = .ok (.aload_n 0, 1) := by decide +kernel
theorem dX4_copy_11 : decode cX4_copy 11 = .ok (.iload_n 2, 1) := by decide +kernel
theorem dX4_copy_12 : decode cX4_copy 12 = .ok (.iaload, 1) := by decide +kernel
theorem dX4_copy_13 : decode cX4_copy 13 = .ok (.iastore, 1) := by decide +kernel
theorem dX4_copy_14 : decode cX4_copy 14 = .ok (.iinc 2 1, 3) := by decide +kernel
theorem dX4_copy_17 : decode cX4_copy 17 = .ok (.goto (-15), 3) := by decide +kernel
theorem dX4_copy_20 : decode cX4_copy 20 = .ok (.return_, 1) := by decide +kernel
theorem dX4_ones_0 : decode cX4_ones 0 = .ok (.iconst 0, 1) := by decide +kernel
theorem dX4_ones_1 : decode cX4_ones 1 = .ok (.istore_n 1, 1) := by decide +kernel
theorem dX4_ones_2 : decode cX4_ones 2 = .ok (.iconst 0, 1) := by decide +kernel
theorem dX4_ones_3 : decode cX4_ones 3 = .ok (.istore_n 2, 1) := by decide +kernel
theorem dX4_ones_4 : decode cX4_ones 4 = .ok (.iload_n 2, 1) := by decide +kernel
theorem dX4_ones_5 : decode cX4_ones 5 = .ok (.bipush 6, 2) := by decide +kernel
theorem dX4_ones_7 : decode cX4_ones 7 = .ok (.if_icmp .ge 17, 3) := by decide +kernel
theorem dX4_ones_10 : decode cX4_ones 10 = .ok (.iload_n 1, 1) := by decide +kernel
theorem dX4_ones_11 : decode cX4_ones 11 = .ok (.iload_n 0, 1) := by decide +kernel
theorem dX4_ones_12 : decode cX4_ones 12 = .ok (.iload_n 2, 1) := by decide +kernel
theorem dX4_ones_13 : decode cX4_ones 13 = .ok (.ishr, 1) := by decide +kernel
theorem dX4_ones_14 : decode cX4_ones 14 = .ok (.iconst 1, 1) := by decide +kernel
theorem dX4_ones_15 : decode cX4_ones 15 = .ok (.iand, 1) := by decide +kernel
theorem dX4_ones_16 : decode cX4_ones 16 = .ok (.iadd, 1) := by decide +kernel
theorem dX4_ones_17 : decode cX4_ones 17 = .ok (.istore_n 1, 1) := by decide +kernel
theorem dX4_ones_18 : decode cX4_ones 18 = .ok (.iinc 2 1, 3) := by decide +kernel
theorem dX4_ones_21 : decode cX4_ones 21 = .ok (.goto (-17), 3) := by decide +kernel
theorem dX4_ones_24 : decode cX4_ones 24 = .ok (.iload_n 1, 1) := by decide +kernel
theorem dX4_ones_25 : decode cX4_ones 25 = .ok (.ireturn, 1) := by decide +kernel
theorem dX4_letter_0 : decode cX4_letter 0 = .ok (.iload_n 1, 1) := by decide +kernel
theorem dX4_letter_1 : decode cX4_letter 1 = .ok (.i2l, 1) := by decide +kernel
theorem dX4_letter_2 : decode cX4_letter 2 = .ok (.lconst 1, 1) := by decide +kernel
theorem dX4_letter_3 : decode cX4_letter 3 = .ok (.ldc2_w 41, 3) := by decide +kernel
theorem dX4_letter_6 : decode cX4_letter 6 = .ok (.invokestatic 43, 3) := by decide +kernel
theorem dX4_letter_9 : decode cX4_letter 9 = .ok (.ifCond .ne 6, 3) := by decide +kernel
theorem dX4_letter_12 : decode cX4_letter 12 = .ok (.bipush (-102), 2) := by decide +kernel
theorem dX4_letter_14 : decode cX4_letter 14 = .ok (.ireturn, 1) := by decide +kernel
theorem dX4_letter_15 : decode cX4_letter 15 = .ok (.aload_n 0, 1) := by decide +kernel
theorem dX4_letter_16 : decode cX4_letter 16 = .ok (.getfield 47, 3) := by decide +kernel
theorem dX4_letter_19 : decode cX4_letter 19 = .ok (.bipush 15, 2) := by decide +kernel
theorem dX4_letter_21 : decode cX4_letter 21 = .ok (.if_icmp .ne 6, 3) := by decide +kernel
theorem dX4_letter_24 : decode cX4_letter 24 = .ok (.bipush (-104), 2) := by decide +kernel
theorem dX4_letter_26 : decode cX4_letter 26 = .ok (.ireturn, 1) := by decide +kernel
theorem dX4_letter_27 : decode cX4_letter 27 = .ok (.aload_n 0, 1) := by decide +kernel
theorem dX4_letter_28 : decode cX4_letter 28 = .ok (.getfield 7, 3) := by decide +kernel
theorem dX4_letter_31 : decode cX4_letter 31 = .ok (.aload_n 0, 1) := by decide +kernel
theorem dX4_letter_32 : decode cX4_letter 32 = .ok (.getfield 47, 3) := by decide +kernel
theorem dX4_letter_35 : decode cX4_letter 35 = .ok (.iload_n 1, 1) := by decide +kernel
theorem dX4_letter_36 : decode cX4_letter 36 = .ok (.iastore, 1) := by decide +kernel
theorem dX4_letter_37 : decode cX4_letter 37 = .ok (.aload_n 0, 1) := by decide +kernel
theorem dX4_letter_38 : decode cX4_letter 38 = .ok (.dup, 1) := by decide +kernel
theorem dX4_letter_39 : decode cX4_letter 39 = .ok (.getfield 47, 3) := by decide +kernel
theorem dX4_letter_42 : decode cX4_letter 42 = .ok (.iconst 1, 1) := by decide +kernel
theorem dX4_letter_43 : decode cX4_letter 43 = .ok (.iadd, 1) := by decide +kernel
theorem dX4_letter_44 : decode cX4_letter 44 = .ok (.putfield 47, 3) := by decide +kernel
theorem dX4_letter_47 : decode cX4_letter 47 = .ok (.aload_n 0, 1) := by decide +kernel
theorem dX4_letter_48 : decode cX4_letter 48 = .ok (.getfield 47, 3) := by decide +kernel
theorem dX4_letter_51 : decode cX4_letter 51 = .ok (.ireturn, 1) := by decide +kernel
theorem dX4_blank_0 : decode cX4_blank 0 = .ok (.aload_n 0, 1) := by decide +kernel
theorem dX4_blank_1 : decode cX4_blank 1 = .ok (.getfield 47, 3) := by decide +kernel
theorem dX4_blank_4 : decode cX4_blank 4 = .ok (.istore_n 1, 1) := by decide +kernel
theorem dX4_blank_5 : decode cX4_blank 5 = .ok (.aload_n 0, 1) := by decide +kernel
theorem dX4_blank_6 : decode cX4_blank 6 = .ok (.iconst 0, 1) := by decide +kernel
theorem dX4_blank_7 : decode cX4_blank 7 = .ok (.putfield 47, 3) := by decide +kernel
theorem dX4_blank_10 : decode cX4_blank 10 = .ok (.iload_n 1, 1) := by decide +kernel
theorem dX4_blank_11 : decode cX4_blank 11 = .ok (.ireturn, 1) := by decide +kernel
theorem dX4_kindBy_0 : decode cX4_kindBy 0 = .ok (.iload_n 0, 1) := by decide +kernel
theorem dX4_kindBy_1 : decode cX4_kindBy 1 = .ok (.bipush 109, 2) := by decide +kernel
theorem dX4_kindBy_3 : decode cX4_kindBy 3 = .ok (.if_icmp .ne 7, 3) := by decide +kernel
theorem dX4_kindBy_6 : decode cX4_kindBy 6 = .ok (.iconst 0, 1) := by decide +kernel
theorem dX4_kindBy_7 : decode cX4_kindBy 7 = .ok (.goto 44, 3) := by decide +kernel
theorem dX4_kindBy_10 : decode cX4_kindBy 10 = .ok (.iload_n 0, 1) := by decide +kernel
theorem dX4_kindBy_11 : decode cX4_kindBy 11 = .ok (.bipush 112, 2) := by decide +kernel
theorem dX4_kindBy_13 : decode cX4_kindBy 13 = .ok (.if_icmp .ne 7, 3) := by decide +kernel
theorem dX4_kindBy_16 : decode cX4_kindBy 16 = .ok (.iconst 1, 1) := by decide +kernel
theorem dX4_kindBy_17 : decode cX4_kindBy 17 = .ok (.goto 34, 3) := by decide +kernel
theorem dX4_kindBy_20 : decode cX4_kindBy 20 = .ok (.iload_n 0, 1) := by decide +kernel
theorem dX4_kindBy_21 : decode cX4_kindBy 21 = .ok (.bipush 100, 2) := by decide +kernel
theorem dX4_kindBy_23 : decode cX4_kindBy 23 = .ok (.if_icmp .ne 7, 3) := by decide +kernel
theorem dX4_kindBy_26 : decode cX4_kindBy 26 = .ok (.iconst 2, 1) := by decide +kernel
theorem dX4_kindBy_27 : decode cX4_kindBy 27 = .ok (.goto 24, 3) := by decide +kernel
theorem dX4_kindBy_30 : decode cX4_kindBy 30 = .ok (.iload_n 0, 1) := by decide +kernel
theorem dX4_kindBy_31 : decode cX4_kindBy 31 = .ok (.bipush 98, 2) := by decide +kernel
theorem dX4_kindBy_33 : decode cX4_kindBy 33 = .ok (.if_icmp .ne 7, 3) := by decide +kernel
theorem dX4_kindBy_36 : decode cX4_kindBy 36 = .ok (.iconst 3, 1) := by decide +kernel
theorem dX4_kindBy_37 : decode cX4_kindBy 37 = .ok (.goto 14, 3) := by decide +kernel
theorem dX4_kindBy_40 : decode cX4_kindBy 40 = .ok (.iload_n 0, 1) := by decide +kernel
theorem dX4_kindBy_41 : decode cX4_kindBy 41 = .ok (.bipush 104, 2) := by decide +kernel
theorem dX4_kindBy_43 : decode cX4_kindBy 43 = .ok (.if_icmp .ne 7, 3) := by decide +kernel
theorem dX4_kindBy_46 : decode cX4_kindBy 46 = .ok (.iconst 4, 1) := by decide +kernel
theorem dX4_kindBy_47 : decode cX4_kindBy 47 = .ok (.goto 4, 3) := by decide +kernel
theorem dX4_kindBy_50 : decode cX4_kindBy 50 = .ok (.iconst (-1), 1) := by decide +kernel
theorem dX4_kindBy_51 : decode cX4_kindBy 51 = .ok (.ireturn, 1) := by decide +kernel
theorem dX4_isGood_0 : decode cX4_isGood 0 = .ok (.aload_n 0, 1) := by decide +kernel
theorem dX4_isGood_1 : decode cX4_isGood 1 = .ok (.getfield 7, 3) := by decide +kernel
theorem dX4_isGood_4 : decode cX4_isGood 4 = .ok (.iload_n 1, 1) := by decide +kernel
theorem dX4_isGood_5 : decode cX4_isGood 5 = .ok (.iaload, 1) := by decide +kernel
theorem dX4_isGood_6 : decode cX4_isGood 6 = .ok (.istore_n 2, 1) := by decide +kernel
theorem dX4_isGood_7 : decode cX4_isGood 7 = .ok (.aload_n 0, 1) := by decide +kernel
theorem dX4_isGood_8 : decode cX4_isGood 8 = .ok (.getfield 50, 3) := by decide +kernel
theorem dX4_isGood_11 : decode cX4_isGood 11 = .ok (.iconst (-1), 1) := by decide +kernel
theorem dX4_isGood_12 : decode cX4_isGood 12 = .ok (.if_icmp .eq 34, 3) := by decide +kernel
theorem dX4_isGood_15 : decode cX4_isGood 15 = .ok (.iload_n 1, 1) := by decide +kernel
theorem dX4_isGood_16 : decode cX4_isGood 16 = .ok (.aload_n 0, 1) := by decide +kernel
theorem dX4_isGood_17 : decode cX4_isGood 17 = .ok (.getfield 50, 3) := by decide +kernel
theorem dX4_isGood_20 : decode cX4_isGood 20 = .ok (.bipush 6, 2) := by decide +kernel
theorem dX4_isGood_22 : decode cX4_isGood 22 = .ok (.iadd, 1) := by decide +kernel
theorem dX4_isGood_23 : decode cX4_isGood 23 = .ok (.if_icmp .ge 21, 3) := by decide +kernel
theorem dX4_isGood_26 : decode cX4_isGood 26 = .ok (.iload_n 2, 1) := by decide +kernel
theorem dX4_isGood_27 : decode cX4_isGood 27 = .ok (.i2l, 1) := by decide +kernel
theorem dX4_isGood_28 : decode cX4_isGood 28 = .ok (.ldc2_w 53, 3) := by decide +kernel
theorem dX4_isGood_31 : decode cX4_isGood 31 = .ok (.ldc2_w 55, 3) := by decide +kernel
theorem dX4_isGood_34 : decode cX4_isGood 34 = .ok (.invokestatic 43, 3) := by decide +kernel
theorem dX4_isGood_37 : decode cX4_isGood 37 = .ok (.ifCond .eq 7, 3) := by decide +kernel
theorem dX4_isGood_40 : decode cX4_isGood 40 = .ok (.iconst 1, 1) := by decide +kernel
theorem dX4_isGood_41 : decode cX4_isGood 41 = .ok (.goto 4, 3) := by decide +kernel
theorem dX4_isGood_44 : decode cX4_isGood 44 = .ok (.iconst 0, 1) := by decide +kernel
theorem dX4_isGood_45 : decode cX4_isGood 45 = .ok (.ireturn, 1) := by decide +kernel
theorem dX4_isGood_46 : decode cX4_isGood 46 = .ok (.iload_n 2, 1) := by decide +kernel
theorem dX4_isGood_47 : decode cX4_isGood 47 = .ok (.bipush 59, 2) := by decide +kernel
theorem dX4_isGood_49 : decode cX4_isGood 49 = .ok (.if_icmp .ne 15, 3) := by decide +kernel
theorem dX4_isGood_52 : decode cX4_isGood 52 = .ok (.iload_n 1, 1) := by decide +kernel
theorem dX4_isGood_53 : decode cX4_isGood 53 = .ok (.iconst 1, 1) := by decide +kernel
theorem dX4_isGood_54 : decode cX4_isGood 54 = .ok (.if_icmp .le 10, 3) := by decide +kernel
theorem dX4_isGood_57 : decode cX4_isGood 57 = .ok (.aload_n 0, 1) := by decide +kernel
theorem dX4_isGood_58 : decode cX4_isGood 58 = .ok (.iload_n 1, 1) := by decide +kernel
theorem dX4_isGood_59 : decode cX4_isGood 59 = .ok (.putfield 50, 3) := by decide +kernel
theorem dX4_isGood_62 : decode cX4_isGood 62 = .ok (.iconst 1, 1) := by decide +kernel
theorem dX4_isGood_63 : decode cX4_isGood 63 = .ok (.ireturn, 1) := by decide +kernel
theorem dX4_isGood_64 : decode cX4_isGood 64 = .ok (.iload_n 1, 1) := by decide +kernel
theorem dX4_isGood_65 : decode cX4_isGood 65 = .ok (.bipush 6, 2) := by decide +kernel
theorem dX4_isGood_67 : decode cX4_isGood 67 = .ok (.if_icmp .ge 15, 3) := by decide +kernel
theorem dX4_isGood_70 : decode cX4_isGood 70 = .ok (.iload_n 2, 1) := by decide +kernel
theorem dX4_isGood_71 : decode cX4_isGood 71 = .ok (.invokestatic 57, 3) := by decide +kernel
theorem dX4_isGood_74 : decode cX4_isGood 74 = .ok (.iconst (-1), 1) := by decide +kernel
theorem dX4_isGood_75 : decode cX4_isGood 75 = .ok (.if_icmp .eq 7, 3) := by decide +kernel
theorem dX4_isGood_78 : decode cX4_isGood 78 = .ok (.iconst 1, 1) := by decide +kernel
theorem dX4_isGood_79 : decode cX4_isGood 79 = .ok (.goto 4, 3) := by decide +kernel
theorem dX4_isGood_82 : decode cX4_isGood 82 = .ok (.iconst 0, 1) := by decide +kernel
theorem dX4_isGood_83 : decode cX4_isGood 83 = .ok (.ireturn, 1) := by decide +kernel
theorem dX4_faultOf_0 : decode cX4_faultOf 0 = .ok (.aload_n 0, 1) := by decide +kernel
theorem dX4_faultOf_1 : decode cX4_faultOf 1 = .ok (.iconst (-1), 1) := by decide +kernel
theorem dX4_faultOf_2 : decode cX4_faultOf 2 = .ok (.putfield 50, 3) := by decide +kernel
theorem dX4_faultOf_5 : decode cX4_faultOf 5 = .ok (.iconst 0, 1) := by decide +kernel
theorem dX4_faultOf_6 : decode cX4_faultOf 6 = .ok (.istore_n 1, 1) := by decide +kernel
theorem dX4_faultOf_7 : decode cX4_faultOf 7 = .ok (.iload_n 1, 1) := by decide +kernel
theorem dX4_faultOf_8 : decode cX4_faultOf 8 = .ok (.aload_n 0, 1) := by decide +kernel
theorem dX4_faultOf_9 : decode cX4_faultOf 9 = .ok (.getfield 47, 3) := by decide +kernel
theorem dX4_faultOf_12 : decode cX4_faultOf 12 = .ok (.if_icmp .ge 17, 3) := by decide +kernel
theorem dX4_faultOf_15 : decode cX4_faultOf 15 = .ok (.aload_n 0, 1) := by decide +kernel
theorem dX4_faultOf_16 : decode cX4_faultOf 16 = .ok (.iload_n 1, 1) := by decide +kernel
theorem dX4_faultOf_17 : decode cX4_faultOf 17 = .ok (.invokevirtual 61, 3) := by decide +kernel
theorem dX4_faultOf_20 : decode cX4_faultOf 20 = .ok (.ifCond .eq 9, 3) := by decide +kernel
theorem dX4_faultOf_23 : decode cX4_faultOf 23 = .ok (.iinc 1 1, 3) := by decide +kernel
theorem dX4_faultOf_26 : decode cX4_faultOf 26 = .ok (.goto (-19), 3) := by decide +kernel
theorem dX4_faultOf_29 : decode cX4_faultOf 29 = .ok (.iload_n 1, 1) := by decide +kernel
theorem dX4_faultOf_30 : decode cX4_faultOf 30 = .ok (.ireturn, 1) := by decide +kernel
theorem dX4_fault_0 : decode cX4_fault 0 = .ok (.aload_n 0, 1) := by decide +kernel
theorem dX4_fault_1 : decode cX4_fault 1 = .ok (.invokevirtual 65, 3) := by decide +kernel
theorem dX4_fault_4 : decode cX4_fault 4 = .ok (.ireturn, 1) := by decide +kernel
theorem dX4_camp_0 : decode cX4_camp 0 = .ok (.aload_n 0, 1) := by decide +kernel
theorem dX4_camp_1 : decode cX4_camp 1 = .ok (.invokevirtual 65, 3) := by decide +kernel
theorem dX4_camp_4 : decode cX4_camp 4 = .ok (.aload_n 0, 1) := by decide +kernel
theorem dX4_camp_5 : decode cX4_camp 5 = .ok (.getfield 47, 3) := by decide +kernel
theorem dX4_camp_8 : decode cX4_camp 8 = .ok (.if_icmp .lt 25, 3) := by decide +kernel
theorem dX4_camp_11 : decode cX4_camp 11 = .ok (.aload_n 0, 1) := by decide +kernel
theorem dX4_camp_12 : decode cX4_camp 12 = .ok (.getfield 50, 3) := by decide +kernel
theorem dX4_camp_15 : decode cX4_camp 15 = .ok (.iconst (-1), 1) := by decide +kernel
theorem dX4_camp_16 : decode cX4_camp 16 = .ok (.if_icmp .eq 17, 3) := by decide +kernel
theorem dX4_camp_19 : decode cX4_camp 19 = .ok (.aload_n 0, 1) := by decide +kernel
theorem dX4_camp_20 : decode cX4_camp 20 = .ok (.getfield 47, 3) := by decide +kernel
theorem dX4_camp_23 : decode cX4_camp 23 = .ok (.aload_n 0, 1) := by decide +kernel
theorem dX4_camp_24 : decode cX4_camp 24 = .ok (.getfield 50, 3) := by decide +kernel
theorem dX4_camp_27 : decode cX4_camp 27 = .ok (.bipush 6, 2) := by decide +kernel
theorem dX4_camp_29 : decode cX4_camp 29 = .ok (.iadd, 1) := by decide +kernel
theorem dX4_camp_30 : decode cX4_camp 30 = .ok (.if_icmp .eq 6, 3) := by decide +kernel
theorem dX4_camp_33 : decode cX4_camp 33 = .ok (.bipush (-103), 2) := by decide +kernel
theorem dX4_camp_35 : decode cX4_camp 35 = .ok (.ireturn, 1) := by decide +kernel
theorem dX4_camp_36 : decode cX4_camp 36 = .ok (.aload_n 0, 1) := by decide +kernel
theorem dX4_camp_37 : decode cX4_camp 37 = .ok (.aload_n 0, 1) := by decide +kernel
theorem dX4_camp_38 : decode cX4_camp 38 = .ok (.getfield 50, 3) := by decide +kernel
theorem dX4_camp_41 : decode cX4_camp 41 = .ok (.putfield 69, 3) := by decide +kernel
theorem dX4_camp_44 : decode cX4_camp 44 = .ok (.iconst 0, 1) := by decide +kernel
theorem dX4_camp_45 : decode cX4_camp 45 = .ok (.istore_n 1, 1) := by decide +kernel
theorem dX4_camp_46 : decode cX4_camp 46 = .ok (.iload_n 1, 1) := by decide +kernel
theorem dX4_camp_47 : decode cX4_camp 47 = .ok (.aload_n 0, 1) := by decide +kernel
theorem dX4_camp_48 : decode cX4_camp 48 = .ok (.getfield 69, 3) := by decide +kernel
theorem dX4_camp_51 : decode cX4_camp 51 = .ok (.if_icmp .ge 24, 3) := by decide +kernel
theorem dX4_camp_54 : decode cX4_camp 54 = .ok (.aload_n 0, 1) := by decide +kernel
theorem dX4_camp_55 : decode cX4_camp 55 = .ok (.getfield 13, 3) := by decide +kernel
theorem dX4_camp_58 : decode cX4_camp 58 = .ok (.iload_n 1, 1) := by decide +kernel
theorem dX4_camp_59 : decode cX4_camp 59 = .ok (.aload_n 0, 1) := by decide +kernel
theorem dX4_camp_60 : decode cX4_camp 60 = .ok (.getfield 7, 3) := by decide +kernel
theorem dX4_camp_63 : decode cX4_camp 63 = .ok (.iload_n 1, 1) := by decide +kernel
theorem dX4_camp_64 : decode cX4_camp 64 = .ok (.iaload, 1) := by decide +kernel
theorem dX4_camp_65 : decode cX4_camp 65 = .ok (.invokestatic 57, 3) := by decide +kernel
theorem dX4_camp_68 : decode cX4_camp 68 = .ok (.iastore, 1) := by decide +kernel
theorem dX4_camp_69 : decode cX4_camp 69 = .ok (.iinc 1 1, 3) := by decide +kernel
theorem dX4_camp_72 : decode cX4_camp 72 = .ok (.goto (-26), 3) := by decide +kernel
theorem dX4_camp_75 : decode cX4_camp 75 = .ok (.iconst 1, 1) := by decide +kernel
theorem dX4_camp_76 : decode cX4_camp 76 = .ok (.istore_n 1, 1) := by decide +kernel
theorem dX4_camp_77 : decode cX4_camp 77 = .ok (.iload_n 1, 1) := by decide +kernel
theorem dX4_camp_78 : decode cX4_camp 78 = .ok (.bipush 6, 2) := by decide +kernel
theorem dX4_camp_80 : decode cX4_camp 80 = .ok (.if_icmp .ge 29, 3) := by decide +kernel
theorem dX4_camp_83 : decode cX4_camp 83 = .ok (.aload_n 0, 1) := by decide +kernel
theorem dX4_camp_84 : decode cX4_camp 84 = .ok (.getfield 16, 3) := by decide +kernel
theorem dX4_camp_87 : decode cX4_camp 87 = .ok (.iload_n 1, 1) := by decide +kernel
theorem dX4_camp_88 : decode cX4_camp 88 = .ok (.aload_n 0, 1) := by decide +kernel
theorem dX4_camp_89 : decode cX4_camp 89 = .ok (.getfield 7, 3) := by decide +kernel
theorem dX4_camp_92 : decode cX4_camp 92 = .ok (.aload_n 0, 1) := by decide +kernel
theorem dX4_camp_93 : decode cX4_camp 93 = .ok (.getfield 50, 3) := by decide +kernel
theorem dX4_camp_96 : decode cX4_camp 96 = .ok (.iload_n 1, 1) := by decide +kernel
theorem dX4_camp_97 : decode cX4_camp 97 = .ok (.iadd, 1) := by decide +kernel
theorem dX4_camp_98 : decode cX4_camp 98 = .ok (.iaload, 1) := by decide +kernel
theorem dX4_camp_99 : decode cX4_camp 99 = .ok (.bipush 48, 2) := by decide +kernel
theorem dX4_camp_101 : decode cX4_camp 101 = .ok (.isub, 1) := by decide +kernel
theorem dX4_camp_102 : decode cX4_camp 102 = .ok (.iastore, 1) := by decide +kernel
theorem dX4_camp_103 : decode cX4_camp 103 = .ok (.iinc 1 1, 3) := by decide +kernel
theorem dX4_camp_106 : decode cX4_camp 106 = .ok (.goto (-29), 3) := by decide +kernel
theorem dX4_camp_109 : decode cX4_camp 109 = .ok (.aload_n 0, 1) := by decide +kernel
theorem dX4_camp_110 : decode cX4_camp 110 = .ok (.iconst 1, 1) := by decide +kernel
theorem dX4_camp_111 : decode cX4_camp 111 = .ok (.aload_n 0, 1) := by decide +kernel
theorem dX4_camp_112 : decode cX4_camp 112 = .ok (.getfield 69, 3) := by decide +kernel
theorem dX4_camp_115 : decode cX4_camp 115 = .ok (.ishl, 1) := by decide +kernel
theorem dX4_camp_116 : decode cX4_camp 116 = .ok (.iconst 1, 1) := by decide +kernel
theorem dX4_camp_117 : decode cX4_camp 117 = .ok (.isub, 1) := by decide +kernel
theorem dX4_camp_118 : decode cX4_camp 118 = .ok (.putfield 72, 3) := by decide +kernel
theorem dX4_camp_121 : decode cX4_camp 121 = .ok (.aload_n 0, 1) := by decide +kernel
theorem dX4_camp_122 : decode cX4_camp 122 = .ok (.iconst 0, 1) := by decide +kernel
theorem dX4_camp_123 : decode cX4_camp 123 = .ok (.putfield 75, 3) := by decide +kernel
theorem dX4_camp_126 : decode cX4_camp 126 = .ok (.aload_n 0, 1) := by decide +kernel
theorem dX4_camp_127 : decode cX4_camp 127 = .ok (.iconst 0, 1) := by decide +kernel
theorem dX4_camp_128 : decode cX4_camp 128 = .ok (.putfield 78, 3) := by decide +kernel
theorem dX4_camp_131 : decode cX4_camp 131 = .ok (.aload_n 0, 1) := by decide +kernel
theorem dX4_camp_132 : decode cX4_camp 132 = .ok (.iconst 0, 1) := by decide +kernel
theorem dX4_camp_133 : decode cX4_camp 133 = .ok (.putfield 81, 3) := by decide +kernel
theorem dX4_camp_136 : decode cX4_camp 136 = .ok (.aload_n 0, 1) := by decide +kernel
theorem dX4_camp_137 : decode cX4_camp 137 = .ok (.dup, 1) := by decide +kernel
theorem dX4_camp_138 : decode cX4_camp 138 = .ok (.getfield 84, 3) := by decide +kernel
theorem dX4_camp_141 : decode cX4_camp 141 = .ok (.iconst 1, 1) := by decide +kernel
theorem dX4_camp_142 : decode cX4_camp 142 = .ok (.iadd, 1) := by decide +kernel
theorem dX4_camp_143 : decode cX4_camp 143 = .ok (.putfield 84, 3) := by decide +kernel
theorem dX4_camp_146 : decode cX4_camp 146 = .ok (.aload_n 0, 1) := by decide +kernel
theorem dX4_camp_147 : decode cX4_camp 147 = .ok (.iconst 0, 1) := by decide +kernel
theorem dX4_camp_148 : decode cX4_camp 148 = .ok (.putfield 47, 3) := by decide +kernel
theorem dX4_camp_151 : decode cX4_camp 151 = .ok (.aload_n 0, 1) := by decide +kernel
theorem dX4_camp_152 : decode cX4_camp 152 = .ok (.getfield 69, 3) := by decide +kernel
theorem dX4_camp_155 : decode cX4_camp 155 = .ok (.ireturn, 1) := by decide +kernel
theorem dX4_lacks_0 : decode cX4_lacks 0 = .ok (.aload_n 0, 1) := by decide +kernel
theorem dX4_lacks_1 : decode cX4_lacks 1 = .ok (.getfield 69, 3) := by decide +kernel
theorem dX4_lacks_4 : decode cX4_lacks 4 = .ok (.ifCond .ne 7, 3) := by decide +kernel
theorem dX4_lacks_7 : decode cX4_lacks 7 = .ok (.iconst 1, 1) := by decide +kernel
theorem dX4_lacks_8 : decode cX4_lacks 8 = .ok (.goto 4, 3) := by decide +kernel
theorem dX4_lacks_11 : decode cX4_lacks 11 = .ok (.iconst 0, 1) := by decide +kernel
theorem dX4_lacks_12 : decode cX4_lacks 12 = .ok (.ireturn, 1) := by decide +kernel
theorem dX4_isMember_0 : decode cX4_isMember 0 = .ok (.iload_n 1, 1) := by decide +kernel
theorem dX4_isMember_1 : decode cX4_isMember 1 = .ok (.i2l, 1) := by decide +kernel
theorem dX4_isMember_2 : decode cX4_isMember 2 = .ok (.lconst 0, 1) := by decide +kernel
theorem dX4_isMember_3 : decode cX4_isMember 3 = .ok (.aload_n 0, 1) := by decide +kernel
theorem dX4_isMember_4 : decode cX4_isMember 4 = .ok (.getfield 69, 3) := by decide +kernel
theorem dX4_isMember_7 : decode cX4_isMember 7 = .ok (.iconst 1, 1) := by decide +kernel
theorem dX4_isMember_8 : decode cX4_isMember 8 = .ok (.isub, 1) := by decide +kernel
theorem dX4_isMember_9 : decode cX4_isMember 9 = .ok (.i2l, 1) := by decide +kernel
theorem dX4_isMember_10 : decode cX4_isMember 10 = .ok (.invokestatic 43, 3) := by decide +kernel
theorem dX4_isMember_13 : decode cX4_isMember 13 = .ok (.ireturn, 1) := by decide +kernel
theorem dX4_isCairn_0 : decode cX4_isCairn 0 = .ok (.aload_n 0, 1) := by decide +kernel
theorem dX4_isCairn_1 : decode cX4_isCairn 1 = .ok (.invokevirtual 87, 3) := by decide +kernel
theorem dX4_isCairn_4 : decode cX4_isCairn 4 = .ok (.ifCond .ne 19, 3) := by decide +kernel
theorem dX4_isCairn_7 : decode cX4_isCairn 7 = .ok (.iload_n 1, 1) := by decide +kernel
theorem dX4_isCairn_8 : decode cX4_isCairn 8 = .ok (.i2l, 1) := by decide +kernel
theorem dX4_isCairn_9 : decode cX4_isCairn 9 = .ok (.lconst 1, 1) := by decide +kernel
theorem dX4_isCairn_10 : decode cX4_isCairn 10 = .ok (.ldc2_w 91, 3) := by decide +kernel
theorem dX4_isCairn_13 : decode cX4_isCairn 13 = .ok (.invokestatic 43, 3) := by decide +kernel
theorem dX4_isCairn_16 : decode cX4_isCairn 16 = .ok (.ifCond .eq 7, 3) := by decide +kernel
theorem dX4_isCairn_19 : decode cX4_isCairn 19 = .ok (.iconst 1, 1) := by decide +kernel
theorem dX4_isCairn_20 : decode cX4_isCairn 20 = .ok (.goto 4, 3) := by decide +kernel
theorem dX4_isCairn_23 : decode cX4_isCairn 23 = .ok (.iconst 0, 1) := by decide +kernel
theorem dX4_isCairn_24 : decode cX4_isCairn 24 = .ok (.ireturn, 1) := by decide +kernel
theorem dX4_areMembers_0 : decode cX4_areMembers 0 = .ok (.iload_n 1, 1) := by decide +kernel
theorem dX4_areMembers_1 : decode cX4_areMembers 1 = .ok (.i2l, 1) := by decide +kernel
theorem dX4_areMembers_2 : decode cX4_areMembers 2 = .ok (.lconst 1, 1) := by decide +kernel
theorem dX4_areMembers_3 : decode cX4_areMembers 3 = .ok (.iconst 1, 1) := by decide +kernel
theorem dX4_areMembers_4 : decode cX4_areMembers 4 = .ok (.aload_n 0, 1) := by decide +kernel
theorem dX4_areMembers_5 : decode cX4_areMembers 5 = .ok (.getfield 69, 3) := by decide +kernel
theorem dX4_areMembers_8 : decode cX4_areMembers 8 = .ok (.ishl, 1) := by decide +kernel
theorem dX4_areMembers_9 : decode cX4_areMembers 9 = .ok (.iconst 1, 1) := by decide +kernel
theorem dX4_areMembers_10 : decode cX4_areMembers 10 = .ok (.isub, 1) := by decide +kernel
theorem dX4_areMembers_11 : decode cX4_areMembers 11 = .ok (.i2l, 1) := by decide +kernel
theorem dX4_areMembers_12 : decode cX4_areMembers 12 = .ok (.invokestatic 43, 3) := by decide +kernel
theorem dX4_areMembers_15 : decode cX4_areMembers 15 = .ok (.ireturn, 1) := by decide +kernel
theorem dX4_pullsOf_0 : decode cX4_pullsOf 0 = .ok (.aload_n 0, 1) := by decide +kernel
theorem dX4_pullsOf_1 : decode cX4_pullsOf 1 = .ok (.getfield 13, 3) := by decide +kernel
theorem dX4_pullsOf_4 : decode cX4_pullsOf 4 = .ok (.iload_n 1, 1) := by decide +kernel
theorem dX4_pullsOf_5 : decode cX4_pullsOf 5 = .ok (.iaload, 1) := by decide +kernel
theorem dX4_pullsOf_6 : decode cX4_pullsOf 6 = .ok (.iconst 1, 1) := by decide +kernel
theorem dX4_pullsOf_7 : decode cX4_pullsOf 7 = .ok (.if_icmp .ne 8, 3) := by decide +kernel
theorem dX4_pullsOf_10 : decode cX4_pullsOf 10 = .ok (.bipush 8, 2) := by decide +kernel
theorem dX4_pullsOf_12 : decode cX4_pullsOf 12 = .ok (.goto 42, 3) := by decide +kernel
theorem dX4_pullsOf_15 : decode cX4_pullsOf 15 = .ok (.aload_n 0, 1) := by decide +kernel
theorem dX4_pullsOf_16 : decode cX4_pullsOf 16 = .ok (.getfield 13, 3) := by decide +kernel
theorem dX4_pullsOf_19 : decode cX4_pullsOf 19 = .ok (.iload_n 1, 1) := by decide +kernel
theorem dX4_pullsOf_20 : decode cX4_pullsOf 20 = .ok (.iaload, 1) := by decide +kernel
theorem dX4_pullsOf_21 : decode cX4_pullsOf 21 = .ok (.iconst 2, 1) := by decide +kernel
theorem dX4_pullsOf_22 : decode cX4_pullsOf 22 = .ok (.if_icmp .eq 13, 3) := by decide +kernel
theorem dX4_pullsOf_25 : decode cX4_pullsOf 25 = .ok (.aload_n 0, 1) := by decide +kernel
theorem dX4_pullsOf_26 : decode cX4_pullsOf 26 = .ok (.getfield 13, 3) := by decide +kernel
theorem dX4_pullsOf_29 : decode cX4_pullsOf 29 = .ok (.iload_n 1, 1) := by decide +kernel
theorem dX4_pullsOf_30 : decode cX4_pullsOf 30 = .ok (.iaload, 1) := by decide +kernel
theorem dX4_pullsOf_31 : decode cX4_pullsOf 31 = .ok (.iconst 3, 1) := by decide +kernel
theorem dX4_pullsOf_32 : decode cX4_pullsOf 32 = .ok (.if_icmp .ne 7, 3) := by decide +kernel
theorem dX4_pullsOf_35 : decode cX4_pullsOf 35 = .ok (.iconst 2, 1) := by decide +kernel
theorem dX4_pullsOf_36 : decode cX4_pullsOf 36 = .ok (.goto 18, 3) := by decide +kernel
theorem dX4_pullsOf_39 : decode cX4_pullsOf 39 = .ok (.aload_n 0, 1) := by decide +kernel
theorem dX4_pullsOf_40 : decode cX4_pullsOf 40 = .ok (.getfield 13, 3) := by decide +kernel
theorem dX4_pullsOf_43 : decode cX4_pullsOf 43 = .ok (.iload_n 1, 1) := by decide +kernel
theorem dX4_pullsOf_44 : decode cX4_pullsOf 44 = .ok (.iaload, 1) := by decide +kernel
theorem dX4_pullsOf_45 : decode cX4_pullsOf 45 = .ok (.iconst 4, 1) := by decide +kernel
theorem dX4_pullsOf_46 : decode cX4_pullsOf 46 = .ok (.if_icmp .ne 7, 3) := by decide +kernel
theorem dX4_pullsOf_49 : decode cX4_pullsOf 49 = .ok (.iconst 3, 1) := by decide +kernel
theorem dX4_pullsOf_50 : decode cX4_pullsOf 50 = .ok (.goto 4, 3) := by decide +kernel
theorem dX4_pullsOf_53 : decode cX4_pullsOf 53 = .ok (.iconst 4, 1) := by decide +kernel
theorem dX4_pullsOf_54 : decode cX4_pullsOf 54 = .ok (.ireturn, 1) := by decide +kernel
theorem dX4_eatsOf_0 : decode cX4_eatsOf 0 = .ok (.aload_n 0, 1) := by decide +kernel
theorem dX4_eatsOf_1 : decode cX4_eatsOf 1 = .ok (.getfield 13, 3) := by decide +kernel
theorem dX4_eatsOf_4 : decode cX4_eatsOf 4 = .ok (.iload_n 1, 1) := by decide +kernel
theorem dX4_eatsOf_5 : decode cX4_eatsOf 5 = .ok (.iaload, 1) := by decide +kernel
theorem dX4_eatsOf_6 : decode cX4_eatsOf 6 = .ok (.iconst 1, 1) := by decide +kernel
theorem dX4_eatsOf_7 : decode cX4_eatsOf 7 = .ok (.if_icmp .ne 7, 3) := by decide +kernel
theorem dX4_eatsOf_10 : decode cX4_eatsOf 10 = .ok (.iconst 2, 1) := by decide +kernel
theorem dX4_eatsOf_11 : decode cX4_eatsOf 11 = .ok (.goto 4, 3) := by decide +kernel
theorem dX4_eatsOf_14 : decode cX4_eatsOf 14 = .ok (.iconst 1, 1) := by decide +kernel
theorem dX4_eatsOf_15 : decode cX4_eatsOf 15 = .ok (.ireturn, 1) := by decide +kernel
theorem dX4_feedsOf_0 : decode cX4_feedsOf 0 = .ok (.aload_n 0, 1) := by decide +kernel
theorem dX4_feedsOf_1 : decode cX4_feedsOf 1 = .ok (.getfield 13, 3) := by decide +kernel
theorem dX4_feedsOf_4 : decode cX4_feedsOf 4 = .ok (.iload_n 1, 1) := by decide +kernel
theorem dX4_feedsOf_5 : decode cX4_feedsOf 5 = .ok (.iaload, 1) := by decide +kernel
theorem dX4_feedsOf_6 : decode cX4_feedsOf 6 = .ok (.iconst 1, 1) := by decide +kernel
theorem dX4_feedsOf_7 : decode cX4_feedsOf 7 = .ok (.if_icmp .ne 8, 3) := by decide +kernel
theorem dX4_feedsOf_10 : decode cX4_feedsOf 10 = .ok (.bipush 6, 2) := by decide +kernel
theorem dX4_feedsOf_12 : decode cX4_feedsOf 12 = .ok (.goto 32, 3) := by decide +kernel
theorem dX4_feedsOf_15 : decode cX4_feedsOf 15 = .ok (.aload_n 0, 1) := by decide +kernel
theorem dX4_feedsOf_16 : decode cX4_feedsOf 16 = .ok (.getfield 13, 3) := by decide +kernel
theorem dX4_feedsOf_19 : decode cX4_feedsOf 19 = .ok (.iload_n 1, 1) := by decide +kernel
theorem dX4_feedsOf_20 : decode cX4_feedsOf 20 = .ok (.iaload, 1) := by decide +kernel
theorem dX4_feedsOf_21 : decode cX4_feedsOf 21 = .ok (.iconst 2, 1) := by decide +kernel
theorem dX4_feedsOf_22 : decode cX4_feedsOf 22 = .ok (.if_icmp .ne 7, 3) := by decide +kernel
theorem dX4_feedsOf_25 : decode cX4_feedsOf 25 = .ok (.iconst 2, 1) := by decide +kernel
theorem dX4_feedsOf_26 : decode cX4_feedsOf 26 = .ok (.goto 18, 3) := by decide +kernel
theorem dX4_feedsOf_29 : decode cX4_feedsOf 29 = .ok (.aload_n 0, 1) := by decide +kernel
theorem dX4_feedsOf_30 : decode cX4_feedsOf 30 = .ok (.getfield 13, 3) := by decide +kernel
theorem dX4_feedsOf_33 : decode cX4_feedsOf 33 = .ok (.iload_n 1, 1) := by decide +kernel
theorem dX4_feedsOf_34 : decode cX4_feedsOf 34 = .ok (.iaload, 1) := by decide +kernel
theorem dX4_feedsOf_35 : decode cX4_feedsOf 35 = .ok (.iconst 4, 1) := by decide +kernel
theorem dX4_feedsOf_36 : decode cX4_feedsOf 36 = .ok (.if_icmp .ne 7, 3) := by decide +kernel
theorem dX4_feedsOf_39 : decode cX4_feedsOf 39 = .ok (.iconst 3, 1) := by decide +kernel
theorem dX4_feedsOf_40 : decode cX4_feedsOf 40 = .ok (.goto 4, 3) := by decide +kernel
theorem dX4_feedsOf_43 : decode cX4_feedsOf 43 = .ok (.iconst 0, 1) := by decide +kernel
theorem dX4_feedsOf_44 : decode cX4_feedsOf 44 = .ok (.ireturn, 1) := by decide +kernel
theorem dX4_pullOf_0 : decode cX4_pullOf 0 = .ok (.iconst 0, 1) := by decide +kernel
theorem dX4_pullOf_1 : decode cX4_pullOf 1 = .ok (.istore_n 2, 1) := by decide +kernel
theorem dX4_pullOf_2 : decode cX4_pullOf 2 = .ok (.iconst 0, 1) := by decide +kernel
theorem dX4_pullOf_3 : decode cX4_pullOf 3 = .ok (.istore_n 3, 1) := by decide +kernel
theorem dX4_pullOf_4 : decode cX4_pullOf 4 = .ok (.iload_n 3, 1) := by decide +kernel
theorem dX4_pullOf_5 : decode cX4_pullOf 5 = .ok (.aload_n 0, 1) := by decide +kernel
theorem dX4_pullOf_6 : decode cX4_pullOf 6 = .ok (.getfield 69, 3) := by decide +kernel
theorem dX4_pullOf_9 : decode cX4_pullOf 9 = .ok (.if_icmp .ge 23, 3) := by decide +kernel
theorem dX4_pullOf_12 : decode cX4_pullOf 12 = .ok (.iload_n 2, 1) := by decide +kernel
theorem dX4_pullOf_13 : decode cX4_pullOf 13 = .ok (.iload_n 1, 1) := by decide +kernel
theorem dX4_pullOf_14 : decode cX4_pullOf 14 = .ok (.iload_n 3, 1) := by decide +kernel
theorem dX4_pullOf_15 : decode cX4_pullOf 15 = .ok (.ishr, 1) := by decide +kernel
theorem dX4_pullOf_16 : decode cX4_pullOf 16 = .ok (.iconst 1, 1) := by decide +kernel
theorem dX4_pullOf_17 : decode cX4_pullOf 17 = .ok (.iand, 1) := by decide +kernel
theorem dX4_pullOf_18 : decode cX4_pullOf 18 = .ok (.aload_n 0, 1) := by decide +kernel
theorem dX4_pullOf_19 : decode cX4_pullOf 19 = .ok (.iload_n 3, 1) := by decide +kernel
theorem dX4_pullOf_20 : decode cX4_pullOf 20 = .ok (.invokevirtual 93, 3) := by decide +kernel
theorem dX4_pullOf_23 : decode cX4_pullOf 23 = .ok (.imul, 1) := by decide +kernel
theorem dX4_pullOf_24 : decode cX4_pullOf 24 = .ok (.iadd, 1) := by decide +kernel
theorem dX4_pullOf_25 : decode cX4_pullOf 25 = .ok (.istore_n 2, 1) := by decide +kernel
theorem dX4_pullOf_26 : decode cX4_pullOf 26 = .ok (.iinc 3 1, 3) := by decide +kernel
theorem dX4_pullOf_29 : decode cX4_pullOf 29 = .ok (.goto (-25), 3) := by decide +kernel
theorem dX4_pullOf_32 : decode cX4_pullOf 32 = .ok (.iload_n 2, 1) := by decide +kernel
theorem dX4_pullOf_33 : decode cX4_pullOf 33 = .ok (.ireturn, 1) := by decide +kernel
theorem dX4_eatOf_0 : decode cX4_eatOf 0 = .ok (.iconst 0, 1) := by decide +kernel
theorem dX4_eatOf_1 : decode cX4_eatOf 1 = .ok (.istore_n 2, 1) := by decide +kernel
theorem dX4_eatOf_2 : decode cX4_eatOf 2 = .ok (.iconst 0, 1) := by decide +kernel
theorem dX4_eatOf_3 : decode cX4_eatOf 3 = .ok (.istore_n 3, 1) := by decide +kernel
theorem dX4_eatOf_4 : decode cX4_eatOf 4 = .ok (.iload_n 3, 1) := by decide +kernel
theorem dX4_eatOf_5 : decode cX4_eatOf 5 = .ok (.aload_n 0, 1) := by decide +kernel
theorem dX4_eatOf_6 : decode cX4_eatOf 6 = .ok (.getfield 69, 3) := by decide +kernel
theorem dX4_eatOf_9 : decode cX4_eatOf 9 = .ok (.if_icmp .ge 23, 3) := by decide +kernel
theorem dX4_eatOf_12 : decode cX4_eatOf 12 = .ok (.iload_n 2, 1) := by decide +kernel
theorem dX4_eatOf_13 : decode cX4_eatOf 13 = .ok (.iload_n 1, 1) := by decide +kernel
theorem dX4_eatOf_14 : decode cX4_eatOf 14 = .ok (.iload_n 3, 1) := by decide +kernel
theorem dX4_eatOf_15 : decode cX4_eatOf 15 = .ok (.ishr, 1) := by decide +kernel
theorem dX4_eatOf_16 : decode cX4_eatOf 16 = .ok (.iconst 1, 1) := by decide +kernel
theorem dX4_eatOf_17 : decode cX4_eatOf 17 = .ok (.iand, 1) := by decide +kernel
theorem dX4_eatOf_18 : decode cX4_eatOf 18 = .ok (.aload_n 0, 1) := by decide +kernel
theorem dX4_eatOf_19 : decode cX4_eatOf 19 = .ok (.iload_n 3, 1) := by decide +kernel
theorem dX4_eatOf_20 : decode cX4_eatOf 20 = .ok (.invokevirtual 96, 3) := by decide +kernel
theorem dX4_eatOf_23 : decode cX4_eatOf 23 = .ok (.imul, 1) := by decide +kernel
theorem dX4_eatOf_24 : decode cX4_eatOf 24 = .ok (.iadd, 1) := by decide +kernel
theorem dX4_eatOf_25 : decode cX4_eatOf 25 = .ok (.istore_n 2, 1) := by decide +kernel
theorem dX4_eatOf_26 : decode cX4_eatOf 26 = .ok (.iinc 3 1, 3) := by decide +kernel
theorem dX4_eatOf_29 : decode cX4_eatOf 29 = .ok (.goto (-25), 3) := by decide +kernel
theorem dX4_eatOf_32 : decode cX4_eatOf 32 = .ok (.iload_n 2, 1) := by decide +kernel
theorem dX4_eatOf_33 : decode cX4_eatOf 33 = .ok (.ireturn, 1) := by decide +kernel
theorem dX4_lastOf_0 : decode cX4_lastOf 0 = .ok (.iconst (-1), 1) := by decide +kernel
theorem dX4_lastOf_1 : decode cX4_lastOf 1 = .ok (.istore_n 3, 1) := by decide +kernel
theorem dX4_lastOf_2 : decode cX4_lastOf 2 = .ok (.iconst 0, 1) := by decide +kernel
theorem dX4_lastOf_3 : decode cX4_lastOf 3 = .ok (.istore 4, 2) := by decide +kernel
theorem dX4_lastOf_5 : decode cX4_lastOf 5 = .ok (.iload 4, 2) := by decide +kernel
theorem dX4_lastOf_7 : decode cX4_lastOf 7 = .ok (.aload_n 0, 1) := by decide +kernel
theorem dX4_lastOf_8 : decode cX4_lastOf 8 = .ok (.getfield 69, 3) := by decide +kernel
theorem dX4_lastOf_11 : decode cX4_lastOf 11 = .ok (.if_icmp .ge 70, 3) := by decide +kernel
theorem dX4_lastOf_14 : decode cX4_lastOf 14 = .ok (.iload_n 2, 1) := by decide +kernel
theorem dX4_lastOf_15 : decode cX4_lastOf 15 = .ok (.ifCond .eq 22, 3) := by decide +kernel
theorem dX4_lastOf_18 : decode cX4_lastOf 18 = .ok (.aload_n 0, 1) := by decide +kernel
theorem dX4_lastOf_19 : decode cX4_lastOf 19 = .ok (.getfield 13, 3) := by decide +kernel
theorem dX4_lastOf_22 : decode cX4_lastOf 22 = .ok (.iload 4, 2) := by decide +kernel
theorem dX4_lastOf_24 : decode cX4_lastOf 24 = .ok (.iaload, 1) := by decide +kernel
theorem dX4_lastOf_25 : decode cX4_lastOf 25 = .ok (.iconst 1, 1) := by decide +kernel
theorem dX4_lastOf_26 : decode cX4_lastOf 26 = .ok (.if_icmp .ne 7, 3) := by decide +kernel
theorem dX4_lastOf_29 : decode cX4_lastOf 29 = .ok (.iconst 1, 1) := by decide +kernel
theorem dX4_lastOf_30 : decode cX4_lastOf 30 = .ok (.goto 21, 3) := by decide +kernel
theorem dX4_lastOf_33 : decode cX4_lastOf 33 = .ok (.iconst 0, 1) := by decide +kernel
theorem dX4_lastOf_34 : decode cX4_lastOf 34 = .ok (.goto 17, 3) := by decide +kernel
theorem dX4_lastOf_37 : decode cX4_lastOf 37 = .ok (.aload_n 0, 1) := by decide +kernel
theorem dX4_lastOf_38 : decode cX4_lastOf 38 = .ok (.iload 4, 2) := by decide +kernel
theorem dX4_lastOf_40 : decode cX4_lastOf 40 = .ok (.invokevirtual 99, 3) := by decide +kernel
theorem dX4_lastOf_43 : decode cX4_lastOf 43 = .ok (.ifCond .le 7, 3) := by decide +kernel
theorem dX4_lastOf_46 : decode cX4_lastOf 46 = .ok (.iconst 1, 1) := by decide +kernel
theorem dX4_lastOf_47 : decode cX4_lastOf 47 = .ok (.goto 4, 3) := by decide +kernel
theorem dX4_lastOf_50 : decode cX4_lastOf 50 = .ok (.iconst 0, 1) := by decide +kernel
theorem dX4_lastOf_51 : decode cX4_lastOf 51 = .ok (.istore 5, 2) := by decide +kernel
theorem dX4_lastOf_53 : decode cX4_lastOf 53 = .ok (.iload 5, 2) := by decide +kernel
theorem dX4_lastOf_55 : decode cX4_lastOf 55 = .ok (.ifCond .eq 18, 3) := by decide +kernel
theorem dX4_lastOf_58 : decode cX4_lastOf 58 = .ok (.iload_n 1, 1) := by decide +kernel
theorem dX4_lastOf_59 : decode cX4_lastOf 59 = .ok (.iload 4, 2) := by decide +kernel
theorem dX4_lastOf_61 : decode cX4_lastOf 61 = .ok (.ishr, 1) := by decide +kernel
theorem dX4_lastOf_62 : decode cX4_lastOf 62 = .ok (.iconst 1, 1) := by decide +kernel
theorem dX4_lastOf_63 : decode cX4_lastOf 63 = .ok (.iand, 1) := by decide +kernel
theorem dX4_lastOf_64 : decode cX4_lastOf 64 = .ok (.iconst 1, 1) := by decide +kernel
theorem dX4_lastOf_65 : decode cX4_lastOf 65 = .ok (.if_icmp .ne 8, 3) := by decide +kernel
theorem dX4_lastOf_68 : decode cX4_lastOf 68 = .ok (.iload 4, 2) := by decide +kernel
theorem dX4_lastOf_70 : decode cX4_lastOf 70 = .ok (.goto 4, 3) := by decide +kernel
theorem dX4_lastOf_73 : decode cX4_lastOf 73 = .ok (.iload_n 3, 1) := by decide +kernel
theorem dX4_lastOf_74 : decode cX4_lastOf 74 = .ok (.istore_n 3, 1) := by decide +kernel
theorem dX4_lastOf_75 : decode cX4_lastOf 75 = .ok (.iinc 4 1, 3) := by decide +kernel
theorem dX4_lastOf_78 : decode cX4_lastOf 78 = .ok (.goto (-73), 3) := by decide +kernel
theorem dX4_lastOf_81 : decode cX4_lastOf 81 = .ok (.iload_n 3, 1) := by decide +kernel
theorem dX4_lastOf_82 : decode cX4_lastOf 82 = .ok (.ireturn, 1) := by decide +kernel
theorem dX4_tellMember_0 : decode cX4_tellMember 0 = .ok (.iload_n 2, 1) := by decide +kernel
theorem dX4_tellMember_1 : decode cX4_tellMember 1 = .ok (.tableswitch 69 0 4 #[35, 42, 48, 54, 60], 35) := by decide +kernel
theorem dX4_tellMember_36 : decode cX4_tellMember 36 = .ok (.aload_n 0, 1) := by decide +kernel
theorem dX4_tellMember_37 : decode cX4_tellMember 37 = .ok (.getfield 13, 3) := by decide +kernel
theorem dX4_tellMember_40 : decode cX4_tellMember 40 = .ok (.iload_n 1, 1) := by decide +kernel
theorem dX4_tellMember_41 : decode cX4_tellMember 41 = .ok (.iaload, 1) := by decide +kernel
theorem dX4_tellMember_42 : decode cX4_tellMember 42 = .ok (.ireturn, 1) := by decide +kernel
theorem dX4_tellMember_43 : decode cX4_tellMember 43 = .ok (.aload_n 0, 1) := by decide +kernel
theorem dX4_tellMember_44 : decode cX4_tellMember 44 = .ok (.iload_n 1, 1) := by decide +kernel
theorem dX4_tellMember_45 : decode cX4_tellMember 45 = .ok (.invokevirtual 93, 3) := by decide +kernel
theorem dX4_tellMember_48 : decode cX4_tellMember 48 = .ok (.ireturn, 1) := by decide +kernel
theorem dX4_tellMember_49 : decode cX4_tellMember 49 = .ok (.aload_n 0, 1) := by decide +kernel
theorem dX4_tellMember_50 : decode cX4_tellMember 50 = .ok (.iload_n 1, 1) := by decide +kernel
theorem dX4_tellMember_51 : decode cX4_tellMember 51 = .ok (.invokevirtual 96, 3) := by decide +kernel
theorem dX4_tellMember_54 : decode cX4_tellMember 54 = .ok (.ireturn, 1) := by decide +kernel
theorem dX4_tellMember_55 : decode cX4_tellMember 55 = .ok (.aload_n 0, 1) := by decide +kernel
theorem dX4_tellMember_56 : decode cX4_tellMember 56 = .ok (.iload_n 1, 1) := by decide +kernel
theorem dX4_tellMember_57 : decode cX4_tellMember 57 = .ok (.invokevirtual 99, 3) := by decide +kernel
theorem dX4_tellMember_60 : decode cX4_tellMember 60 = .ok (.ireturn, 1) := by decide +kernel
theorem dX4_tellMember_61 : decode cX4_tellMember 61 = .ok (.aload_n 0, 1) := by decide +kernel
theorem dX4_tellMember_62 : decode cX4_tellMember 62 = .ok (.getfield 72, 3) := by decide +kernel
theorem dX4_tellMember_65 : decode cX4_tellMember 65 = .ok (.iload_n 1, 1) := by decide +kernel
theorem dX4_tellMember_66 : decode cX4_tellMember 66 = .ok (.ishr, 1) := by decide +kernel
theorem dX4_tellMember_67 : decode cX4_tellMember 67 = .ok (.iconst 1, 1) := by decide +kernel
theorem dX4_tellMember_68 : decode cX4_tellMember 68 = .ok (.iand, 1) := by decide +kernel
theorem dX4_tellMember_69 : decode cX4_tellMember 69 = .ok (.ireturn, 1) := by decide +kernel
theorem dX4_tellMember_70 : decode cX4_tellMember 70 = .ok (.bipush (-102), 2) := by decide +kernel
theorem dX4_tellMember_72 : decode cX4_tellMember 72 = .ok (.ireturn, 1) := by decide +kernel
theorem dX4_member_0 : decode cX4_member 0 = .ok (.aload_n 0, 1) := by decide +kernel
theorem dX4_member_1 : decode cX4_member 1 = .ok (.iload_n 1, 1) := by decide +kernel
theorem dX4_member_2 : decode cX4_member 2 = .ok (.invokevirtual 102, 3) := by decide +kernel
theorem dX4_member_5 : decode cX4_member 5 = .ok (.ifCond .eq 12, 3) := by decide +kernel
theorem dX4_member_8 : decode cX4_member 8 = .ok (.aload_n 0, 1) := by decide +kernel
theorem dX4_member_9 : decode cX4_member 9 = .ok (.iload_n 1, 1) := by decide +kernel
theorem dX4_member_10 : decode cX4_member 10 = .ok (.iload_n 2, 1) := by decide +kernel
theorem dX4_member_11 : decode cX4_member 11 = .ok (.invokevirtual 105, 3) := by decide +kernel
theorem dX4_member_14 : decode cX4_member 14 = .ok (.goto 5, 3) := by decide +kernel
theorem dX4_member_17 : decode cX4_member 17 = .ok (.bipush (-101), 2) := by decide +kernel
theorem dX4_member_19 : decode cX4_member 19 = .ok (.ireturn, 1) := by decide +kernel
theorem dX4_as_0 : decode cX4_as 0 = .ok (.aload_n 0, 1) := by decide +kernel
theorem dX4_as_1 : decode cX4_as 1 = .ok (.iload_n 1, 1) := by decide +kernel
theorem dX4_as_2 : decode cX4_as 2 = .ok (.invokevirtual 102, 3) := by decide +kernel
theorem dX4_as_5 : decode cX4_as 5 = .ok (.ifCond .ne 6, 3) := by decide +kernel
theorem dX4_as_8 : decode cX4_as 8 = .ok (.bipush (-101), 2) := by decide +kernel
theorem dX4_as_10 : decode cX4_as 10 = .ok (.ireturn, 1) := by decide +kernel
theorem dX4_as_11 : decode cX4_as 11 = .ok (.iload_n 2, 1) := by decide +kernel
theorem dX4_as_12 : decode cX4_as 12 = .ok (.i2l, 1) := by decide +kernel
theorem dX4_as_13 : decode cX4_as 13 = .ok (.lconst 0, 1) := by decide +kernel
theorem dX4_as_14 : decode cX4_as 14 = .ok (.ldc2_w 109, 3) := by decide +kernel
theorem dX4_as_17 : decode cX4_as 17 = .ok (.invokestatic 43, 3) := by decide +kernel
theorem dX4_as_20 : decode cX4_as 20 = .ok (.ifCond .ne 6, 3) := by decide +kernel
theorem dX4_as_23 : decode cX4_as 23 = .ok (.bipush (-102), 2) := by decide +kernel
theorem dX4_as_25 : decode cX4_as 25 = .ok (.ireturn, 1) := by decide +kernel
theorem dX4_as_26 : decode cX4_as 26 = .ok (.aload_n 0, 1) := by decide +kernel
theorem dX4_as_27 : decode cX4_as 27 = .ok (.getfield 13, 3) := by decide +kernel
theorem dX4_as_30 : decode cX4_as 30 = .ok (.iload_n 1, 1) := by decide +kernel
theorem dX4_as_31 : decode cX4_as 31 = .ok (.iaload, 1) := by decide +kernel
theorem dX4_as_32 : decode cX4_as 32 = .ok (.istore_n 3, 1) := by decide +kernel
theorem dX4_as_33 : decode cX4_as 33 = .ok (.iload_n 2, 1) := by decide +kernel
theorem dX4_as_34 : decode cX4_as 34 = .ok (.ifCond .eq 18, 3) := by decide +kernel
theorem dX4_as_37 : decode cX4_as 37 = .ok (.iload_n 2, 1) := by decide +kernel
theorem dX4_as_38 : decode cX4_as 38 = .ok (.iload_n 3, 1) := by decide +kernel
theorem dX4_as_39 : decode cX4_as 39 = .ok (.if_icmp .eq 13, 3) := by decide +kernel
theorem dX4_as_42 : decode cX4_as 42 = .ok (.iload_n 2, 1) := by decide +kernel
theorem dX4_as_43 : decode cX4_as 43 = .ok (.iconst 2, 1) := by decide +kernel
theorem dX4_as_44 : decode cX4_as 44 = .ok (.if_icmp .ne 12, 3) := by decide +kernel
theorem dX4_as_47 : decode cX4_as 47 = .ok (.iload_n 3, 1) := by decide +kernel
theorem dX4_as_48 : decode cX4_as 48 = .ok (.iconst 4, 1) := by decide +kernel
theorem dX4_as_49 : decode cX4_as 49 = .ok (.if_icmp .ne 7, 3) := by decide +kernel
theorem dX4_as_52 : decode cX4_as 52 = .ok (.iconst 1, 1) := by decide +kernel
theorem dX4_as_53 : decode cX4_as 53 = .ok (.goto 4, 3) := by decide +kernel
theorem dX4_as_56 : decode cX4_as 56 = .ok (.iconst 0, 1) := by decide +kernel
theorem dX4_as_57 : decode cX4_as 57 = .ok (.istore 4, 2) := by decide +kernel
theorem dX4_as_59 : decode cX4_as 59 = .ok (.iload 4, 2) := by decide +kernel
theorem dX4_as_61 : decode cX4_as 61 = .ok (.ifCond .eq 7, 3) := by decide +kernel
theorem dX4_as_64 : decode cX4_as 64 = .ok (.iload_n 1, 1) := by decide +kernel
theorem dX4_as_65 : decode cX4_as 65 = .ok (.goto 4, 3) := by decide +kernel
theorem dX4_as_68 : decode cX4_as 68 = .ok (.iconst (-1), 1) := by decide +kernel
theorem dX4_as_69 : decode cX4_as 69 = .ok (.ireturn, 1) := by decide +kernel
theorem dX4_tellCairn_0 : decode cX4_tellCairn 0 = .ok (.iload_n 2, 1) := by decide +kernel
theorem dX4_tellCairn_1 : decode cX4_tellCairn 1 = .ok (.tableswitch 46 0 2 #[27, 34, 40], 27) := by decide +kernel
theorem dX4_tellCairn_28 : decode cX4_tellCairn 28 = .ok (.aload_n 0, 1) := by decide +kernel
theorem dX4_tellCairn_29 : decode cX4_tellCairn 29 = .ok (.getfield 16, 3) := by decide +kernel
theorem dX4_tellCairn_32 : decode cX4_tellCairn 32 = .ok (.iload_n 1, 1) := by decide +kernel
theorem dX4_tellCairn_33 : decode cX4_tellCairn 33 = .ok (.iaload, 1) := by decide +kernel
theorem dX4_tellCairn_34 : decode cX4_tellCairn 34 = .ok (.ireturn, 1) := by decide +kernel
theorem dX4_tellCairn_35 : decode cX4_tellCairn 35 = .ok (.aload_n 0, 1) := by decide +kernel
theorem dX4_tellCairn_36 : decode cX4_tellCairn 36 = .ok (.iload_n 1, 1) := by decide +kernel
theorem dX4_tellCairn_37 : decode cX4_tellCairn 37 = .ok (.invokevirtual 111, 3) := by decide +kernel
theorem dX4_tellCairn_40 : decode cX4_tellCairn 40 = .ok (.ireturn, 1) := by decide +kernel
theorem dX4_tellCairn_41 : decode cX4_tellCairn 41 = .ok (.aload_n 0, 1) := by decide +kernel
theorem dX4_tellCairn_42 : decode cX4_tellCairn 42 = .ok (.iload_n 1, 1) := by decide +kernel
theorem dX4_tellCairn_43 : decode cX4_tellCairn 43 = .ok (.invokevirtual 114, 3) := by decide +kernel
theorem dX4_tellCairn_46 : decode cX4_tellCairn 46 = .ok (.ireturn, 1) := by decide +kernel
theorem dX4_tellCairn_47 : decode cX4_tellCairn 47 = .ok (.bipush (-102), 2) := by decide +kernel
theorem dX4_tellCairn_49 : decode cX4_tellCairn 49 = .ok (.ireturn, 1) := by decide +kernel
theorem dX4_cairn_0 : decode cX4_cairn 0 = .ok (.aload_n 0, 1) := by decide +kernel
theorem dX4_cairn_1 : decode cX4_cairn 1 = .ok (.iload_n 1, 1) := by decide +kernel
theorem dX4_cairn_2 : decode cX4_cairn 2 = .ok (.invokevirtual 117, 3) := by decide +kernel
theorem dX4_cairn_5 : decode cX4_cairn 5 = .ok (.ifCond .eq 12, 3) := by decide +kernel
theorem dX4_cairn_8 : decode cX4_cairn 8 = .ok (.aload_n 0, 1) := by decide +kernel
theorem dX4_cairn_9 : decode cX4_cairn 9 = .ok (.iload_n 1, 1) := by decide +kernel
theorem dX4_cairn_10 : decode cX4_cairn 10 = .ok (.iload_n 2, 1) := by decide +kernel
theorem dX4_cairn_11 : decode cX4_cairn 11 = .ok (.invokevirtual 120, 3) := by decide +kernel
theorem dX4_cairn_14 : decode cX4_cairn 14 = .ok (.goto 5, 3) := by decide +kernel
theorem dX4_cairn_17 : decode cX4_cairn 17 = .ok (.bipush (-101), 2) := by decide +kernel
theorem dX4_cairn_19 : decode cX4_cairn 19 = .ok (.ireturn, 1) := by decide +kernel
theorem dX4_lay_0 : decode cX4_lay 0 = .ok (.aload_n 0, 1) := by decide +kernel
theorem dX4_lay_1 : decode cX4_lay 1 = .ok (.iload_n 1, 1) := by decide +kernel
theorem dX4_lay_2 : decode cX4_lay 2 = .ok (.invokevirtual 117, 3) := by decide +kernel
theorem dX4_lay_5 : decode cX4_lay 5 = .ok (.ifCond .ne 6, 3) := by decide +kernel
theorem dX4_lay_8 : decode cX4_lay 8 = .ok (.bipush (-101), 2) := by decide +kernel
theorem dX4_lay_10 : decode cX4_lay 10 = .ok (.ireturn, 1) := by decide +kernel
theorem dX4_lay_11 : decode cX4_lay 11 = .ok (.iload_n 2, 1) := by decide +kernel
theorem dX4_lay_12 : decode cX4_lay 12 = .ok (.i2l, 1) := by decide +kernel
theorem dX4_lay_13 : decode cX4_lay 13 = .ok (.lconst 0, 1) := by decide +kernel
theorem dX4_lay_14 : decode cX4_lay 14 = .ok (.ldc2_w 123, 3) := by decide +kernel
theorem dX4_lay_17 : decode cX4_lay 17 = .ok (.invokestatic 43, 3) := by decide +kernel
theorem dX4_lay_20 : decode cX4_lay 20 = .ok (.ifCond .ne 6, 3) := by decide +kernel
theorem dX4_lay_23 : decode cX4_lay 23 = .ok (.bipush (-102), 2) := by decide +kernel
theorem dX4_lay_25 : decode cX4_lay 25 = .ok (.ireturn, 1) := by decide +kernel
theorem dX4_lay_26 : decode cX4_lay 26 = .ok (.aload_n 0, 1) := by decide +kernel
theorem dX4_lay_27 : decode cX4_lay 27 = .ok (.getfield 16, 3) := by decide +kernel
theorem dX4_lay_30 : decode cX4_lay 30 = .ok (.iload_n 1, 1) := by decide +kernel
theorem dX4_lay_31 : decode cX4_lay 31 = .ok (.iaload, 1) := by decide +kernel
theorem dX4_lay_32 : decode cX4_lay 32 = .ok (.istore_n 3, 1) := by decide +kernel
theorem dX4_lay_33 : decode cX4_lay 33 = .ok (.aload_n 0, 1) := by decide +kernel
theorem dX4_lay_34 : decode cX4_lay 34 = .ok (.getfield 16, 3) := by decide +kernel
theorem dX4_lay_37 : decode cX4_lay 37 = .ok (.iload_n 1, 1) := by decide +kernel
theorem dX4_lay_38 : decode cX4_lay 38 = .ok (.iload_n 2, 1) := by decide +kernel
theorem dX4_lay_39 : decode cX4_lay 39 = .ok (.iastore, 1) := by decide +kernel
theorem dX4_lay_40 : decode cX4_lay 40 = .ok (.iload_n 3, 1) := by decide +kernel
theorem dX4_lay_41 : decode cX4_lay 41 = .ok (.ireturn, 1) := by decide +kernel
theorem dX4_eatBeast_0 : decode cX4_eatBeast 0 = .ok (.aload_n 0, 1) := by decide +kernel
theorem dX4_eatBeast_1 : decode cX4_eatBeast 1 = .ok (.dup, 1) := by decide +kernel
theorem dX4_eatBeast_2 : decode cX4_eatBeast 2 = .ok (.getfield 125, 3) := by decide +kernel
theorem dX4_eatBeast_5 : decode cX4_eatBeast 5 = .ok (.iconst 1, 1) := by decide +kernel
theorem dX4_eatBeast_6 : decode cX4_eatBeast 6 = .ok (.iload_n 1, 1) := by decide +kernel
theorem dX4_eatBeast_7 : decode cX4_eatBeast 7 = .ok (.ishl, 1) := by decide +kernel
theorem dX4_eatBeast_8 : decode cX4_eatBeast 8 = .ok (.isub, 1) := by decide +kernel
theorem dX4_eatBeast_9 : decode cX4_eatBeast 9 = .ok (.putfield 125, 3) := by decide +kernel
theorem dX4_eatBeast_12 : decode cX4_eatBeast 12 = .ok (.aload_n 0, 1) := by decide +kernel
theorem dX4_eatBeast_13 : decode cX4_eatBeast 13 = .ok (.dup, 1) := by decide +kernel
theorem dX4_eatBeast_14 : decode cX4_eatBeast 14 = .ok (.getfield 128, 3) := by decide +kernel
theorem dX4_eatBeast_17 : decode cX4_eatBeast 17 = .ok (.aload_n 0, 1) := by decide +kernel
theorem dX4_eatBeast_18 : decode cX4_eatBeast 18 = .ok (.iload_n 1, 1) := by decide +kernel
theorem dX4_eatBeast_19 : decode cX4_eatBeast 19 = .ok (.invokevirtual 99, 3) := by decide +kernel
theorem dX4_eatBeast_22 : decode cX4_eatBeast 22 = .ok (.iadd, 1) := by decide +kernel
theorem dX4_eatBeast_23 : decode cX4_eatBeast 23 = .ok (.putfield 128, 3) := by decide +kernel
theorem dX4_eatBeast_26 : decode cX4_eatBeast 26 = .ok (.aload_n 0, 1) := by decide +kernel
theorem dX4_eatBeast_27 : decode cX4_eatBeast 27 = .ok (.invokevirtual 131, 3) := by decide +kernel
theorem dX4_eatBeast_30 : decode cX4_eatBeast 30 = .ok (.return_, 1) := by decide +kernel
theorem dX4_keepPulled_0 : decode cX4_keepPulled 0 = .ok (.aload_n 0, 1) := by decide +kernel
theorem dX4_keepPulled_1 : decode cX4_keepPulled 1 = .ok (.aload_n 0, 1) := by decide +kernel
theorem dX4_keepPulled_2 : decode cX4_keepPulled 2 = .ok (.getfield 125, 3) := by decide +kernel
theorem dX4_keepPulled_5 : decode cX4_keepPulled 5 = .ok (.invokevirtual 134, 3) := by decide +kernel
theorem dX4_keepPulled_8 : decode cX4_keepPulled 8 = .ok (.istore_n 1, 1) := by decide +kernel
theorem dX4_keepPulled_9 : decode cX4_keepPulled 9 = .ok (.aload_n 0, 1) := by decide +kernel
theorem dX4_keepPulled_10 : decode cX4_keepPulled 10 = .ok (.aload_n 0, 1) := by decide +kernel
theorem dX4_keepPulled_11 : decode cX4_keepPulled 11 = .ok (.getfield 128, 3) := by decide +kernel
theorem dX4_keepPulled_14 : decode cX4_keepPulled 14 = .ok (.iload_n 1, 1) := by decide +kernel
theorem dX4_keepPulled_15 : decode cX4_keepPulled 15 = .ok (.if_icmp .le 7, 3) := by decide +kernel
theorem dX4_keepPulled_18 : decode cX4_keepPulled 18 = .ok (.iload_n 1, 1) := by decide +kernel
theorem dX4_keepPulled_19 : decode cX4_keepPulled 19 = .ok (.goto 7, 3) := by decide +kernel
theorem dX4_keepPulled_22 : decode cX4_keepPulled 22 = .ok (.aload_n 0, 1) := by decide +kernel
theorem dX4_keepPulled_23 : decode cX4_keepPulled 23 = .ok (.getfield 128, 3) := by decide +kernel
theorem dX4_keepPulled_26 : decode cX4_keepPulled 26 = .ok (.putfield 128, 3) := by decide +kernel
theorem dX4_keepPulled_29 : decode cX4_keepPulled 29 = .ok (.return_, 1) := by decide +kernel
theorem dX4_goStage_0 : decode cX4_goStage 0 = .ok (.iload_n 2, 1) := by decide +kernel
theorem dX4_goStage_1 : decode cX4_goStage 1 = .ok (.ifCond .eq 37, 3) := by decide +kernel
theorem dX4_goStage_4 : decode cX4_goStage 4 = .ok (.iload_n 1, 1) := by decide +kernel
theorem dX4_goStage_5 : decode cX4_goStage 5 = .ok (.iconst 2, 1) := by decide +kernel
theorem dX4_goStage_6 : decode cX4_goStage 6 = .ok (.if_icmp .le 32, 3) := by decide +kernel
theorem dX4_goStage_9 : decode cX4_goStage 9 = .ok (.aload_n 0, 1) := by decide +kernel
theorem dX4_goStage_10 : decode cX4_goStage 10 = .ok (.aload_n 0, 1) := by decide +kernel
theorem dX4_goStage_11 : decode cX4_goStage 11 = .ok (.getfield 125, 3) := by decide +kernel
theorem dX4_goStage_14 : decode cX4_goStage 14 = .ok (.iconst 1, 1) := by decide +kernel
theorem dX4_goStage_15 : decode cX4_goStage 15 = .ok (.invokevirtual 137, 3) := by decide +kernel
theorem dX4_goStage_18 : decode cX4_goStage 18 = .ok (.iconst (-1), 1) := by decide +kernel
theorem dX4_goStage_19 : decode cX4_goStage 19 = .ok (.if_icmp .eq 19, 3) := by decide +kernel
theorem dX4_goStage_22 : decode cX4_goStage 22 = .ok (.aload_n 0, 1) := by decide +kernel
theorem dX4_goStage_23 : decode cX4_goStage 23 = .ok (.aload_n 0, 1) := by decide +kernel
theorem dX4_goStage_24 : decode cX4_goStage 24 = .ok (.aload_n 0, 1) := by decide +kernel
theorem dX4_goStage_25 : decode cX4_goStage 25 = .ok (.getfield 125, 3) := by decide +kernel
theorem dX4_goStage_28 : decode cX4_goStage 28 = .ok (.iconst 1, 1) := by decide +kernel
theorem dX4_goStage_29 : decode cX4_goStage 29 = .ok (.invokevirtual 137, 3) := by decide +kernel
theorem dX4_goStage_32 : decode cX4_goStage 32 = .ok (.invokevirtual 141, 3) := by decide +kernel
theorem dX4_goStage_35 : decode cX4_goStage 35 = .ok (.goto (-35), 3) := by decide +kernel
theorem dX4_goStage_38 : decode cX4_goStage 38 = .ok (.aload_n 0, 1) := by decide +kernel
theorem dX4_goStage_39 : decode cX4_goStage 39 = .ok (.getfield 128, 3) := by decide +kernel
theorem dX4_goStage_42 : decode cX4_goStage 42 = .ok (.aload_n 0, 1) := by decide +kernel
theorem dX4_goStage_43 : decode cX4_goStage 43 = .ok (.aload_n 0, 1) := by decide +kernel
theorem dX4_goStage_44 : decode cX4_goStage 44 = .ok (.getfield 125, 3) := by decide +kernel
theorem dX4_goStage_47 : decode cX4_goStage 47 = .ok (.invokevirtual 145, 3) := by decide +kernel
theorem dX4_goStage_50 : decode cX4_goStage 50 = .ok (.if_icmp .ge 32, 3) := by decide +kernel
theorem dX4_goStage_53 : decode cX4_goStage 53 = .ok (.aload_n 0, 1) := by decide +kernel
theorem dX4_goStage_54 : decode cX4_goStage 54 = .ok (.aload_n 0, 1) := by decide +kernel
theorem dX4_goStage_55 : decode cX4_goStage 55 = .ok (.getfield 125, 3) := by decide +kernel
theorem dX4_goStage_58 : decode cX4_goStage 58 = .ok (.iconst 0, 1) := by decide +kernel
theorem dX4_goStage_59 : decode cX4_goStage 59 = .ok (.invokevirtual 137, 3) := by decide +kernel
theorem dX4_goStage_62 : decode cX4_goStage 62 = .ok (.iconst (-1), 1) := by decide +kernel
theorem dX4_goStage_63 : decode cX4_goStage 63 = .ok (.if_icmp .eq 19, 3) := by decide +kernel
theorem dX4_goStage_66 : decode cX4_goStage 66 = .ok (.aload_n 0, 1) := by decide +kernel
theorem dX4_goStage_67 : decode cX4_goStage 67 = .ok (.aload_n 0, 1) := by decide +kernel
theorem dX4_goStage_68 : decode cX4_goStage 68 = .ok (.aload_n 0, 1) := by decide +kernel
theorem dX4_goStage_69 : decode cX4_goStage 69 = .ok (.getfield 125, 3) := by decide +kernel
theorem dX4_goStage_72 : decode cX4_goStage 72 = .ok (.iconst 0, 1) := by decide +kernel
theorem dX4_goStage_73 : decode cX4_goStage 73 = .ok (.invokevirtual 137, 3) := by decide +kernel
theorem dX4_goStage_76 : decode cX4_goStage 76 = .ok (.invokevirtual 141, 3) := by decide +kernel
theorem dX4_goStage_79 : decode cX4_goStage 79 = .ok (.goto (-41), 3) := by decide +kernel
theorem dX4_goStage_82 : decode cX4_goStage 82 = .ok (.aload_n 0, 1) := by decide +kernel
theorem dX4_goStage_83 : decode cX4_goStage 83 = .ok (.getfield 125, 3) := by decide +kernel
theorem dX4_goStage_86 : decode cX4_goStage 86 = .ok (.ifCond .eq 18, 3) := by decide +kernel
theorem dX4_goStage_89 : decode cX4_goStage 89 = .ok (.aload_n 0, 1) := by decide +kernel
theorem dX4_goStage_90 : decode cX4_goStage 90 = .ok (.getfield 128, 3) := by decide +kernel
theorem dX4_goStage_93 : decode cX4_goStage 93 = .ok (.aload_n 0, 1) := by decide +kernel
theorem dX4_goStage_94 : decode cX4_goStage 94 = .ok (.aload_n 0, 1) := by decide +kernel
theorem dX4_goStage_95 : decode cX4_goStage 95 = .ok (.getfield 125, 3) := by decide +kernel
theorem dX4_goStage_98 : decode cX4_goStage 98 = .ok (.invokevirtual 145, 3) := by decide +kernel
theorem dX4_goStage_101 : decode cX4_goStage 101 = .ok (.if_icmp .ge 15, 3) := by decide +kernel
theorem dX4_goStage_104 : decode cX4_goStage 104 = .ok (.aload_n 0, 1) := by decide +kernel
theorem dX4_goStage_105 : decode cX4_goStage 105 = .ok (.iconst 0, 1) := by decide +kernel
theorem dX4_goStage_106 : decode cX4_goStage 106 = .ok (.putfield 125, 3) := by decide +kernel
theorem dX4_goStage_109 : decode cX4_goStage 109 = .ok (.aload_n 0, 1) := by decide +kernel
theorem dX4_goStage_110 : decode cX4_goStage 110 = .ok (.iconst 0, 1) := by decide +kernel
theorem dX4_goStage_111 : decode cX4_goStage 111 = .ok (.putfield 128, 3) := by decide +kernel
theorem dX4_goStage_114 : decode cX4_goStage 114 = .ok (.iconst 0, 1) := by decide +kernel
theorem dX4_goStage_115 : decode cX4_goStage 115 = .ok (.ireturn, 1) := by decide +kernel
theorem dX4_goStage_116 : decode cX4_goStage 116 = .ok (.aload_n 0, 1) := by decide +kernel
theorem dX4_goStage_117 : decode cX4_goStage 117 = .ok (.dup, 1) := by decide +kernel
theorem dX4_goStage_118 : decode cX4_goStage 118 = .ok (.getfield 128, 3) := by decide +kernel
theorem dX4_goStage_121 : decode cX4_goStage 121 = .ok (.aload_n 0, 1) := by decide +kernel
theorem dX4_goStage_122 : decode cX4_goStage 122 = .ok (.aload_n 0, 1) := by decide +kernel
theorem dX4_goStage_123 : decode cX4_goStage 123 = .ok (.getfield 125, 3) := by decide +kernel
theorem dX4_goStage_126 : decode cX4_goStage 126 = .ok (.invokevirtual 145, 3) := by decide +kernel
theorem dX4_goStage_129 : decode cX4_goStage 129 = .ok (.isub, 1) := by decide +kernel
theorem dX4_goStage_130 : decode cX4_goStage 130 = .ok (.putfield 128, 3) := by decide +kernel
theorem dX4_goStage_133 : decode cX4_goStage 133 = .ok (.iload_n 2, 1) := by decide +kernel
theorem dX4_goStage_134 : decode cX4_goStage 134 = .ok (.ifCond .eq 9, 3) := by decide +kernel
theorem dX4_goStage_137 : decode cX4_goStage 137 = .ok (.iload_n 1, 1) := by decide +kernel
theorem dX4_goStage_138 : decode cX4_goStage 138 = .ok (.iconst 1, 1) := by decide +kernel
theorem dX4_goStage_139 : decode cX4_goStage 139 = .ok (.iadd, 1) := by decide +kernel
theorem dX4_goStage_140 : decode cX4_goStage 140 = .ok (.goto 6, 3) := by decide +kernel
theorem dX4_goStage_143 : decode cX4_goStage 143 = .ok (.iload_n 1, 1) := by decide +kernel
theorem dX4_goStage_144 : decode cX4_goStage 144 = .ok (.iconst 1, 1) := by decide +kernel
theorem dX4_goStage_145 : decode cX4_goStage 145 = .ok (.isub, 1) := by decide +kernel
theorem dX4_goStage_146 : decode cX4_goStage 146 = .ok (.istore_n 3, 1) := by decide +kernel
theorem dX4_goStage_147 : decode cX4_goStage 147 = .ok (.iload_n 2, 1) := by decide +kernel
theorem dX4_goStage_148 : decode cX4_goStage 148 = .ok (.ifCond .ne 68, 3) := by decide +kernel
theorem dX4_goStage_151 : decode cX4_goStage 151 = .ok (.iload_n 3, 1) := by decide +kernel
theorem dX4_goStage_152 : decode cX4_goStage 152 = .ok (.ifCond .le 64, 3) := by decide +kernel
theorem dX4_goStage_155 : decode cX4_goStage 155 = .ok (.aload_n 0, 1) := by decide +kernel
theorem dX4_goStage_156 : decode cX4_goStage 156 = .ok (.aload_n 0, 1) := by decide +kernel
theorem dX4_goStage_157 : decode cX4_goStage 157 = .ok (.getfield 125, 3) := by decide +kernel
theorem dX4_goStage_160 : decode cX4_goStage 160 = .ok (.invokevirtual 134, 3) := by decide +kernel
theorem dX4_goStage_163 : decode cX4_goStage 163 = .ok (.aload_n 0, 1) := by decide +kernel
theorem dX4_goStage_164 : decode cX4_goStage 164 = .ok (.getfield 128, 3) := by decide +kernel
theorem dX4_goStage_167 : decode cX4_goStage 167 = .ok (.isub, 1) := by decide +kernel
theorem dX4_goStage_168 : decode cX4_goStage 168 = .ok (.istore 4, 2) := by decide +kernel
theorem dX4_goStage_170 : decode cX4_goStage 170 = .ok (.aload_n 0, 1) := by decide +kernel
theorem dX4_goStage_171 : decode cX4_goStage 171 = .ok (.getfield 19, 3) := by decide +kernel
theorem dX4_goStage_174 : decode cX4_goStage 174 = .ok (.iload_n 3, 1) := by decide +kernel
theorem dX4_goStage_175 : decode cX4_goStage 175 = .ok (.iaload, 1) := by decide +kernel
theorem dX4_goStage_176 : decode cX4_goStage 176 = .ok (.iload 4, 2) := by decide +kernel
theorem dX4_goStage_178 : decode cX4_goStage 178 = .ok (.if_icmp .ge 12, 3) := by decide +kernel
theorem dX4_goStage_181 : decode cX4_goStage 181 = .ok (.aload_n 0, 1) := by decide +kernel
theorem dX4_goStage_182 : decode cX4_goStage 182 = .ok (.getfield 19, 3) := by decide +kernel
theorem dX4_goStage_185 : decode cX4_goStage 185 = .ok (.iload_n 3, 1) := by decide +kernel
theorem dX4_goStage_186 : decode cX4_goStage 186 = .ok (.iaload, 1) := by decide +kernel
theorem dX4_goStage_187 : decode cX4_goStage 187 = .ok (.goto 5, 3) := by decide +kernel
theorem dX4_goStage_190 : decode cX4_goStage 190 = .ok (.iload 4, 2) := by decide +kernel
theorem dX4_goStage_192 : decode cX4_goStage 192 = .ok (.istore 5, 2) := by decide +kernel
theorem dX4_goStage_194 : decode cX4_goStage 194 = .ok (.aload_n 0, 1) := by decide +kernel
theorem dX4_goStage_195 : decode cX4_goStage 195 = .ok (.getfield 19, 3) := by decide +kernel
theorem dX4_goStage_198 : decode cX4_goStage 198 = .ok (.iload_n 3, 1) := by decide +kernel
theorem dX4_goStage_199 : decode cX4_goStage 199 = .ok (.dup2, 1) := by decide +kernel
theorem dX4_goStage_200 : decode cX4_goStage 200 = .ok (.iaload, 1) := by decide +kernel
theorem dX4_goStage_201 : decode cX4_goStage 201 = .ok (.iload 5, 2) := by decide +kernel
theorem dX4_goStage_203 : decode cX4_goStage 203 = .ok (.isub, 1) := by decide +kernel
theorem dX4_goStage_204 : decode cX4_goStage 204 = .ok (.iastore, 1) := by decide +kernel
theorem dX4_goStage_205 : decode cX4_goStage 205 = .ok (.aload_n 0, 1) := by decide +kernel
theorem dX4_goStage_206 : decode cX4_goStage 206 = .ok (.dup, 1) := by decide +kernel
theorem dX4_goStage_207 : decode cX4_goStage 207 = .ok (.getfield 128, 3) := by decide +kernel
theorem dX4_goStage_210 : decode cX4_goStage 210 = .ok (.iload 5, 2) := by decide +kernel
theorem dX4_goStage_212 : decode cX4_goStage 212 = .ok (.iadd, 1) := by decide +kernel
theorem dX4_goStage_213 : decode cX4_goStage 213 = .ok (.putfield 128, 3) := by decide +kernel
theorem dX4_goStage_216 : decode cX4_goStage 216 = .ok (.iconst 1, 1) := by decide +kernel
theorem dX4_goStage_217 : decode cX4_goStage 217 = .ok (.ireturn, 1) := by decide +kernel
theorem dX4_goMarch_0 : decode cX4_goMarch 0 = .ok (.aload 4, 2) := by decide +kernel
theorem dX4_goMarch_2 : decode cX4_goMarch 2 = .ok (.aload_n 0, 1) := by decide +kernel
theorem dX4_goMarch_3 : decode cX4_goMarch 3 = .ok (.getfield 19, 3) := by decide +kernel
theorem dX4_goMarch_6 : decode cX4_goMarch 6 = .ok (.invokestatic 148, 3) := by decide +kernel
theorem dX4_goMarch_9 : decode cX4_goMarch 9 = .ok (.aload_n 0, 1) := by decide +kernel
theorem dX4_goMarch_10 : decode cX4_goMarch 10 = .ok (.iload_n 1, 1) := by decide +kernel
theorem dX4_goMarch_11 : decode cX4_goMarch 11 = .ok (.putfield 125, 3) := by decide +kernel
theorem dX4_goMarch_14 : decode cX4_goMarch 14 = .ok (.aload_n 0, 1) := by decide +kernel
theorem dX4_goMarch_15 : decode cX4_goMarch 15 = .ok (.iload_n 3, 1) := by decide +kernel
theorem dX4_goMarch_16 : decode cX4_goMarch 16 = .ok (.putfield 128, 3) := by decide +kernel
theorem dX4_goMarch_19 : decode cX4_goMarch 19 = .ok (.aload_n 0, 1) := by decide +kernel
theorem dX4_goMarch_20 : decode cX4_goMarch 20 = .ok (.invokevirtual 131, 3) := by decide +kernel
theorem dX4_goMarch_23 : decode cX4_goMarch 23 = .ok (.aload_n 0, 1) := by decide +kernel
theorem dX4_goMarch_24 : decode cX4_goMarch 24 = .ok (.iconst 0, 1) := by decide +kernel
theorem dX4_goMarch_25 : decode cX4_goMarch 25 = .ok (.putfield 152, 3) := by decide +kernel
theorem dX4_goMarch_28 : decode cX4_goMarch 28 = .ok (.iconst 1, 1) := by decide +kernel
theorem dX4_goMarch_29 : decode cX4_goMarch 29 = .ok (.istore 5, 2) := by decide +kernel
theorem dX4_goMarch_31 : decode cX4_goMarch 31 = .ok (.iload 5, 2) := by decide +kernel
theorem dX4_goMarch_33 : decode cX4_goMarch 33 = .ok (.iconst 2, 1) := by decide +kernel
theorem dX4_goMarch_34 : decode cX4_goMarch 34 = .ok (.iload_n 2, 1) := by decide +kernel
theorem dX4_goMarch_35 : decode cX4_goMarch 35 = .ok (.imul, 1) := by decide +kernel
theorem dX4_goMarch_36 : decode cX4_goMarch 36 = .ok (.if_icmp .gt 72, 3) := by decide +kernel
theorem dX4_goMarch_39 : decode cX4_goMarch 39 = .ok (.aload_n 0, 1) := by decide +kernel
theorem dX4_goMarch_40 : decode cX4_goMarch 40 = .ok (.getfield 152, 3) := by decide +kernel
theorem dX4_goMarch_43 : decode cX4_goMarch 43 = .ok (.ifCond .ne 65, 3) := by decide +kernel
theorem dX4_goMarch_46 : decode cX4_goMarch 46 = .ok (.iload 5, 2) := by decide +kernel
theorem dX4_goMarch_48 : decode cX4_goMarch 48 = .ok (.iload_n 2, 1) := by decide +kernel
theorem dX4_goMarch_49 : decode cX4_goMarch 49 = .ok (.if_icmp .gt 7, 3) := by decide +kernel
theorem dX4_goMarch_52 : decode cX4_goMarch 52 = .ok (.iconst 1, 1) := by decide +kernel
theorem dX4_goMarch_53 : decode cX4_goMarch 53 = .ok (.goto 4, 3) := by decide +kernel
theorem dX4_goMarch_56 : decode cX4_goMarch 56 = .ok (.iconst 0, 1) := by decide +kernel
theorem dX4_goMarch_57 : decode cX4_goMarch 57 = .ok (.istore 6, 2) := by decide +kernel
theorem dX4_goMarch_59 : decode cX4_goMarch 59 = .ok (.aload_n 0, 1) := by decide +kernel
theorem dX4_goMarch_60 : decode cX4_goMarch 60 = .ok (.iload 6, 2) := by decide +kernel
theorem dX4_goMarch_62 : decode cX4_goMarch 62 = .ok (.ifCond .eq 10, 3) := by decide +kernel
theorem dX4_goMarch_65 : decode cX4_goMarch 65 = .ok (.iload 5, 2) := by decide +kernel
theorem dX4_goMarch_67 : decode cX4_goMarch 67 = .ok (.iconst 1, 1) := by decide +kernel
theorem dX4_goMarch_68 : decode cX4_goMarch 68 = .ok (.isub, 1) := by decide +kernel
theorem dX4_goMarch_69 : decode cX4_goMarch 69 = .ok (.goto 11, 3) := by decide +kernel
theorem dX4_goMarch_72 : decode cX4_goMarch 72 = .ok (.iconst 2, 1) := by decide +kernel
theorem dX4_goMarch_73 : decode cX4_goMarch 73 = .ok (.iload_n 2, 1) := by decide +kernel
theorem dX4_goMarch_74 : decode cX4_goMarch 74 = .ok (.imul, 1) := by decide +kernel
theorem dX4_goMarch_75 : decode cX4_goMarch 75 = .ok (.iload 5, 2) := by decide +kernel
theorem dX4_goMarch_77 : decode cX4_goMarch 77 = .ok (.isub, 1) := by decide +kernel
theorem dX4_goMarch_78 : decode cX4_goMarch 78 = .ok (.iconst 1, 1) := by decide +kernel
theorem dX4_goMarch_79 : decode cX4_goMarch 79 = .ok (.iadd, 1) := by decide +kernel
theorem dX4_goMarch_80 : decode cX4_goMarch 80 = .ok (.iload 6, 2) := by decide +kernel
theorem dX4_goMarch_82 : decode cX4_goMarch 82 = .ok (.invokevirtual 155, 3) := by decide +kernel
theorem dX4_goMarch_85 : decode cX4_goMarch 85 = .ok (.istore 7, 2) := by decide +kernel
theorem dX4_goMarch_87 : decode cX4_goMarch 87 = .ok (.aload_n 0, 1) := by decide +kernel
theorem dX4_goMarch_88 : decode cX4_goMarch 88 = .ok (.iload 7, 2) := by decide +kernel
theorem dX4_goMarch_90 : decode cX4_goMarch 90 = .ok (.ifCond .eq 7, 3) := by decide +kernel
theorem dX4_goMarch_93 : decode cX4_goMarch 93 = .ok (.iconst 0, 1) := by decide +kernel
theorem dX4_goMarch_94 : decode cX4_goMarch 94 = .ok (.goto 5, 3) := by decide +kernel
theorem dX4_goMarch_97 : decode cX4_goMarch 97 = .ok (.iload 5, 2) := by decide +kernel
theorem dX4_goMarch_99 : decode cX4_goMarch 99 = .ok (.putfield 152, 3) := by decide +kernel
theorem dX4_goMarch_102 : decode cX4_goMarch 102 = .ok (.iinc 5 1, 3) := by decide +kernel
theorem dX4_goMarch_105 : decode cX4_goMarch 105 = .ok (.goto (-74), 3) := by decide +kernel
theorem dX4_goMarch_108 : decode cX4_goMarch 108 = .ok (.return_, 1) := by decide +kernel
theorem dX4_comesHome_0 : decode cX4_comesHome 0 = .ok (.aload_n 0, 1) := by decide +kernel
theorem dX4_comesHome_1 : decode cX4_comesHome 1 = .ok (.iload_n 1, 1) := by decide +kernel
theorem dX4_comesHome_2 : decode cX4_comesHome 2 = .ok (.iload_n 2, 1) := by decide +kernel
theorem dX4_comesHome_3 : decode cX4_comesHome 3 = .ok (.iload_n 3, 1) := by decide +kernel
theorem dX4_comesHome_4 : decode cX4_comesHome 4 = .ok (.aload 4, 2) := by decide +kernel
theorem dX4_comesHome_6 : decode cX4_comesHome 6 = .ok (.invokevirtual 159, 3) := by decide +kernel
theorem dX4_comesHome_9 : decode cX4_comesHome 9 = .ok (.aload_n 0, 1) := by decide +kernel
theorem dX4_comesHome_10 : decode cX4_comesHome 10 = .ok (.getfield 125, 3) := by decide +kernel
theorem dX4_comesHome_13 : decode cX4_comesHome 13 = .ok (.ifCond .eq 7, 3) := by decide +kernel
theorem dX4_comesHome_16 : decode cX4_comesHome 16 = .ok (.iconst 1, 1) := by decide +kernel
theorem dX4_comesHome_17 : decode cX4_comesHome 17 = .ok (.goto 4, 3) := by decide +kernel
theorem dX4_comesHome_20 : decode cX4_comesHome 20 = .ok (.iconst 0, 1) := by decide +kernel
theorem dX4_comesHome_21 : decode cX4_comesHome 21 = .ok (.ireturn, 1) := by decide +kernel
theorem dX4_sumOf_0 : decode cX4_sumOf 0 = .ok (.iconst 0, 1) := by decide +kernel
theorem dX4_sumOf_1 : decode cX4_sumOf 1 = .ok (.istore_n 1, 1) := by decide +kernel
theorem dX4_sumOf_2 : decode cX4_sumOf 2 = .ok (.iconst 1, 1) := by decide +kernel
theorem dX4_sumOf_3 : decode cX4_sumOf 3 = .ok (.istore_n 2, 1) := by decide +kernel
theorem dX4_sumOf_4 : decode cX4_sumOf 4 = .ok (.iload_n 2, 1) := by decide +kernel
theorem dX4_sumOf_5 : decode cX4_sumOf 5 = .ok (.bipush 6, 2) := by decide +kernel
theorem dX4_sumOf_7 : decode cX4_sumOf 7 = .ok (.if_icmp .ge 15, 3) := by decide +kernel
theorem dX4_sumOf_10 : decode cX4_sumOf 10 = .ok (.iload_n 1, 1) := by decide +kernel
theorem dX4_sumOf_11 : decode cX4_sumOf 11 = .ok (.aload_n 0, 1) := by decide +kernel
theorem dX4_sumOf_12 : decode cX4_sumOf 12 = .ok (.iload_n 2, 1) := by decide +kernel
theorem dX4_sumOf_13 : decode cX4_sumOf 13 = .ok (.iaload, 1) := by decide +kernel
theorem dX4_sumOf_14 : decode cX4_sumOf 14 = .ok (.iadd, 1) := by decide +kernel
theorem dX4_sumOf_15 : decode cX4_sumOf 15 = .ok (.istore_n 1, 1) := by decide +kernel
theorem dX4_sumOf_16 : decode cX4_sumOf 16 = .ok (.iinc 2 1, 3) := by decide +kernel
theorem dX4_sumOf_19 : decode cX4_sumOf 19 = .ok (.goto (-15), 3) := by decide +kernel
theorem dX4_sumOf_22 : decode cX4_sumOf 22 = .ok (.iload_n 1, 1) := by decide +kernel
theorem dX4_sumOf_23 : decode cX4_sumOf 23 = .ok (.ireturn, 1) := by decide +kernel
theorem dX4_isMarch_0 : decode cX4_isMarch 0 = .ok (.aload_n 0, 1) := by decide +kernel
theorem dX4_isMarch_1 : decode cX4_isMarch 1 = .ok (.iload_n 1, 1) := by decide +kernel
theorem dX4_isMarch_2 : decode cX4_isMarch 2 = .ok (.invokevirtual 163, 3) := by decide +kernel
theorem dX4_isMarch_5 : decode cX4_isMarch 5 = .ok (.ifCond .eq 31, 3) := by decide +kernel
theorem dX4_isMarch_8 : decode cX4_isMarch 8 = .ok (.iload_n 2, 1) := by decide +kernel
theorem dX4_isMarch_9 : decode cX4_isMarch 9 = .ok (.i2l, 1) := by decide +kernel
theorem dX4_isMarch_10 : decode cX4_isMarch 10 = .ok (.lconst 1, 1) := by decide +kernel
theorem dX4_isMarch_11 : decode cX4_isMarch 11 = .ok (.ldc2_w 166, 3) := by decide +kernel
theorem dX4_isMarch_14 : decode cX4_isMarch 14 = .ok (.invokestatic 43, 3) := by decide +kernel
theorem dX4_isMarch_17 : decode cX4_isMarch 17 = .ok (.ifCond .eq 19, 3) := by decide +kernel
theorem dX4_isMarch_20 : decode cX4_isMarch 20 = .ok (.iload_n 3, 1) := by decide +kernel
theorem dX4_isMarch_21 : decode cX4_isMarch 21 = .ok (.i2l, 1) := by decide +kernel
theorem dX4_isMarch_22 : decode cX4_isMarch 22 = .ok (.lconst 0, 1) := by decide +kernel
theorem dX4_isMarch_23 : decode cX4_isMarch 23 = .ok (.ldc2_w 168, 3) := by decide +kernel
theorem dX4_isMarch_26 : decode cX4_isMarch 26 = .ok (.invokestatic 43, 3) := by decide +kernel
theorem dX4_isMarch_29 : decode cX4_isMarch 29 = .ok (.ifCond .eq 7, 3) := by decide +kernel
theorem dX4_isMarch_32 : decode cX4_isMarch 32 = .ok (.iconst 1, 1) := by decide +kernel
theorem dX4_isMarch_33 : decode cX4_isMarch 33 = .ok (.goto 4, 3) := by decide +kernel
theorem dX4_isMarch_36 : decode cX4_isMarch 36 = .ok (.iconst 0, 1) := by decide +kernel
theorem dX4_isMarch_37 : decode cX4_isMarch 37 = .ok (.ireturn, 1) := by decide +kernel
theorem dX4_march_0 : decode cX4_march 0 = .ok (.aload_n 0, 1) := by decide +kernel
theorem dX4_march_1 : decode cX4_march 1 = .ok (.iload_n 1, 1) := by decide +kernel
theorem dX4_march_2 : decode cX4_march 2 = .ok (.iload_n 2, 1) := by decide +kernel
theorem dX4_march_3 : decode cX4_march 3 = .ok (.iload_n 3, 1) := by decide +kernel
theorem dX4_march_4 : decode cX4_march 4 = .ok (.invokevirtual 170, 3) := by decide +kernel
theorem dX4_march_7 : decode cX4_march 7 = .ok (.ifCond .ne 6, 3) := by decide +kernel
theorem dX4_march_10 : decode cX4_march 10 = .ok (.bipush (-102), 2) := by decide +kernel
theorem dX4_march_12 : decode cX4_march 12 = .ok (.ireturn, 1) := by decide +kernel
theorem dX4_march_13 : decode cX4_march 13 = .ok (.iload_n 1, 1) := by decide +kernel
theorem dX4_march_14 : decode cX4_march 14 = .ok (.aload_n 0, 1) := by decide +kernel
theorem dX4_march_15 : decode cX4_march 15 = .ok (.getfield 72, 3) := by decide +kernel
theorem dX4_march_18 : decode cX4_march 18 = .ok (.iconst (-1), 1) := by decide +kernel
theorem dX4_march_19 : decode cX4_march 19 = .ok (.ixor, 1) := by decide +kernel
theorem dX4_march_20 : decode cX4_march 20 = .ok (.iand, 1) := by decide +kernel
theorem dX4_march_21 : decode cX4_march 21 = .ok (.ifCond .eq 6, 3) := by decide +kernel
theorem dX4_march_24 : decode cX4_march 24 = .ok (.bipush (-103), 2) := by decide +kernel
theorem dX4_march_26 : decode cX4_march 26 = .ok (.ireturn, 1) := by decide +kernel
theorem dX4_march_27 : decode cX4_march 27 = .ok (.aload_n 0, 1) := by decide +kernel
theorem dX4_march_28 : decode cX4_march 28 = .ok (.iload_n 1, 1) := by decide +kernel
theorem dX4_march_29 : decode cX4_march 29 = .ok (.iload_n 2, 1) := by decide +kernel
theorem dX4_march_30 : decode cX4_march 30 = .ok (.iload_n 3, 1) := by decide +kernel
theorem dX4_march_31 : decode cX4_march 31 = .ok (.aload_n 0, 1) := by decide +kernel
theorem dX4_march_32 : decode cX4_march 32 = .ok (.getfield 16, 3) := by decide +kernel
theorem dX4_march_35 : decode cX4_march 35 = .ok (.invokevirtual 159, 3) := by decide +kernel
theorem dX4_march_38 : decode cX4_march 38 = .ok (.aload_n 0, 1) := by decide +kernel
theorem dX4_march_39 : decode cX4_march 39 = .ok (.aload_n 0, 1) := by decide +kernel
theorem dX4_march_40 : decode cX4_march 40 = .ok (.getfield 72, 3) := by decide +kernel
theorem dX4_march_43 : decode cX4_march 43 = .ok (.iload_n 1, 1) := by decide +kernel
theorem dX4_march_44 : decode cX4_march 44 = .ok (.iconst (-1), 1) := by decide +kernel
theorem dX4_march_45 : decode cX4_march 45 = .ok (.ixor, 1) := by decide +kernel
theorem dX4_march_46 : decode cX4_march 46 = .ok (.iand, 1) := by decide +kernel
theorem dX4_march_47 : decode cX4_march 47 = .ok (.aload_n 0, 1) := by decide +kernel
theorem dX4_march_48 : decode cX4_march 48 = .ok (.getfield 125, 3) := by decide +kernel
theorem dX4_march_51 : decode cX4_march 51 = .ok (.ior, 1) := by decide +kernel
theorem dX4_march_52 : decode cX4_march 52 = .ok (.putfield 72, 3) := by decide +kernel
theorem dX4_march_55 : decode cX4_march 55 = .ok (.aload_n 0, 1) := by decide +kernel
theorem dX4_march_56 : decode cX4_march 56 = .ok (.getfield 19, 3) := by decide +kernel
theorem dX4_march_59 : decode cX4_march 59 = .ok (.aload_n 0, 1) := by decide +kernel
theorem dX4_march_60 : decode cX4_march 60 = .ok (.getfield 16, 3) := by decide +kernel
theorem dX4_march_63 : decode cX4_march 63 = .ok (.invokestatic 148, 3) := by decide +kernel
theorem dX4_march_66 : decode cX4_march 66 = .ok (.aload_n 0, 1) := by decide +kernel
theorem dX4_march_67 : decode cX4_march 67 = .ok (.dup, 1) := by decide +kernel
theorem dX4_march_68 : decode cX4_march 68 = .ok (.getfield 75, 3) := by decide +kernel
theorem dX4_march_71 : decode cX4_march 71 = .ok (.iconst 1, 1) := by decide +kernel
theorem dX4_march_72 : decode cX4_march 72 = .ok (.iadd, 1) := by decide +kernel
theorem dX4_march_73 : decode cX4_march 73 = .ok (.putfield 75, 3) := by decide +kernel
theorem dX4_march_76 : decode cX4_march 76 = .ok (.aload_n 0, 1) := by decide +kernel
theorem dX4_march_77 : decode cX4_march 77 = .ok (.dup, 1) := by decide +kernel
theorem dX4_march_78 : decode cX4_march 78 = .ok (.getfield 78, 3) := by decide +kernel
theorem dX4_march_81 : decode cX4_march 81 = .ok (.aload_n 0, 1) := by decide +kernel
theorem dX4_march_82 : decode cX4_march 82 = .ok (.getfield 125, 3) := by decide +kernel
theorem dX4_march_85 : decode cX4_march 85 = .ok (.ifCond .ne 7, 3) := by decide +kernel
theorem dX4_march_88 : decode cX4_march 88 = .ok (.iconst 0, 1) := by decide +kernel
theorem dX4_march_89 : decode cX4_march 89 = .ok (.goto 4, 3) := by decide +kernel
theorem dX4_march_92 : decode cX4_march 92 = .ok (.iconst 1, 1) := by decide +kernel
theorem dX4_march_93 : decode cX4_march 93 = .ok (.iadd, 1) := by decide +kernel
theorem dX4_march_94 : decode cX4_march 94 = .ok (.putfield 78, 3) := by decide +kernel
theorem dX4_march_97 : decode cX4_march 97 = .ok (.aload_n 0, 1) := by decide +kernel
theorem dX4_march_98 : decode cX4_march 98 = .ok (.getfield 125, 3) := by decide +kernel
theorem dX4_march_101 : decode cX4_march 101 = .ok (.ireturn, 1) := by decide +kernel
theorem dX4_wouldOf_0 : decode cX4_wouldOf 0 = .ok (.aload_n 0, 1) := by decide +kernel
theorem dX4_wouldOf_1 : decode cX4_wouldOf 1 = .ok (.iload_n 1, 1) := by decide +kernel
theorem dX4_wouldOf_2 : decode cX4_wouldOf 2 = .ok (.iload_n 2, 1) := by decide +kernel
theorem dX4_wouldOf_3 : decode cX4_wouldOf 3 = .ok (.iload_n 3, 1) := by decide +kernel
theorem dX4_wouldOf_4 : decode cX4_wouldOf 4 = .ok (.aload_n 0, 1) := by decide +kernel
theorem dX4_wouldOf_5 : decode cX4_wouldOf 5 = .ok (.getfield 16, 3) := by decide +kernel
theorem dX4_wouldOf_8 : decode cX4_wouldOf 8 = .ok (.invokevirtual 159, 3) := by decide +kernel
theorem dX4_wouldOf_11 : decode cX4_wouldOf 11 = .ok (.iload 4, 2) := by decide +kernel
theorem dX4_wouldOf_13 : decode cX4_wouldOf 13 = .ok (.ifCond .ne 10, 3) := by decide +kernel
theorem dX4_wouldOf_16 : decode cX4_wouldOf 16 = .ok (.aload_n 0, 1) := by decide +kernel
theorem dX4_wouldOf_17 : decode cX4_wouldOf 17 = .ok (.getfield 125, 3) := by decide +kernel
theorem dX4_wouldOf_20 : decode cX4_wouldOf 20 = .ok (.goto 36, 3) := by decide +kernel
theorem dX4_wouldOf_23 : decode cX4_wouldOf 23 = .ok (.iload 4, 2) := by decide +kernel
theorem dX4_wouldOf_25 : decode cX4_wouldOf 25 = .ok (.iconst 1, 1) := by decide +kernel
theorem dX4_wouldOf_26 : decode cX4_wouldOf 26 = .ok (.if_icmp .ne 10, 3) := by decide +kernel
theorem dX4_wouldOf_29 : decode cX4_wouldOf 29 = .ok (.aload_n 0, 1) := by decide +kernel
theorem dX4_wouldOf_30 : decode cX4_wouldOf 30 = .ok (.getfield 128, 3) := by decide +kernel
theorem dX4_wouldOf_33 : decode cX4_wouldOf 33 = .ok (.goto 23, 3) := by decide +kernel
theorem dX4_wouldOf_36 : decode cX4_wouldOf 36 = .ok (.iload 4, 2) := by decide +kernel
theorem dX4_wouldOf_38 : decode cX4_wouldOf 38 = .ok (.iconst 2, 1) := by decide +kernel
theorem dX4_wouldOf_39 : decode cX4_wouldOf 39 = .ok (.if_icmp .ne 13, 3) := by decide +kernel
theorem dX4_wouldOf_42 : decode cX4_wouldOf 42 = .ok (.aload_n 0, 1) := by decide +kernel
theorem dX4_wouldOf_43 : decode cX4_wouldOf 43 = .ok (.getfield 19, 3) := by decide +kernel
theorem dX4_wouldOf_46 : decode cX4_wouldOf 46 = .ok (.invokestatic 174, 3) := by decide +kernel
theorem dX4_wouldOf_49 : decode cX4_wouldOf 49 = .ok (.goto 7, 3) := by decide +kernel
theorem dX4_wouldOf_52 : decode cX4_wouldOf 52 = .ok (.aload_n 0, 1) := by decide +kernel
theorem dX4_wouldOf_53 : decode cX4_wouldOf 53 = .ok (.getfield 152, 3) := by decide +kernel
theorem dX4_wouldOf_56 : decode cX4_wouldOf 56 = .ok (.ireturn, 1) := by decide +kernel
theorem dX4_would_0 : decode cX4_would 0 = .ok (.aload_n 0, 1) := by decide +kernel
theorem dX4_would_1 : decode cX4_would 1 = .ok (.iload_n 1, 1) := by decide +kernel
theorem dX4_would_2 : decode cX4_would 2 = .ok (.iload_n 2, 1) := by decide +kernel
theorem dX4_would_3 : decode cX4_would 3 = .ok (.iload_n 3, 1) := by decide +kernel
theorem dX4_would_4 : decode cX4_would 4 = .ok (.invokevirtual 170, 3) := by decide +kernel
theorem dX4_would_7 : decode cX4_would 7 = .ok (.ifCond .eq 16, 3) := by decide +kernel
theorem dX4_would_10 : decode cX4_would 10 = .ok (.iload 4, 2) := by decide +kernel
theorem dX4_would_12 : decode cX4_would 12 = .ok (.i2l, 1) := by decide +kernel
theorem dX4_would_13 : decode cX4_would 13 = .ok (.lconst 0, 1) := by decide +kernel
theorem dX4_would_14 : decode cX4_would 14 = .ok (.ldc2_w 178, 3) := by decide +kernel
theorem dX4_would_17 : decode cX4_would 17 = .ok (.invokestatic 43, 3) := by decide +kernel
theorem dX4_would_20 : decode cX4_would 20 = .ok (.ifCond .ne 6, 3) := by decide +kernel
theorem dX4_would_23 : decode cX4_would 23 = .ok (.bipush (-102), 2) := by decide +kernel
theorem dX4_would_25 : decode cX4_would 25 = .ok (.ireturn, 1) := by decide +kernel
theorem dX4_would_26 : decode cX4_would 26 = .ok (.iload_n 1, 1) := by decide +kernel
theorem dX4_would_27 : decode cX4_would 27 = .ok (.aload_n 0, 1) := by decide +kernel
theorem dX4_would_28 : decode cX4_would 28 = .ok (.getfield 72, 3) := by decide +kernel
theorem dX4_would_31 : decode cX4_would 31 = .ok (.iconst (-1), 1) := by decide +kernel
theorem dX4_would_32 : decode cX4_would 32 = .ok (.ixor, 1) := by decide +kernel
theorem dX4_would_33 : decode cX4_would 33 = .ok (.iand, 1) := by decide +kernel
theorem dX4_would_34 : decode cX4_would 34 = .ok (.ifCond .eq 8, 3) := by decide +kernel
theorem dX4_would_37 : decode cX4_would 37 = .ok (.bipush (-103), 2) := by decide +kernel
theorem dX4_would_39 : decode cX4_would 39 = .ok (.goto 12, 3) := by decide +kernel
theorem dX4_would_42 : decode cX4_would 42 = .ok (.aload_n 0, 1) := by decide +kernel
theorem dX4_would_43 : decode cX4_would 43 = .ok (.iload_n 1, 1) := by decide +kernel
theorem dX4_would_44 : decode cX4_would 44 = .ok (.iload_n 2, 1) := by decide +kernel
theorem dX4_would_45 : decode cX4_would 45 = .ok (.iload_n 3, 1) := by decide +kernel
theorem dX4_would_46 : decode cX4_would 46 = .ok (.iload 4, 2) := by decide +kernel
theorem dX4_would_48 : decode cX4_would 48 = .ok (.invokevirtual 180, 3) := by decide +kernel
theorem dX4_would_51 : decode cX4_would 51 = .ok (.ireturn, 1) := by decide +kernel
theorem dX4_needOf_0 : decode cX4_needOf 0 = .ok (.iconst (-1), 1) := by decide +kernel
theorem dX4_needOf_1 : decode cX4_needOf 1 = .ok (.istore 4, 2) := by decide +kernel
theorem dX4_needOf_3 : decode cX4_needOf 3 = .ok (.bipush 40, 2) := by decide +kernel
theorem dX4_needOf_5 : decode cX4_needOf 5 = .ok (.istore 5, 2) := by decide +kernel
theorem dX4_needOf_7 : decode cX4_needOf 7 = .ok (.iload 5, 2) := by decide +kernel
theorem dX4_needOf_9 : decode cX4_needOf 9 = .ok (.ifCond .lt 30, 3) := by decide +kernel
theorem dX4_needOf_12 : decode cX4_needOf 12 = .ok (.aload_n 0, 1) := by decide +kernel
theorem dX4_needOf_13 : decode cX4_needOf 13 = .ok (.iload_n 1, 1) := by decide +kernel
theorem dX4_needOf_14 : decode cX4_needOf 14 = .ok (.iload_n 2, 1) := by decide +kernel
theorem dX4_needOf_15 : decode cX4_needOf 15 = .ok (.iload 5, 2) := by decide +kernel
theorem dX4_needOf_17 : decode cX4_needOf 17 = .ok (.aload_n 3, 1) := by decide +kernel
theorem dX4_needOf_18 : decode cX4_needOf 18 = .ok (.invokevirtual 184, 3) := by decide +kernel
theorem dX4_needOf_21 : decode cX4_needOf 21 = .ok (.ifCond .eq 8, 3) := by decide +kernel
theorem dX4_needOf_24 : decode cX4_needOf 24 = .ok (.iload 5, 2) := by decide +kernel
theorem dX4_needOf_26 : decode cX4_needOf 26 = .ok (.goto 5, 3) := by decide +kernel
theorem dX4_needOf_29 : decode cX4_needOf 29 = .ok (.iload 4, 2) := by decide +kernel
theorem dX4_needOf_31 : decode cX4_needOf 31 = .ok (.istore 4, 2) := by decide +kernel
theorem dX4_needOf_33 : decode cX4_needOf 33 = .ok (.iinc 5 (-1), 3) := by decide +kernel
theorem dX4_needOf_36 : decode cX4_needOf 36 = .ok (.goto (-29), 3) := by decide +kernel
theorem dX4_needOf_39 : decode cX4_needOf 39 = .ok (.iload 4, 2) := by decide +kernel
theorem dX4_needOf_41 : decode cX4_needOf 41 = .ok (.ireturn, 1) := by decide +kernel
theorem dX4_need_0 : decode cX4_need 0 = .ok (.aload_n 0, 1) := by decide +kernel
theorem dX4_need_1 : decode cX4_need 1 = .ok (.iload_n 1, 1) := by decide +kernel
theorem dX4_need_2 : decode cX4_need 2 = .ok (.invokevirtual 163, 3) := by decide +kernel
theorem dX4_need_5 : decode cX4_need 5 = .ok (.ifCond .eq 15, 3) := by decide +kernel
theorem dX4_need_8 : decode cX4_need 8 = .ok (.iload_n 2, 1) := by decide +kernel
theorem dX4_need_9 : decode cX4_need 9 = .ok (.i2l, 1) := by decide +kernel
theorem dX4_need_10 : decode cX4_need 10 = .ok (.lconst 1, 1) := by decide +kernel
theorem dX4_need_11 : decode cX4_need 11 = .ok (.ldc2_w 166, 3) := by decide +kernel
theorem dX4_need_14 : decode cX4_need 14 = .ok (.invokestatic 43, 3) := by decide +kernel
theorem dX4_need_17 : decode cX4_need 17 = .ok (.ifCond .ne 6, 3) := by decide +kernel
theorem dX4_need_20 : decode cX4_need 20 = .ok (.bipush (-102), 2) := by decide +kernel
theorem dX4_need_22 : decode cX4_need 22 = .ok (.ireturn, 1) := by decide +kernel
theorem dX4_need_23 : decode cX4_need 23 = .ok (.iload_n 1, 1) := by decide +kernel
theorem dX4_need_24 : decode cX4_need 24 = .ok (.aload_n 0, 1) := by decide +kernel
theorem dX4_need_25 : decode cX4_need 25 = .ok (.getfield 72, 3) := by decide +kernel
theorem dX4_need_28 : decode cX4_need 28 = .ok (.iconst (-1), 1) := by decide +kernel
theorem dX4_need_29 : decode cX4_need 29 = .ok (.ixor, 1) := by decide +kernel
theorem dX4_need_30 : decode cX4_need 30 = .ok (.iand, 1) := by decide +kernel
theorem dX4_need_31 : decode cX4_need 31 = .ok (.ifCond .eq 8, 3) := by decide +kernel
theorem dX4_need_34 : decode cX4_need 34 = .ok (.bipush (-103), 2) := by decide +kernel
theorem dX4_need_36 : decode cX4_need 36 = .ok (.goto 13, 3) := by decide +kernel
theorem dX4_need_39 : decode cX4_need 39 = .ok (.aload_n 0, 1) := by decide +kernel
theorem dX4_need_40 : decode cX4_need 40 = .ok (.iload_n 1, 1) := by decide +kernel
theorem dX4_need_41 : decode cX4_need 41 = .ok (.iload_n 2, 1) := by decide +kernel
theorem dX4_need_42 : decode cX4_need 42 = .ok (.aload_n 0, 1) := by decide +kernel
theorem dX4_need_43 : decode cX4_need 43 = .ok (.getfield 16, 3) := by decide +kernel
theorem dX4_need_46 : decode cX4_need 46 = .ok (.invokevirtual 188, 3) := by decide +kernel
theorem dX4_need_49 : decode cX4_need 49 = .ok (.ireturn, 1) := by decide +kernel
theorem dX4_farOf_0 : decode cX4_farOf 0 = .ok (.iconst 0, 1) := by decide +kernel
theorem dX4_farOf_1 : decode cX4_farOf 1 = .ok (.istore_n 3, 1) := by decide +kernel
theorem dX4_farOf_2 : decode cX4_farOf 2 = .ok (.iconst 1, 1) := by decide +kernel
theorem dX4_farOf_3 : decode cX4_farOf 3 = .ok (.istore 4, 2) := by decide +kernel
theorem dX4_farOf_5 : decode cX4_farOf 5 = .ok (.iload 4, 2) := by decide +kernel
theorem dX4_farOf_7 : decode cX4_farOf 7 = .ok (.bipush 7, 2) := by decide +kernel
theorem dX4_farOf_9 : decode cX4_farOf 9 = .ok (.if_icmp .ge 28, 3) := by decide +kernel
theorem dX4_farOf_12 : decode cX4_farOf 12 = .ok (.aload_n 0, 1) := by decide +kernel
theorem dX4_farOf_13 : decode cX4_farOf 13 = .ok (.iload_n 1, 1) := by decide +kernel
theorem dX4_farOf_14 : decode cX4_farOf 14 = .ok (.iload 4, 2) := by decide +kernel
theorem dX4_farOf_16 : decode cX4_farOf 16 = .ok (.aload_n 2, 1) := by decide +kernel
theorem dX4_farOf_17 : decode cX4_farOf 17 = .ok (.invokevirtual 188, 3) := by decide +kernel
theorem dX4_farOf_20 : decode cX4_farOf 20 = .ok (.iconst (-1), 1) := by decide +kernel
theorem dX4_farOf_21 : decode cX4_farOf 21 = .ok (.if_icmp .ne 7, 3) := by decide +kernel
theorem dX4_farOf_24 : decode cX4_farOf 24 = .ok (.iload_n 3, 1) := by decide +kernel
theorem dX4_farOf_25 : decode cX4_farOf 25 = .ok (.goto 5, 3) := by decide +kernel
theorem dX4_farOf_28 : decode cX4_farOf 28 = .ok (.iload 4, 2) := by decide +kernel
theorem dX4_farOf_30 : decode cX4_farOf 30 = .ok (.istore_n 3, 1) := by decide +kernel
theorem dX4_farOf_31 : decode cX4_farOf 31 = .ok (.iinc 4 1, 3) := by decide +kernel
theorem dX4_farOf_34 : decode cX4_farOf 34 = .ok (.goto (-29), 3) := by decide +kernel
theorem dX4_farOf_37 : decode cX4_farOf 37 = .ok (.iload_n 3, 1) := by decide +kernel
theorem dX4_farOf_38 : decode cX4_farOf 38 = .ok (.ireturn, 1) := by decide +kernel
theorem dX4_far_0 : decode cX4_far 0 = .ok (.aload_n 0, 1) := by decide +kernel
theorem dX4_far_1 : decode cX4_far 1 = .ok (.iload_n 1, 1) := by decide +kernel
theorem dX4_far_2 : decode cX4_far 2 = .ok (.invokevirtual 163, 3) := by decide +kernel
theorem dX4_far_5 : decode cX4_far 5 = .ok (.ifCond .ne 6, 3) := by decide +kernel
theorem dX4_far_8 : decode cX4_far 8 = .ok (.bipush (-102), 2) := by decide +kernel
theorem dX4_far_10 : decode cX4_far 10 = .ok (.ireturn, 1) := by decide +kernel
theorem dX4_far_11 : decode cX4_far 11 = .ok (.iload_n 1, 1) := by decide +kernel
theorem dX4_far_12 : decode cX4_far 12 = .ok (.aload_n 0, 1) := by decide +kernel
theorem dX4_far_13 : decode cX4_far 13 = .ok (.getfield 72, 3) := by decide +kernel
theorem dX4_far_16 : decode cX4_far 16 = .ok (.iconst (-1), 1) := by decide +kernel
theorem dX4_far_17 : decode cX4_far 17 = .ok (.ixor, 1) := by decide +kernel
theorem dX4_far_18 : decode cX4_far 18 = .ok (.iand, 1) := by decide +kernel
theorem dX4_far_19 : decode cX4_far 19 = .ok (.ifCond .eq 8, 3) := by decide +kernel
theorem dX4_far_22 : decode cX4_far 22 = .ok (.bipush (-103), 2) := by decide +kernel
theorem dX4_far_24 : decode cX4_far 24 = .ok (.goto 12, 3) := by decide +kernel
theorem dX4_far_27 : decode cX4_far 27 = .ok (.aload_n 0, 1) := by decide +kernel
theorem dX4_far_28 : decode cX4_far 28 = .ok (.iload_n 1, 1) := by decide +kernel
theorem dX4_far_29 : decode cX4_far 29 = .ok (.aload_n 0, 1) := by decide +kernel
theorem dX4_far_30 : decode cX4_far 30 = .ok (.getfield 16, 3) := by decide +kernel
theorem dX4_far_33 : decode cX4_far 33 = .ok (.invokevirtual 192, 3) := by decide +kernel
theorem dX4_far_36 : decode cX4_far 36 = .ok (.ireturn, 1) := by decide +kernel
theorem dX4_teamOf_0 : decode cX4_teamOf 0 = .ok (.iconst (-1), 1) := by decide +kernel
theorem dX4_teamOf_1 : decode cX4_teamOf 1 = .ok (.istore_n 2, 1) := by decide +kernel
theorem dX4_teamOf_2 : decode cX4_teamOf 2 = .ok (.iconst 1, 1) := by decide +kernel
theorem dX4_teamOf_3 : decode cX4_teamOf 3 = .ok (.istore_n 3, 1) := by decide +kernel
theorem dX4_teamOf_4 : decode cX4_teamOf 4 = .ok (.iload_n 3, 1) := by decide +kernel
theorem dX4_teamOf_5 : decode cX4_teamOf 5 = .ok (.iconst 1, 1) := by decide +kernel
theorem dX4_teamOf_6 : decode cX4_teamOf 6 = .ok (.aload_n 0, 1) := by decide +kernel
theorem dX4_teamOf_7 : decode cX4_teamOf 7 = .ok (.getfield 69, 3) := by decide +kernel
theorem dX4_teamOf_10 : decode cX4_teamOf 10 = .ok (.ishl, 1) := by decide +kernel
theorem dX4_teamOf_11 : decode cX4_teamOf 11 = .ok (.if_icmp .ge 68, 3) := by decide +kernel
theorem dX4_teamOf_14 : decode cX4_teamOf 14 = .ok (.iload_n 3, 1) := by decide +kernel
theorem dX4_teamOf_15 : decode cX4_teamOf 15 = .ok (.aload_n 0, 1) := by decide +kernel
theorem dX4_teamOf_16 : decode cX4_teamOf 16 = .ok (.getfield 72, 3) := by decide +kernel
theorem dX4_teamOf_19 : decode cX4_teamOf 19 = .ok (.iconst (-1), 1) := by decide +kernel
theorem dX4_teamOf_20 : decode cX4_teamOf 20 = .ok (.ixor, 1) := by decide +kernel
theorem dX4_teamOf_21 : decode cX4_teamOf 21 = .ok (.iand, 1) := by decide +kernel
theorem dX4_teamOf_22 : decode cX4_teamOf 22 = .ok (.ifCond .ne 23, 3) := by decide +kernel
theorem dX4_teamOf_25 : decode cX4_teamOf 25 = .ok (.iload_n 2, 1) := by decide +kernel
theorem dX4_teamOf_26 : decode cX4_teamOf 26 = .ok (.iconst (-1), 1) := by decide +kernel
theorem dX4_teamOf_27 : decode cX4_teamOf 27 = .ok (.if_icmp .eq 14, 3) := by decide +kernel
theorem dX4_teamOf_30 : decode cX4_teamOf 30 = .ok (.iload_n 3, 1) := by decide +kernel
theorem dX4_teamOf_31 : decode cX4_teamOf 31 = .ok (.invokestatic 196, 3) := by decide +kernel
theorem dX4_teamOf_34 : decode cX4_teamOf 34 = .ok (.iload_n 2, 1) := by decide +kernel
theorem dX4_teamOf_35 : decode cX4_teamOf 35 = .ok (.invokestatic 196, 3) := by decide +kernel
theorem dX4_teamOf_38 : decode cX4_teamOf 38 = .ok (.if_icmp .ge 7, 3) := by decide +kernel
theorem dX4_teamOf_41 : decode cX4_teamOf 41 = .ok (.iconst 1, 1) := by decide +kernel
theorem dX4_teamOf_42 : decode cX4_teamOf 42 = .ok (.goto 4, 3) := by decide +kernel
theorem dX4_teamOf_45 : decode cX4_teamOf 45 = .ok (.iconst 0, 1) := by decide +kernel
theorem dX4_teamOf_46 : decode cX4_teamOf 46 = .ok (.istore 4, 2) := by decide +kernel
theorem dX4_teamOf_48 : decode cX4_teamOf 48 = .ok (.iload 4, 2) := by decide +kernel
theorem dX4_teamOf_50 : decode cX4_teamOf 50 = .ok (.ifCond .eq 21, 3) := by decide +kernel
theorem dX4_teamOf_53 : decode cX4_teamOf 53 = .ok (.aload_n 0, 1) := by decide +kernel
theorem dX4_teamOf_54 : decode cX4_teamOf 54 = .ok (.iload_n 3, 1) := by decide +kernel
theorem dX4_teamOf_55 : decode cX4_teamOf 55 = .ok (.iload_n 1, 1) := by decide +kernel
theorem dX4_teamOf_56 : decode cX4_teamOf 56 = .ok (.aload_n 0, 1) := by decide +kernel
theorem dX4_teamOf_57 : decode cX4_teamOf 57 = .ok (.getfield 16, 3) := by decide +kernel
theorem dX4_teamOf_60 : decode cX4_teamOf 60 = .ok (.invokevirtual 188, 3) := by decide +kernel
theorem dX4_teamOf_63 : decode cX4_teamOf 63 = .ok (.iconst (-1), 1) := by decide +kernel
theorem dX4_teamOf_64 : decode cX4_teamOf 64 = .ok (.if_icmp .eq 7, 3) := by decide +kernel
theorem dX4_teamOf_67 : decode cX4_teamOf 67 = .ok (.iload_n 3, 1) := by decide +kernel
theorem dX4_teamOf_68 : decode cX4_teamOf 68 = .ok (.goto 4, 3) := by decide +kernel
theorem dX4_teamOf_71 : decode cX4_teamOf 71 = .ok (.iload_n 2, 1) := by decide +kernel
theorem dX4_teamOf_72 : decode cX4_teamOf 72 = .ok (.istore_n 2, 1) := by decide +kernel
theorem dX4_teamOf_73 : decode cX4_teamOf 73 = .ok (.iinc 3 1, 3) := by decide +kernel
theorem dX4_teamOf_76 : decode cX4_teamOf 76 = .ok (.goto (-72), 3) := by decide +kernel
theorem dX4_teamOf_79 : decode cX4_teamOf 79 = .ok (.iload_n 2, 1) := by decide +kernel
theorem dX4_teamOf_80 : decode cX4_teamOf 80 = .ok (.ireturn, 1) := by decide +kernel
theorem dX4_team_0 : decode cX4_team 0 = .ok (.iload_n 1, 1) := by decide +kernel
theorem dX4_team_1 : decode cX4_team 1 = .ok (.i2l, 1) := by decide +kernel
theorem dX4_team_2 : decode cX4_team 2 = .ok (.lconst 1, 1) := by decide +kernel
theorem dX4_team_3 : decode cX4_team 3 = .ok (.ldc2_w 166, 3) := by decide +kernel
theorem dX4_team_6 : decode cX4_team 6 = .ok (.invokestatic 43, 3) := by decide +kernel
theorem dX4_team_9 : decode cX4_team 9 = .ok (.ifCond .ne 6, 3) := by decide +kernel
theorem dX4_team_12 : decode cX4_team 12 = .ok (.bipush (-102), 2) := by decide +kernel
theorem dX4_team_14 : decode cX4_team 14 = .ok (.ireturn, 1) := by decide +kernel
theorem dX4_team_15 : decode cX4_team 15 = .ok (.aload_n 0, 1) := by decide +kernel
theorem dX4_team_16 : decode cX4_team 16 = .ok (.invokevirtual 87, 3) := by decide +kernel
theorem dX4_team_19 : decode cX4_team 19 = .ok (.ifCond .ne 12, 3) := by decide +kernel
theorem dX4_team_22 : decode cX4_team 22 = .ok (.aload_n 0, 1) := by decide +kernel
theorem dX4_team_23 : decode cX4_team 23 = .ok (.getfield 199, 3) := by decide +kernel
theorem dX4_team_26 : decode cX4_team 26 = .ok (.bipush 20, 2) := by decide +kernel
theorem dX4_team_28 : decode cX4_team 28 = .ok (.if_icmp .ne 6, 3) := by decide +kernel
theorem dX4_team_31 : decode cX4_team 31 = .ok (.bipush (-103), 2) := by decide +kernel
theorem dX4_team_33 : decode cX4_team 33 = .ok (.ireturn, 1) := by decide +kernel
theorem dX4_team_34 : decode cX4_team 34 = .ok (.aload_n 0, 1) := by decide +kernel
theorem dX4_team_35 : decode cX4_team 35 = .ok (.dup, 1) := by decide +kernel
theorem dX4_team_36 : decode cX4_team 36 = .ok (.getfield 199, 3) := by decide +kernel
theorem dX4_team_39 : decode cX4_team 39 = .ok (.iconst 1, 1) := by decide +kernel
theorem dX4_team_40 : decode cX4_team 40 = .ok (.iadd, 1) := by decide +kernel
theorem dX4_team_41 : decode cX4_team 41 = .ok (.putfield 199, 3) := by decide +kernel
theorem dX4_team_44 : decode cX4_team 44 = .ok (.aload_n 0, 1) := by decide +kernel
theorem dX4_team_45 : decode cX4_team 45 = .ok (.iload_n 1, 1) := by decide +kernel
theorem dX4_team_46 : decode cX4_team 46 = .ok (.invokevirtual 202, 3) := by decide +kernel
theorem dX4_team_49 : decode cX4_team 49 = .ok (.ireturn, 1) := by decide +kernel
theorem dX4_hear_0 : decode cX4_hear 0 = .ok (.aload_n 0, 1) := by decide +kernel
theorem dX4_hear_1 : decode cX4_hear 1 = .ok (.iload_n 1, 1) := by decide +kernel
theorem dX4_hear_2 : decode cX4_hear 2 = .ok (.iload_n 2, 1) := by decide +kernel
theorem dX4_hear_3 : decode cX4_hear 3 = .ok (.iload_n 3, 1) := by decide +kernel
theorem dX4_hear_4 : decode cX4_hear 4 = .ok (.invokevirtual 170, 3) := by decide +kernel
theorem dX4_hear_7 : decode cX4_hear 7 = .ok (.ifCond .ne 6, 3) := by decide +kernel
theorem dX4_hear_10 : decode cX4_hear 10 = .ok (.bipush (-102), 2) := by decide +kernel
theorem dX4_hear_12 : decode cX4_hear 12 = .ok (.ireturn, 1) := by decide +kernel
theorem dX4_hear_13 : decode cX4_hear 13 = .ok (.aload_n 0, 1) := by decide +kernel
theorem dX4_hear_14 : decode cX4_hear 14 = .ok (.getfield 81, 3) := by decide +kernel
theorem dX4_hear_17 : decode cX4_hear 17 = .ok (.bipush 6, 2) := by decide +kernel
theorem dX4_hear_19 : decode cX4_hear 19 = .ok (.if_icmp .ne 6, 3) := by decide +kernel
theorem dX4_hear_22 : decode cX4_hear 22 = .ok (.bipush (-104), 2) := by decide +kernel
theorem dX4_hear_24 : decode cX4_hear 24 = .ok (.ireturn, 1) := by decide +kernel
theorem dX4_hear_25 : decode cX4_hear 25 = .ok (.aload_n 0, 1) := by decide +kernel
theorem dX4_hear_26 : decode cX4_hear 26 = .ok (.getfield 22, 3) := by decide +kernel
theorem dX4_hear_29 : decode cX4_hear 29 = .ok (.iconst 4, 1) := by decide +kernel
theorem dX4_hear_30 : decode cX4_hear 30 = .ok (.aload_n 0, 1) := by decide +kernel
theorem dX4_hear_31 : decode cX4_hear 31 = .ok (.getfield 81, 3) := by decide +kernel
theorem dX4_hear_34 : decode cX4_hear 34 = .ok (.imul, 1) := by decide +kernel
theorem dX4_hear_35 : decode cX4_hear 35 = .ok (.iload_n 1, 1) := by decide +kernel
theorem dX4_hear_36 : decode cX4_hear 36 = .ok (.iastore, 1) := by decide +kernel
theorem dX4_hear_37 : decode cX4_hear 37 = .ok (.aload_n 0, 1) := by decide +kernel
theorem dX4_hear_38 : decode cX4_hear 38 = .ok (.getfield 22, 3) := by decide +kernel
theorem dX4_hear_41 : decode cX4_hear 41 = .ok (.iconst 4, 1) := by decide +kernel
theorem dX4_hear_42 : decode cX4_hear 42 = .ok (.aload_n 0, 1) := by decide +kernel
theorem dX4_hear_43 : decode cX4_hear 43 = .ok (.getfield 81, 3) := by decide +kernel
theorem dX4_hear_46 : decode cX4_hear 46 = .ok (.imul, 1) := by decide +kernel
theorem dX4_hear_47 : decode cX4_hear 47 = .ok (.iconst 1, 1) := by decide +kernel
theorem dX4_hear_48 : decode cX4_hear 48 = .ok (.iadd, 1) := by decide +kernel
theorem dX4_hear_49 : decode cX4_hear 49 = .ok (.iload_n 2, 1) := by decide +kernel
theorem dX4_hear_50 : decode cX4_hear 50 = .ok (.iastore, 1) := by decide +kernel
theorem dX4_hear_51 : decode cX4_hear 51 = .ok (.aload_n 0, 1) := by decide +kernel
theorem dX4_hear_52 : decode cX4_hear 52 = .ok (.getfield 22, 3) := by decide +kernel
theorem dX4_hear_55 : decode cX4_hear 55 = .ok (.iconst 4, 1) := by decide +kernel
theorem dX4_hear_56 : decode cX4_hear 56 = .ok (.aload_n 0, 1) := by decide +kernel
theorem dX4_hear_57 : decode cX4_hear 57 = .ok (.getfield 81, 3) := by decide +kernel
theorem dX4_hear_60 : decode cX4_hear 60 = .ok (.imul, 1) := by decide +kernel
theorem dX4_hear_61 : decode cX4_hear 61 = .ok (.iconst 2, 1) := by decide +kernel
theorem dX4_hear_62 : decode cX4_hear 62 = .ok (.iadd, 1) := by decide +kernel
theorem dX4_hear_63 : decode cX4_hear 63 = .ok (.iload_n 3, 1) := by decide +kernel
theorem dX4_hear_64 : decode cX4_hear 64 = .ok (.iastore, 1) := by decide +kernel
theorem dX4_hear_65 : decode cX4_hear 65 = .ok (.aload_n 0, 1) := by decide +kernel
theorem dX4_hear_66 : decode cX4_hear 66 = .ok (.getfield 22, 3) := by decide +kernel
theorem dX4_hear_69 : decode cX4_hear 69 = .ok (.iconst 4, 1) := by decide +kernel
theorem dX4_hear_70 : decode cX4_hear 70 = .ok (.aload_n 0, 1) := by decide +kernel
theorem dX4_hear_71 : decode cX4_hear 71 = .ok (.getfield 81, 3) := by decide +kernel
theorem dX4_hear_74 : decode cX4_hear 74 = .ok (.imul, 1) := by decide +kernel
theorem dX4_hear_75 : decode cX4_hear 75 = .ok (.iconst 3, 1) := by decide +kernel
theorem dX4_hear_76 : decode cX4_hear 76 = .ok (.iadd, 1) := by decide +kernel
theorem dX4_hear_77 : decode cX4_hear 77 = .ok (.iload 4, 2) := by decide +kernel
theorem dX4_hear_79 : decode cX4_hear 79 = .ok (.ifCond .eq 7, 3) := by decide +kernel
theorem dX4_hear_82 : decode cX4_hear 82 = .ok (.iconst 1, 1) := by decide +kernel
theorem dX4_hear_83 : decode cX4_hear 83 = .ok (.goto 4, 3) := by decide +kernel
theorem dX4_hear_86 : decode cX4_hear 86 = .ok (.iconst 0, 1) := by decide +kernel
theorem dX4_hear_87 : decode cX4_hear 87 = .ok (.iastore, 1) := by decide +kernel
theorem dX4_hear_88 : decode cX4_hear 88 = .ok (.aload_n 0, 1) := by decide +kernel
theorem dX4_hear_89 : decode cX4_hear 89 = .ok (.dup, 1) := by decide +kernel
theorem dX4_hear_90 : decode cX4_hear 90 = .ok (.getfield 81, 3) := by decide +kernel
theorem dX4_hear_93 : decode cX4_hear 93 = .ok (.iconst 1, 1) := by decide +kernel
theorem dX4_hear_94 : decode cX4_hear 94 = .ok (.iadd, 1) := by decide +kernel
theorem dX4_hear_95 : decode cX4_hear 95 = .ok (.putfield 81, 3) := by decide +kernel
theorem dX4_hear_98 : decode cX4_hear 98 = .ok (.aload_n 0, 1) := by decide +kernel
theorem dX4_hear_99 : decode cX4_hear 99 = .ok (.getfield 81, 3) := by decide +kernel
theorem dX4_hear_102 : decode cX4_hear 102 = .ok (.ireturn, 1) := by decide +kernel
theorem dX4_forget_0 : decode cX4_forget 0 = .ok (.aload_n 0, 1) := by decide +kernel
theorem dX4_forget_1 : decode cX4_forget 1 = .ok (.getfield 81, 3) := by decide +kernel
theorem dX4_forget_4 : decode cX4_forget 4 = .ok (.istore_n 1, 1) := by decide +kernel
theorem dX4_forget_5 : decode cX4_forget 5 = .ok (.aload_n 0, 1) := by decide +kernel
theorem dX4_forget_6 : decode cX4_forget 6 = .ok (.iconst 0, 1) := by decide +kernel
theorem dX4_forget_7 : decode cX4_forget 7 = .ok (.putfield 81, 3) := by decide +kernel
theorem dX4_forget_10 : decode cX4_forget 10 = .ok (.iload_n 1, 1) := by decide +kernel
theorem dX4_forget_11 : decode cX4_forget 11 = .ok (.ireturn, 1) := by decide +kernel
theorem dX4_layOf_0 : decode cX4_layOf 0 = .ok (.aload_n 0, 1) := by decide +kernel
theorem dX4_layOf_1 : decode cX4_layOf 1 = .ok (.getfield 16, 3) := by decide +kernel
theorem dX4_layOf_4 : decode cX4_layOf 4 = .ok (.aload_n 0, 1) := by decide +kernel
theorem dX4_layOf_5 : decode cX4_layOf 5 = .ok (.getfield 25, 3) := by decide +kernel
theorem dX4_layOf_8 : decode cX4_layOf 8 = .ok (.invokestatic 148, 3) := by decide +kernel
theorem dX4_layOf_11 : decode cX4_layOf 11 = .ok (.iconst 0, 1) := by decide +kernel
theorem dX4_layOf_12 : decode cX4_layOf 12 = .ok (.istore_n 2, 1) := by decide +kernel
theorem dX4_layOf_13 : decode cX4_layOf 13 = .ok (.iconst 0, 1) := by decide +kernel
theorem dX4_layOf_14 : decode cX4_layOf 14 = .ok (.istore_n 3, 1) := by decide +kernel
theorem dX4_layOf_15 : decode cX4_layOf 15 = .ok (.iload_n 3, 1) := by decide +kernel
theorem dX4_layOf_16 : decode cX4_layOf 16 = .ok (.bipush 10, 2) := by decide +kernel
theorem dX4_layOf_18 : decode cX4_layOf 18 = .ok (.if_icmp .ge 124, 3) := by decide +kernel
theorem dX4_layOf_21 : decode cX4_layOf 21 = .ok (.aload_n 0, 1) := by decide +kernel
theorem dX4_layOf_22 : decode cX4_layOf 22 = .ok (.getfield 25, 3) := by decide +kernel
theorem dX4_layOf_25 : decode cX4_layOf 25 = .ok (.iload_n 1, 1) := by decide +kernel
theorem dX4_layOf_26 : decode cX4_layOf 26 = .ok (.iload_n 3, 1) := by decide +kernel
theorem dX4_layOf_27 : decode cX4_layOf 27 = .ok (.iastore, 1) := by decide +kernel
theorem dX4_layOf_28 : decode cX4_layOf 28 = .ok (.iconst 1, 1) := by decide +kernel
theorem dX4_layOf_29 : decode cX4_layOf 29 = .ok (.istore 4, 2) := by decide +kernel
theorem dX4_layOf_31 : decode cX4_layOf 31 = .ok (.iconst 0, 1) := by decide +kernel
theorem dX4_layOf_32 : decode cX4_layOf 32 = .ok (.istore 5, 2) := by decide +kernel
theorem dX4_layOf_34 : decode cX4_layOf 34 = .ok (.iload 5, 2) := by decide +kernel
theorem dX4_layOf_36 : decode cX4_layOf 36 = .ok (.iconst 4, 1) := by decide +kernel
theorem dX4_layOf_37 : decode cX4_layOf 37 = .ok (.aload_n 0, 1) := by decide +kernel
theorem dX4_layOf_38 : decode cX4_layOf 38 = .ok (.getfield 81, 3) := by decide +kernel
theorem dX4_layOf_41 : decode cX4_layOf 41 = .ok (.imul, 1) := by decide +kernel
theorem dX4_layOf_42 : decode cX4_layOf 42 = .ok (.if_icmp .ge 79, 3) := by decide +kernel
theorem dX4_layOf_45 : decode cX4_layOf 45 = .ok (.aload_n 0, 1) := by decide +kernel
theorem dX4_layOf_46 : decode cX4_layOf 46 = .ok (.aload_n 0, 1) := by decide +kernel
theorem dX4_layOf_47 : decode cX4_layOf 47 = .ok (.getfield 22, 3) := by decide +kernel
theorem dX4_layOf_50 : decode cX4_layOf 50 = .ok (.iload 5, 2) := by decide +kernel
theorem dX4_layOf_52 : decode cX4_layOf 52 = .ok (.iaload, 1) := by decide +kernel
theorem dX4_layOf_53 : decode cX4_layOf 53 = .ok (.aload_n 0, 1) := by decide +kernel
theorem dX4_layOf_54 : decode cX4_layOf 54 = .ok (.getfield 22, 3) := by decide +kernel
theorem dX4_layOf_57 : decode cX4_layOf 57 = .ok (.iload 5, 2) := by decide +kernel
theorem dX4_layOf_59 : decode cX4_layOf 59 = .ok (.iconst 1, 1) := by decide +kernel
theorem dX4_layOf_60 : decode cX4_layOf 60 = .ok (.iadd, 1) := by decide +kernel
theorem dX4_layOf_61 : decode cX4_layOf 61 = .ok (.iaload, 1) := by decide +kernel
theorem dX4_layOf_62 : decode cX4_layOf 62 = .ok (.aload_n 0, 1) := by decide +kernel
theorem dX4_layOf_63 : decode cX4_layOf 63 = .ok (.getfield 22, 3) := by decide +kernel
theorem dX4_layOf_66 : decode cX4_layOf 66 = .ok (.iload 5, 2) := by decide +kernel
theorem dX4_layOf_68 : decode cX4_layOf 68 = .ok (.iconst 2, 1) := by decide +kernel
theorem dX4_layOf_69 : decode cX4_layOf 69 = .ok (.iadd, 1) := by decide +kernel
theorem dX4_layOf_70 : decode cX4_layOf 70 = .ok (.iaload, 1) := by decide +kernel
theorem dX4_layOf_71 : decode cX4_layOf 71 = .ok (.aload_n 0, 1) := by decide +kernel
theorem dX4_layOf_72 : decode cX4_layOf 72 = .ok (.getfield 25, 3) := by decide +kernel
theorem dX4_layOf_75 : decode cX4_layOf 75 = .ok (.invokevirtual 184, 3) := by decide +kernel
theorem dX4_layOf_78 : decode cX4_layOf 78 = .ok (.istore 6, 2) := by decide +kernel
theorem dX4_layOf_80 : decode cX4_layOf 80 = .ok (.iload 4, 2) := by decide +kernel
theorem dX4_layOf_82 : decode cX4_layOf 82 = .ok (.ifCond .eq 30, 3) := by decide +kernel
theorem dX4_layOf_85 : decode cX4_layOf 85 = .ok (.iload 6, 2) := by decide +kernel
theorem dX4_layOf_87 : decode cX4_layOf 87 = .ok (.aload_n 0, 1) := by decide +kernel
theorem dX4_layOf_88 : decode cX4_layOf 88 = .ok (.getfield 22, 3) := by decide +kernel
theorem dX4_layOf_91 : decode cX4_layOf 91 = .ok (.iload 5, 2) := by decide +kernel
theorem dX4_layOf_93 : decode cX4_layOf 93 = .ok (.iconst 3, 1) := by decide +kernel
theorem dX4_layOf_94 : decode cX4_layOf 94 = .ok (.iadd, 1) := by decide +kernel
theorem dX4_layOf_95 : decode cX4_layOf 95 = .ok (.iaload, 1) := by decide +kernel
theorem dX4_layOf_96 : decode cX4_layOf 96 = .ok (.iconst 1, 1) := by decide +kernel
theorem dX4_layOf_97 : decode cX4_layOf 97 = .ok (.if_icmp .ne 7, 3) := by decide +kernel
theorem dX4_layOf_100 : decode cX4_layOf 100 = .ok (.iconst 1, 1) := by decide +kernel
theorem dX4_layOf_101 : decode cX4_layOf 101 = .ok (.goto 4, 3) := by decide +kernel
theorem dX4_layOf_104 : decode cX4_layOf 104 = .ok (.iconst 0, 1) := by decide +kernel
theorem dX4_layOf_105 : decode cX4_layOf 105 = .ok (.if_icmp .ne 7, 3) := by decide +kernel
theorem dX4_layOf_108 : decode cX4_layOf 108 = .ok (.iconst 1, 1) := by decide +kernel
theorem dX4_layOf_109 : decode cX4_layOf 109 = .ok (.goto 4, 3) := by decide +kernel
theorem dX4_layOf_112 : decode cX4_layOf 112 = .ok (.iconst 0, 1) := by decide +kernel
theorem dX4_layOf_113 : decode cX4_layOf 113 = .ok (.istore 4, 2) := by decide +kernel
theorem dX4_layOf_115 : decode cX4_layOf 115 = .ok (.iinc 5 4, 3) := by decide +kernel
theorem dX4_layOf_118 : decode cX4_layOf 118 = .ok (.goto (-84), 3) := by decide +kernel
theorem dX4_layOf_121 : decode cX4_layOf 121 = .ok (.iload_n 2, 1) := by decide +kernel
theorem dX4_layOf_122 : decode cX4_layOf 122 = .ok (.iload 4, 2) := by decide +kernel
theorem dX4_layOf_124 : decode cX4_layOf 124 = .ok (.ifCond .eq 9, 3) := by decide +kernel
theorem dX4_layOf_127 : decode cX4_layOf 127 = .ok (.iconst 1, 1) := by decide +kernel
theorem dX4_layOf_128 : decode cX4_layOf 128 = .ok (.iload_n 3, 1) := by decide +kernel
theorem dX4_layOf_129 : decode cX4_layOf 129 = .ok (.ishl, 1) := by decide +kernel
theorem dX4_layOf_130 : decode cX4_layOf 130 = .ok (.goto 4, 3) := by decide +kernel
theorem dX4_layOf_133 : decode cX4_layOf 133 = .ok (.iconst 0, 1) := by decide +kernel
theorem dX4_layOf_134 : decode cX4_layOf 134 = .ok (.ior, 1) := by decide +kernel
theorem dX4_layOf_135 : decode cX4_layOf 135 = .ok (.istore_n 2, 1) := by decide +kernel
theorem dX4_layOf_136 : decode cX4_layOf 136 = .ok (.iinc 3 1, 3) := by decide +kernel
theorem dX4_layOf_139 : decode cX4_layOf 139 = .ok (.goto (-124), 3) := by decide +kernel
theorem dX4_layOf_142 : decode cX4_layOf 142 = .ok (.iload_n 2, 1) := by decide +kernel
theorem dX4_layOf_143 : decode cX4_layOf 143 = .ok (.ireturn, 1) := by decide +kernel
theorem dX4_tryOf_0 : decode cX4_tryOf 0 = .ok (.aload_n 0, 1) := by decide +kernel
theorem dX4_tryOf_1 : decode cX4_tryOf 1 = .ok (.iload_n 1, 1) := by decide +kernel
theorem dX4_tryOf_2 : decode cX4_tryOf 2 = .ok (.invokevirtual 111, 3) := by decide +kernel
theorem dX4_tryOf_5 : decode cX4_tryOf 5 = .ok (.istore_n 2, 1) := by decide +kernel
theorem dX4_tryOf_6 : decode cX4_tryOf 6 = .ok (.iconst (-1), 1) := by decide +kernel
theorem dX4_tryOf_7 : decode cX4_tryOf 7 = .ok (.istore_n 3, 1) := by decide +kernel
theorem dX4_tryOf_8 : decode cX4_tryOf 8 = .ok (.bipush 11, 2) := by decide +kernel
theorem dX4_tryOf_10 : decode cX4_tryOf 10 = .ok (.istore 4, 2) := by decide +kernel
theorem dX4_tryOf_12 : decode cX4_tryOf 12 = .ok (.iconst 0, 1) := by decide +kernel
theorem dX4_tryOf_13 : decode cX4_tryOf 13 = .ok (.istore 5, 2) := by decide +kernel
theorem dX4_tryOf_15 : decode cX4_tryOf 15 = .ok (.iload 5, 2) := by decide +kernel
theorem dX4_tryOf_17 : decode cX4_tryOf 17 = .ok (.bipush 41, 2) := by decide +kernel
theorem dX4_tryOf_19 : decode cX4_tryOf 19 = .ok (.if_icmp .ge 144, 3) := by decide +kernel
theorem dX4_tryOf_22 : decode cX4_tryOf 22 = .ok (.iload_n 2, 1) := by decide +kernel
theorem dX4_tryOf_23 : decode cX4_tryOf 23 = .ok (.ifCond .eq 140, 3) := by decide +kernel
theorem dX4_tryOf_26 : decode cX4_tryOf 26 = .ok (.iconst 0, 1) := by decide +kernel
theorem dX4_tryOf_27 : decode cX4_tryOf 27 = .ok (.istore 6, 2) := by decide +kernel
theorem dX4_tryOf_29 : decode cX4_tryOf 29 = .ok (.iconst 0, 1) := by decide +kernel
theorem dX4_tryOf_30 : decode cX4_tryOf 30 = .ok (.istore 7, 2) := by decide +kernel
theorem dX4_tryOf_32 : decode cX4_tryOf 32 = .ok (.iconst 0, 1) := by decide +kernel
theorem dX4_tryOf_33 : decode cX4_tryOf 33 = .ok (.istore 8, 2) := by decide +kernel
theorem dX4_tryOf_35 : decode cX4_tryOf 35 = .ok (.iload 8, 2) := by decide +kernel
theorem dX4_tryOf_37 : decode cX4_tryOf 37 = .ok (.bipush 10, 2) := by decide +kernel
theorem dX4_tryOf_39 : decode cX4_tryOf 39 = .ok (.if_icmp .ge 66, 3) := by decide +kernel
theorem dX4_tryOf_42 : decode cX4_tryOf 42 = .ok (.aload_n 0, 1) := by decide +kernel
theorem dX4_tryOf_43 : decode cX4_tryOf 43 = .ok (.getfield 25, 3) := by decide +kernel
theorem dX4_tryOf_46 : decode cX4_tryOf 46 = .ok (.iload_n 1, 1) := by decide +kernel
theorem dX4_tryOf_47 : decode cX4_tryOf 47 = .ok (.iload 8, 2) := by decide +kernel
theorem dX4_tryOf_49 : decode cX4_tryOf 49 = .ok (.iastore, 1) := by decide +kernel
theorem dX4_tryOf_50 : decode cX4_tryOf 50 = .ok (.iload 7, 2) := by decide +kernel
theorem dX4_tryOf_52 : decode cX4_tryOf 52 = .ok (.iload_n 2, 1) := by decide +kernel
theorem dX4_tryOf_53 : decode cX4_tryOf 53 = .ok (.iload 8, 2) := by decide +kernel
theorem dX4_tryOf_55 : decode cX4_tryOf 55 = .ok (.ishr, 1) := by decide +kernel
theorem dX4_tryOf_56 : decode cX4_tryOf 56 = .ok (.iconst 1, 1) := by decide +kernel
theorem dX4_tryOf_57 : decode cX4_tryOf 57 = .ok (.iand, 1) := by decide +kernel
theorem dX4_tryOf_58 : decode cX4_tryOf 58 = .ok (.iadd, 1) := by decide +kernel
theorem dX4_tryOf_59 : decode cX4_tryOf 59 = .ok (.istore 7, 2) := by decide +kernel
theorem dX4_tryOf_61 : decode cX4_tryOf 61 = .ok (.iload 6, 2) := by decide +kernel
theorem dX4_tryOf_63 : decode cX4_tryOf 63 = .ok (.aload_n 0, 1) := by decide +kernel
theorem dX4_tryOf_64 : decode cX4_tryOf 64 = .ok (.iconst 1, 1) := by decide +kernel
theorem dX4_tryOf_65 : decode cX4_tryOf 65 = .ok (.aload_n 0, 1) := by decide +kernel
theorem dX4_tryOf_66 : decode cX4_tryOf 66 = .ok (.getfield 69, 3) := by decide +kernel
theorem dX4_tryOf_69 : decode cX4_tryOf 69 = .ok (.ishl, 1) := by decide +kernel
theorem dX4_tryOf_70 : decode cX4_tryOf 70 = .ok (.iconst 1, 1) := by decide +kernel
theorem dX4_tryOf_71 : decode cX4_tryOf 71 = .ok (.isub, 1) := by decide +kernel
theorem dX4_tryOf_72 : decode cX4_tryOf 72 = .ok (.bipush 6, 2) := by decide +kernel
theorem dX4_tryOf_74 : decode cX4_tryOf 74 = .ok (.iload 5, 2) := by decide +kernel
theorem dX4_tryOf_76 : decode cX4_tryOf 76 = .ok (.aload_n 0, 1) := by decide +kernel
theorem dX4_tryOf_77 : decode cX4_tryOf 77 = .ok (.getfield 25, 3) := by decide +kernel
theorem dX4_tryOf_80 : decode cX4_tryOf 80 = .ok (.invokevirtual 184, 3) := by decide +kernel
theorem dX4_tryOf_83 : decode cX4_tryOf 83 = .ok (.ifCond .eq 12, 3) := by decide +kernel
theorem dX4_tryOf_86 : decode cX4_tryOf 86 = .ok (.iload_n 2, 1) := by decide +kernel
theorem dX4_tryOf_87 : decode cX4_tryOf 87 = .ok (.iload 8, 2) := by decide +kernel
theorem dX4_tryOf_89 : decode cX4_tryOf 89 = .ok (.ishr, 1) := by decide +kernel
theorem dX4_tryOf_90 : decode cX4_tryOf 90 = .ok (.iconst 1, 1) := by decide +kernel
theorem dX4_tryOf_91 : decode cX4_tryOf 91 = .ok (.iand, 1) := by decide +kernel
theorem dX4_tryOf_92 : decode cX4_tryOf 92 = .ok (.goto 4, 3) := by decide +kernel
theorem dX4_tryOf_95 : decode cX4_tryOf 95 = .ok (.iconst 0, 1) := by decide +kernel
theorem dX4_tryOf_96 : decode cX4_tryOf 96 = .ok (.iadd, 1) := by decide +kernel
theorem dX4_tryOf_97 : decode cX4_tryOf 97 = .ok (.istore 6, 2) := by decide +kernel
theorem dX4_tryOf_99 : decode cX4_tryOf 99 = .ok (.iinc 8 1, 3) := by decide +kernel
theorem dX4_tryOf_102 : decode cX4_tryOf 102 = .ok (.goto (-67), 3) := by decide +kernel
theorem dX4_tryOf_105 : decode cX4_tryOf 105 = .ok (.iload 6, 2) := by decide +kernel
theorem dX4_tryOf_107 : decode cX4_tryOf 107 = .ok (.iload 7, 2) := by decide +kernel
theorem dX4_tryOf_109 : decode cX4_tryOf 109 = .ok (.iload 6, 2) := by decide +kernel
theorem dX4_tryOf_111 : decode cX4_tryOf 111 = .ok (.isub, 1) := by decide +kernel
theorem dX4_tryOf_112 : decode cX4_tryOf 112 = .ok (.if_icmp .le 8, 3) := by decide +kernel
theorem dX4_tryOf_115 : decode cX4_tryOf 115 = .ok (.iload 6, 2) := by decide +kernel
theorem dX4_tryOf_117 : decode cX4_tryOf 117 = .ok (.goto 8, 3) := by decide +kernel
theorem dX4_tryOf_120 : decode cX4_tryOf 120 = .ok (.iload 7, 2) := by decide +kernel
theorem dX4_tryOf_122 : decode cX4_tryOf 122 = .ok (.iload 6, 2) := by decide +kernel
theorem dX4_tryOf_124 : decode cX4_tryOf 124 = .ok (.isub, 1) := by decide +kernel
theorem dX4_tryOf_125 : decode cX4_tryOf 125 = .ok (.istore 8, 2) := by decide +kernel
theorem dX4_tryOf_127 : decode cX4_tryOf 127 = .ok (.iload 8, 2) := by decide +kernel
theorem dX4_tryOf_129 : decode cX4_tryOf 129 = .ok (.iload 4, 2) := by decide +kernel
theorem dX4_tryOf_131 : decode cX4_tryOf 131 = .ok (.if_icmp .ge 8, 3) := by decide +kernel
theorem dX4_tryOf_134 : decode cX4_tryOf 134 = .ok (.iload 5, 2) := by decide +kernel
theorem dX4_tryOf_136 : decode cX4_tryOf 136 = .ok (.goto 4, 3) := by decide +kernel
theorem dX4_tryOf_139 : decode cX4_tryOf 139 = .ok (.iload_n 3, 1) := by decide +kernel
theorem dX4_tryOf_140 : decode cX4_tryOf 140 = .ok (.istore_n 3, 1) := by decide +kernel
theorem dX4_tryOf_141 : decode cX4_tryOf 141 = .ok (.iload 8, 2) := by decide +kernel
theorem dX4_tryOf_143 : decode cX4_tryOf 143 = .ok (.iload 4, 2) := by decide +kernel
theorem dX4_tryOf_145 : decode cX4_tryOf 145 = .ok (.if_icmp .ge 8, 3) := by decide +kernel
theorem dX4_tryOf_148 : decode cX4_tryOf 148 = .ok (.iload 8, 2) := by decide +kernel
theorem dX4_tryOf_150 : decode cX4_tryOf 150 = .ok (.goto 5, 3) := by decide +kernel
theorem dX4_tryOf_153 : decode cX4_tryOf 153 = .ok (.iload 4, 2) := by decide +kernel
theorem dX4_tryOf_155 : decode cX4_tryOf 155 = .ok (.istore 4, 2) := by decide +kernel
theorem dX4_tryOf_157 : decode cX4_tryOf 157 = .ok (.iinc 5 1, 3) := by decide +kernel
theorem dX4_tryOf_160 : decode cX4_tryOf 160 = .ok (.goto (-145), 3) := by decide +kernel
theorem dX4_tryOf_163 : decode cX4_tryOf 163 = .ok (.iload_n 3, 1) := by decide +kernel
theorem dX4_tryOf_164 : decode cX4_tryOf 164 = .ok (.ireturn, 1) := by decide +kernel
theorem dX4_draw_0 : decode cX4_draw 0 = .ok (.aload_n 0, 1) := by decide +kernel
theorem dX4_draw_1 : decode cX4_draw 1 = .ok (.ldc2_w 205, 3) := by decide +kernel
theorem dX4_draw_4 : decode cX4_draw 4 = .ok (.aload_n 0, 1) := by decide +kernel
theorem dX4_draw_5 : decode cX4_draw 5 = .ok (.getfield 207, 3) := by decide +kernel
theorem dX4_draw_8 : decode cX4_draw 8 = .ok (.i2l, 1) := by decide +kernel
theorem dX4_draw_9 : decode cX4_draw 9 = .ok (.lmul, 1) := by decide +kernel
theorem dX4_draw_10 : decode cX4_draw 10 = .ok (.ldc2_w 210, 3) := by decide +kernel
theorem dX4_draw_13 : decode cX4_draw 13 = .ok (.ladd, 1) := by decide +kernel
theorem dX4_draw_14 : decode cX4_draw 14 = .ok (.ldc2_w 212, 3) := by decide +kernel
theorem dX4_draw_17 : decode cX4_draw 17 = .ok (.land, 1) := by decide +kernel
theorem dX4_draw_18 : decode cX4_draw 18 = .ok (.l2i, 1) := by decide +kernel
theorem dX4_draw_19 : decode cX4_draw 19 = .ok (.putfield 207, 3) := by decide +kernel
theorem dX4_draw_22 : decode cX4_draw 22 = .ok (.aload_n 0, 1) := by decide +kernel
theorem dX4_draw_23 : decode cX4_draw 23 = .ok (.getfield 207, 3) := by decide +kernel
theorem dX4_draw_26 : decode cX4_draw 26 = .ok (.ldc 214, 2) := by decide +kernel
theorem dX4_draw_28 : decode cX4_draw 28 = .ok (.idiv, 1) := by decide +kernel
theorem dX4_draw_29 : decode cX4_draw 29 = .ok (.iload_n 1, 1) := by decide +kernel
theorem dX4_draw_30 : decode cX4_draw 30 = .ok (.irem, 1) := by decide +kernel
theorem dX4_draw_31 : decode cX4_draw 31 = .ok (.ireturn, 1) := by decide +kernel
theorem dX4_winters_0 : decode cX4_winters 0 = .ok (.iload_n 1, 1) := by decide +kernel
theorem dX4_winters_1 : decode cX4_winters 1 = .ok (.i2l, 1) := by decide +kernel
theorem dX4_winters_2 : decode cX4_winters 2 = .ok (.lconst 1, 1) := by decide +kernel
theorem dX4_winters_3 : decode cX4_winters 3 = .ok (.ldc2_w 215, 3) := by decide +kernel
theorem dX4_winters_6 : decode cX4_winters 6 = .ok (.invokestatic 43, 3) := by decide +kernel
theorem dX4_winters_9 : decode cX4_winters 9 = .ok (.ifCond .eq 19, 3) := by decide +kernel
theorem dX4_winters_12 : decode cX4_winters 12 = .ok (.iload_n 2, 1) := by decide +kernel
theorem dX4_winters_13 : decode cX4_winters 13 = .ok (.ifCond .lt 15, 3) := by decide +kernel
theorem dX4_winters_16 : decode cX4_winters 16 = .ok (.iload_n 3, 1) := by decide +kernel
theorem dX4_winters_17 : decode cX4_winters 17 = .ok (.i2l, 1) := by decide +kernel
theorem dX4_winters_18 : decode cX4_winters 18 = .ok (.lconst 0, 1) := by decide +kernel
theorem dX4_winters_19 : decode cX4_winters 19 = .ok (.ldc2_w 217, 3) := by decide +kernel
theorem dX4_winters_22 : decode cX4_winters 22 = .ok (.invokestatic 43, 3) := by decide +kernel
theorem dX4_winters_25 : decode cX4_winters 25 = .ok (.ifCond .ne 6, 3) := by decide +kernel
theorem dX4_winters_28 : decode cX4_winters 28 = .ok (.bipush (-102), 2) := by decide +kernel
theorem dX4_winters_30 : decode cX4_winters 30 = .ok (.ireturn, 1) := by decide +kernel
theorem dX4_winters_31 : decode cX4_winters 31 = .ok (.aload_n 0, 1) := by decide +kernel
theorem dX4_winters_32 : decode cX4_winters 32 = .ok (.invokevirtual 87, 3) := by decide +kernel
theorem dX4_winters_35 : decode cX4_winters 35 = .ok (.ifCond .eq 6, 3) := by decide +kernel
theorem dX4_winters_38 : decode cX4_winters 38 = .ok (.bipush (-103), 2) := by decide +kernel
theorem dX4_winters_40 : decode cX4_winters 40 = .ok (.ireturn, 1) := by decide +kernel
theorem dX4_winters_41 : decode cX4_winters 41 = .ok (.aload_n 0, 1) := by decide +kernel
theorem dX4_winters_42 : decode cX4_winters 42 = .ok (.getfield 16, 3) := by decide +kernel
theorem dX4_winters_45 : decode cX4_winters 45 = .ok (.aload_n 0, 1) := by decide +kernel
theorem dX4_winters_46 : decode cX4_winters 46 = .ok (.getfield 28, 3) := by decide +kernel
theorem dX4_winters_49 : decode cX4_winters 49 = .ok (.invokestatic 148, 3) := by decide +kernel
theorem dX4_winters_52 : decode cX4_winters 52 = .ok (.aload_n 0, 1) := by decide +kernel
theorem dX4_winters_53 : decode cX4_winters 53 = .ok (.iload_n 2, 1) := by decide +kernel
theorem dX4_winters_54 : decode cX4_winters 54 = .ok (.putfield 207, 3) := by decide +kernel
theorem dX4_winters_57 : decode cX4_winters 57 = .ok (.iconst 0, 1) := by decide +kernel
theorem dX4_winters_58 : decode cX4_winters 58 = .ok (.istore 4, 2) := by decide +kernel
theorem dX4_winters_60 : decode cX4_winters 60 = .ok (.iload 4, 2) := by decide +kernel
theorem dX4_winters_62 : decode cX4_winters 62 = .ok (.iload_n 1, 1) := by decide +kernel
theorem dX4_winters_63 : decode cX4_winters 63 = .ok (.if_icmp .ge 65, 3) := by decide +kernel
theorem dX4_winters_66 : decode cX4_winters 66 = .ok (.iconst 1, 1) := by decide +kernel
theorem dX4_winters_67 : decode cX4_winters 67 = .ok (.istore 5, 2) := by decide +kernel
theorem dX4_winters_69 : decode cX4_winters 69 = .ok (.iload 5, 2) := by decide +kernel
theorem dX4_winters_71 : decode cX4_winters 71 = .ok (.bipush 6, 2) := by decide +kernel
theorem dX4_winters_73 : decode cX4_winters 73 = .ok (.if_icmp .ge 49, 3) := by decide +kernel
theorem dX4_winters_76 : decode cX4_winters 76 = .ok (.aload_n 0, 1) := by decide +kernel
theorem dX4_winters_77 : decode cX4_winters 77 = .ok (.iconst 3, 1) := by decide +kernel
theorem dX4_winters_78 : decode cX4_winters 78 = .ok (.invokevirtual 219, 3) := by decide +kernel
theorem dX4_winters_81 : decode cX4_winters 81 = .ok (.istore 6, 2) := by decide +kernel
theorem dX4_winters_83 : decode cX4_winters 83 = .ok (.aload_n 0, 1) := by decide +kernel
theorem dX4_winters_84 : decode cX4_winters 84 = .ok (.getfield 28, 3) := by decide +kernel
theorem dX4_winters_87 : decode cX4_winters 87 = .ok (.iload 5, 2) := by decide +kernel
theorem dX4_winters_89 : decode cX4_winters 89 = .ok (.aload_n 0, 1) := by decide +kernel
theorem dX4_winters_90 : decode cX4_winters 90 = .ok (.getfield 28, 3) := by decide +kernel
theorem dX4_winters_93 : decode cX4_winters 93 = .ok (.iload 5, 2) := by decide +kernel
theorem dX4_winters_95 : decode cX4_winters 95 = .ok (.iaload, 1) := by decide +kernel
theorem dX4_winters_96 : decode cX4_winters 96 = .ok (.iload 6, 2) := by decide +kernel
theorem dX4_winters_98 : decode cX4_winters 98 = .ok (.if_icmp .le 16, 3) := by decide +kernel
theorem dX4_winters_101 : decode cX4_winters 101 = .ok (.aload_n 0, 1) := by decide +kernel
theorem dX4_winters_102 : decode cX4_winters 102 = .ok (.getfield 28, 3) := by decide +kernel
theorem dX4_winters_105 : decode cX4_winters 105 = .ok (.iload 5, 2) := by decide +kernel
theorem dX4_winters_107 : decode cX4_winters 107 = .ok (.iaload, 1) := by decide +kernel
theorem dX4_winters_108 : decode cX4_winters 108 = .ok (.iload 6, 2) := by decide +kernel
theorem dX4_winters_110 : decode cX4_winters 110 = .ok (.isub, 1) := by decide +kernel
theorem dX4_winters_111 : decode cX4_winters 111 = .ok (.goto 4, 3) := by decide +kernel
theorem dX4_winters_114 : decode cX4_winters 114 = .ok (.iconst 0, 1) := by decide +kernel
theorem dX4_winters_115 : decode cX4_winters 115 = .ok (.iastore, 1) := by decide +kernel
theorem dX4_winters_116 : decode cX4_winters 116 = .ok (.iinc 5 1, 3) := by decide +kernel
theorem dX4_winters_119 : decode cX4_winters 119 = .ok (.goto (-50), 3) := by decide +kernel
theorem dX4_winters_122 : decode cX4_winters 122 = .ok (.iinc 4 1, 3) := by decide +kernel
theorem dX4_winters_125 : decode cX4_winters 125 = .ok (.goto (-65), 3) := by decide +kernel
theorem dX4_winters_128 : decode cX4_winters 128 = .ok (.aload_n 0, 1) := by decide +kernel
theorem dX4_winters_129 : decode cX4_winters 129 = .ok (.getfield 28, 3) := by decide +kernel
theorem dX4_winters_132 : decode cX4_winters 132 = .ok (.invokestatic 174, 3) := by decide +kernel
theorem dX4_winters_135 : decode cX4_winters 135 = .ok (.istore 4, 2) := by decide +kernel
theorem dX4_winters_137 : decode cX4_winters 137 = .ok (.aload_n 0, 1) := by decide +kernel
theorem dX4_winters_138 : decode cX4_winters 138 = .ok (.getfield 72, 3) := by decide +kernel
theorem dX4_winters_141 : decode cX4_winters 141 = .ok (.ifCond .ne 7, 3) := by decide +kernel
theorem dX4_winters_144 : decode cX4_winters 144 = .ok (.iconst 0, 1) := by decide +kernel
theorem dX4_winters_145 : decode cX4_winters 145 = .ok (.goto 15, 3) := by decide +kernel
theorem dX4_winters_148 : decode cX4_winters 148 = .ok (.aload_n 0, 1) := by decide +kernel
theorem dX4_winters_149 : decode cX4_winters 149 = .ok (.aload_n 0, 1) := by decide +kernel
theorem dX4_winters_150 : decode cX4_winters 150 = .ok (.getfield 72, 3) := by decide +kernel
theorem dX4_winters_153 : decode cX4_winters 153 = .ok (.aload_n 0, 1) := by decide +kernel
theorem dX4_winters_154 : decode cX4_winters 154 = .ok (.getfield 28, 3) := by decide +kernel
theorem dX4_winters_157 : decode cX4_winters 157 = .ok (.invokevirtual 192, 3) := by decide +kernel
theorem dX4_winters_160 : decode cX4_winters 160 = .ok (.istore 5, 2) := by decide +kernel
theorem dX4_winters_162 : decode cX4_winters 162 = .ok (.iload_n 3, 1) := by decide +kernel
theorem dX4_winters_163 : decode cX4_winters 163 = .ok (.ifCond .ne 8, 3) := by decide +kernel
theorem dX4_winters_166 : decode cX4_winters 166 = .ok (.iload 4, 2) := by decide +kernel
theorem dX4_winters_168 : decode cX4_winters 168 = .ok (.goto 17, 3) := by decide +kernel
theorem dX4_winters_171 : decode cX4_winters 171 = .ok (.iload_n 3, 1) := by decide +kernel
theorem dX4_winters_172 : decode cX4_winters 172 = .ok (.iconst 1, 1) := by decide +kernel
theorem dX4_winters_173 : decode cX4_winters 173 = .ok (.if_icmp .ne 8, 3) := by decide +kernel
theorem dX4_winters_176 : decode cX4_winters 176 = .ok (.iload 5, 2) := by decide +kernel
theorem dX4_winters_178 : decode cX4_winters 178 = .ok (.goto 7, 3) := by decide +kernel
theorem dX4_winters_181 : decode cX4_winters 181 = .ok (.aload_n 0, 1) := by decide +kernel
theorem dX4_winters_182 : decode cX4_winters 182 = .ok (.getfield 207, 3) := by decide +kernel
theorem dX4_winters_185 : decode cX4_winters 185 = .ok (.ireturn, 1) := by decide +kernel
theorem dX4_image_0 : decode cX4_image 0 = .ok (.aload_n 0, 1) := by decide +kernel
theorem dX4_image_1 : decode cX4_image 1 = .ok (.invokevirtual 87, 3) := by decide +kernel
theorem dX4_image_4 : decode cX4_image 4 = .ok (.ifCond .eq 6, 3) := by decide +kernel
theorem dX4_image_7 : decode cX4_image 7 = .ok (.bipush (-103), 2) := by decide +kernel
theorem dX4_image_9 : decode cX4_image 9 = .ok (.ireturn, 1) := by decide +kernel
theorem dX4_image_10 : decode cX4_image 10 = .ok (.aload_n 0, 1) := by decide +kernel
theorem dX4_image_11 : decode cX4_image 11 = .ok (.getfield 16, 3) := by decide +kernel
theorem dX4_image_14 : decode cX4_image 14 = .ok (.aload_n 0, 1) := by decide +kernel
theorem dX4_image_15 : decode cX4_image 15 = .ok (.getfield 31, 3) := by decide +kernel
theorem dX4_image_18 : decode cX4_image 18 = .ok (.invokestatic 148, 3) := by decide +kernel
theorem dX4_image_21 : decode cX4_image 21 = .ok (.aload_n 0, 1) := by decide +kernel
theorem dX4_image_22 : decode cX4_image 22 = .ok (.getfield 22, 3) := by decide +kernel
theorem dX4_image_25 : decode cX4_image 25 = .ok (.aload_n 0, 1) := by decide +kernel
theorem dX4_image_26 : decode cX4_image 26 = .ok (.getfield 34, 3) := by decide +kernel
theorem dX4_image_29 : decode cX4_image 29 = .ok (.invokestatic 148, 3) := by decide +kernel
theorem dX4_image_32 : decode cX4_image 32 = .ok (.aload_n 0, 1) := by decide +kernel
theorem dX4_image_33 : decode cX4_image 33 = .ok (.aload_n 0, 1) := by decide +kernel
theorem dX4_image_34 : decode cX4_image 34 = .ok (.getfield 72, 3) := by decide +kernel
theorem dX4_image_37 : decode cX4_image 37 = .ok (.putfield 222, 3) := by decide +kernel
theorem dX4_image_40 : decode cX4_image 40 = .ok (.aload_n 0, 1) := by decide +kernel
theorem dX4_image_41 : decode cX4_image 41 = .ok (.aload_n 0, 1) := by decide +kernel
theorem dX4_image_42 : decode cX4_image 42 = .ok (.getfield 75, 3) := by decide +kernel
theorem dX4_image_45 : decode cX4_image 45 = .ok (.putfield 225, 3) := by decide +kernel
theorem dX4_image_48 : decode cX4_image 48 = .ok (.aload_n 0, 1) := by decide +kernel
theorem dX4_image_49 : decode cX4_image 49 = .ok (.aload_n 0, 1) := by decide +kernel
theorem dX4_image_50 : decode cX4_image 50 = .ok (.getfield 78, 3) := by decide +kernel
theorem dX4_image_53 : decode cX4_image 53 = .ok (.putfield 228, 3) := by decide +kernel
theorem dX4_image_56 : decode cX4_image 56 = .ok (.aload_n 0, 1) := by decide +kernel
theorem dX4_image_57 : decode cX4_image 57 = .ok (.aload_n 0, 1) := by decide +kernel
theorem dX4_image_58 : decode cX4_image 58 = .ok (.getfield 81, 3) := by decide +kernel
theorem dX4_image_61 : decode cX4_image 61 = .ok (.putfield 231, 3) := by decide +kernel
theorem dX4_image_64 : decode cX4_image 64 = .ok (.aload_n 0, 1) := by decide +kernel
theorem dX4_image_65 : decode cX4_image 65 = .ok (.aload_n 0, 1) := by decide +kernel
theorem dX4_image_66 : decode cX4_image 66 = .ok (.getfield 84, 3) := by decide +kernel
theorem dX4_image_69 : decode cX4_image 69 = .ok (.putfield 37, 3) := by decide +kernel
theorem dX4_image_72 : decode cX4_image 72 = .ok (.aload_n 0, 1) := by decide +kernel
theorem dX4_image_73 : decode cX4_image 73 = .ok (.getfield 75, 3) := by decide +kernel
theorem dX4_image_76 : decode cX4_image 76 = .ok (.ireturn, 1) := by decide +kernel
theorem dX4_restore_0 : decode cX4_restore 0 = .ok (.aload_n 0, 1) := by decide +kernel
theorem dX4_restore_1 : decode cX4_restore 1 = .ok (.getfield 37, 3) := by decide +kernel
theorem dX4_restore_4 : decode cX4_restore 4 = .ok (.aload_n 0, 1) := by decide +kernel
theorem dX4_restore_5 : decode cX4_restore 5 = .ok (.getfield 84, 3) := by decide +kernel
theorem dX4_restore_8 : decode cX4_restore 8 = .ok (.if_icmp .eq 6, 3) := by decide +kernel
theorem dX4_restore_11 : decode cX4_restore 11 = .ok (.bipush (-103), 2) := by decide +kernel
theorem dX4_restore_13 : decode cX4_restore 13 = .ok (.ireturn, 1) := by decide +kernel
theorem dX4_restore_14 : decode cX4_restore 14 = .ok (.aload_n 0, 1) := by decide +kernel
theorem dX4_restore_15 : decode cX4_restore 15 = .ok (.getfield 31, 3) := by decide +kernel
theorem dX4_restore_18 : decode cX4_restore 18 = .ok (.aload_n 0, 1) := by decide +kernel
theorem dX4_restore_19 : decode cX4_restore 19 = .ok (.getfield 16, 3) := by decide +kernel
theorem dX4_restore_22 : decode cX4_restore 22 = .ok (.invokestatic 148, 3) := by decide +kernel
theorem dX4_restore_25 : decode cX4_restore 25 = .ok (.aload_n 0, 1) := by decide +kernel
theorem dX4_restore_26 : decode cX4_restore 26 = .ok (.getfield 34, 3) := by decide +kernel
theorem dX4_restore_29 : decode cX4_restore 29 = .ok (.aload_n 0, 1) := by decide +kernel
theorem dX4_restore_30 : decode cX4_restore 30 = .ok (.getfield 22, 3) := by decide +kernel
theorem dX4_restore_33 : decode cX4_restore 33 = .ok (.invokestatic 148, 3) := by decide +kernel
theorem dX4_restore_36 : decode cX4_restore 36 = .ok (.aload_n 0, 1) := by decide +kernel
theorem dX4_restore_37 : decode cX4_restore 37 = .ok (.aload_n 0, 1) := by decide +kernel
theorem dX4_restore_38 : decode cX4_restore 38 = .ok (.getfield 222, 3) := by decide +kernel
theorem dX4_restore_41 : decode cX4_restore 41 = .ok (.putfield 72, 3) := by decide +kernel
theorem dX4_restore_44 : decode cX4_restore 44 = .ok (.aload_n 0, 1) := by decide +kernel
theorem dX4_restore_45 : decode cX4_restore 45 = .ok (.aload_n 0, 1) := by decide +kernel
theorem dX4_restore_46 : decode cX4_restore 46 = .ok (.getfield 225, 3) := by decide +kernel
theorem dX4_restore_49 : decode cX4_restore 49 = .ok (.putfield 75, 3) := by decide +kernel
theorem dX4_restore_52 : decode cX4_restore 52 = .ok (.aload_n 0, 1) := by decide +kernel
theorem dX4_restore_53 : decode cX4_restore 53 = .ok (.aload_n 0, 1) := by decide +kernel
theorem dX4_restore_54 : decode cX4_restore 54 = .ok (.getfield 228, 3) := by decide +kernel
theorem dX4_restore_57 : decode cX4_restore 57 = .ok (.putfield 78, 3) := by decide +kernel
theorem dX4_restore_60 : decode cX4_restore 60 = .ok (.aload_n 0, 1) := by decide +kernel
theorem dX4_restore_61 : decode cX4_restore 61 = .ok (.aload_n 0, 1) := by decide +kernel
theorem dX4_restore_62 : decode cX4_restore 62 = .ok (.getfield 231, 3) := by decide +kernel
theorem dX4_restore_65 : decode cX4_restore 65 = .ok (.putfield 81, 3) := by decide +kernel
theorem dX4_restore_68 : decode cX4_restore 68 = .ok (.aload_n 0, 1) := by decide +kernel
theorem dX4_restore_69 : decode cX4_restore 69 = .ok (.getfield 75, 3) := by decide +kernel
theorem dX4_restore_72 : decode cX4_restore 72 = .ok (.ireturn, 1) := by decide +kernel
theorem dX4_countOf_0 : decode cX4_countOf 0 = .ok (.iload_n 1, 1) := by decide +kernel
theorem dX4_countOf_1 : decode cX4_countOf 1 = .ok (.tableswitch 128 0 10 #[59, 64, 72, 80, 85, 90, 99, 108, 113, 118, 123], 59) := by decide +kernel
theorem dX4_countOf_60 : decode cX4_countOf 60 = .ok (.aload_n 0, 1) := by decide +kernel
theorem dX4_countOf_61 : decode cX4_countOf 61 = .ok (.getfield 69, 3) := by decide +kernel
theorem dX4_countOf_64 : decode cX4_countOf 64 = .ok (.ireturn, 1) := by decide +kernel
theorem dX4_countOf_65 : decode cX4_countOf 65 = .ok (.aload_n 0, 1) := by decide +kernel
theorem dX4_countOf_66 : decode cX4_countOf 66 = .ok (.getfield 72, 3) := by decide +kernel
theorem dX4_countOf_69 : decode cX4_countOf 69 = .ok (.invokestatic 196, 3) := by decide +kernel
theorem dX4_countOf_72 : decode cX4_countOf 72 = .ok (.ireturn, 1) := by decide +kernel
theorem dX4_countOf_73 : decode cX4_countOf 73 = .ok (.aload_n 0, 1) := by decide +kernel
theorem dX4_countOf_74 : decode cX4_countOf 74 = .ok (.getfield 16, 3) := by decide +kernel
theorem dX4_countOf_77 : decode cX4_countOf 77 = .ok (.invokestatic 174, 3) := by decide +kernel
theorem dX4_countOf_80 : decode cX4_countOf 80 = .ok (.ireturn, 1) := by decide +kernel
theorem dX4_countOf_81 : decode cX4_countOf 81 = .ok (.aload_n 0, 1) := by decide +kernel
theorem dX4_countOf_82 : decode cX4_countOf 82 = .ok (.getfield 75, 3) := by decide +kernel
theorem dX4_countOf_85 : decode cX4_countOf 85 = .ok (.ireturn, 1) := by decide +kernel
theorem dX4_countOf_86 : decode cX4_countOf 86 = .ok (.aload_n 0, 1) := by decide +kernel
theorem dX4_countOf_87 : decode cX4_countOf 87 = .ok (.getfield 78, 3) := by decide +kernel
theorem dX4_countOf_90 : decode cX4_countOf 90 = .ok (.ireturn, 1) := by decide +kernel
theorem dX4_countOf_91 : decode cX4_countOf 91 = .ok (.aload_n 0, 1) := by decide +kernel
theorem dX4_countOf_92 : decode cX4_countOf 92 = .ok (.aload_n 0, 1) := by decide +kernel
theorem dX4_countOf_93 : decode cX4_countOf 93 = .ok (.getfield 72, 3) := by decide +kernel
theorem dX4_countOf_96 : decode cX4_countOf 96 = .ok (.invokevirtual 134, 3) := by decide +kernel
theorem dX4_countOf_99 : decode cX4_countOf 99 = .ok (.ireturn, 1) := by decide +kernel
theorem dX4_countOf_100 : decode cX4_countOf 100 = .ok (.aload_n 0, 1) := by decide +kernel
theorem dX4_countOf_101 : decode cX4_countOf 101 = .ok (.aload_n 0, 1) := by decide +kernel
theorem dX4_countOf_102 : decode cX4_countOf 102 = .ok (.getfield 72, 3) := by decide +kernel
theorem dX4_countOf_105 : decode cX4_countOf 105 = .ok (.invokevirtual 145, 3) := by decide +kernel
theorem dX4_countOf_108 : decode cX4_countOf 108 = .ok (.ireturn, 1) := by decide +kernel
theorem dX4_countOf_109 : decode cX4_countOf 109 = .ok (.aload_n 0, 1) := by decide +kernel
theorem dX4_countOf_110 : decode cX4_countOf 110 = .ok (.getfield 81, 3) := by decide +kernel
theorem dX4_countOf_113 : decode cX4_countOf 113 = .ok (.ireturn, 1) := by decide +kernel
theorem dX4_countOf_114 : decode cX4_countOf 114 = .ok (.aload_n 0, 1) := by decide +kernel
theorem dX4_countOf_115 : decode cX4_countOf 115 = .ok (.getfield 47, 3) := by decide +kernel
theorem dX4_countOf_118 : decode cX4_countOf 118 = .ok (.ireturn, 1) := by decide +kernel
theorem dX4_countOf_119 : decode cX4_countOf 119 = .ok (.aload_n 0, 1) := by decide +kernel
theorem dX4_countOf_120 : decode cX4_countOf 120 = .ok (.getfield 84, 3) := by decide +kernel
theorem dX4_countOf_123 : decode cX4_countOf 123 = .ok (.ireturn, 1) := by decide +kernel
theorem dX4_countOf_124 : decode cX4_countOf 124 = .ok (.aload_n 0, 1) := by decide +kernel
theorem dX4_countOf_125 : decode cX4_countOf 125 = .ok (.getfield 199, 3) := by decide +kernel
theorem dX4_countOf_128 : decode cX4_countOf 128 = .ok (.ireturn, 1) := by decide +kernel
theorem dX4_countOf_129 : decode cX4_countOf 129 = .ok (.bipush (-102), 2) := by decide +kernel
theorem dX4_countOf_131 : decode cX4_countOf 131 = .ok (.ireturn, 1) := by decide +kernel
theorem dX4_count_0 : decode cX4_count 0 = .ok (.aload_n 0, 1) := by decide +kernel
theorem dX4_count_1 : decode cX4_count 1 = .ok (.iload_n 1, 1) := by decide +kernel
theorem dX4_count_2 : decode cX4_count 2 = .ok (.invokevirtual 234, 3) := by decide +kernel
theorem dX4_count_5 : decode cX4_count 5 = .ok (.ireturn, 1) := by decide +kernel
theorem dX4_say_0 : decode cX4_say 0 = .ok (.aload_n 0, 1) := by decide +kernel
theorem dX4_say_1 : decode cX4_say 1 = .ok (.ldc2_w 237, 3) := by decide +kernel
theorem dX4_say_4 : decode cX4_say 4 = .ok (.aload_n 0, 1) := by decide +kernel
theorem dX4_say_5 : decode cX4_say 5 = .ok (.getfield 239, 3) := by decide +kernel
theorem dX4_say_8 : decode cX4_say 8 = .ok (.lmul, 1) := by decide +kernel
theorem dX4_say_9 : decode cX4_say 9 = .ok (.lload_n 1, 1) := by decide +kernel
theorem dX4_say_10 : decode cX4_say 10 = .ok (.ladd, 1) := by decide +kernel
theorem dX4_say_11 : decode cX4_say 11 = .ok (.putfield 239, 3) := by decide +kernel
theorem dX4_say_14 : decode cX4_say 14 = .ok (.return_, 1) := by decide +kernel
theorem dX4_digest_0 : decode cX4_digest 0 = .ok (.aload_n 0, 1) := by decide +kernel
theorem dX4_digest_1 : decode cX4_digest 1 = .ok (.ldc2_w 243, 3) := by decide +kernel
theorem dX4_digest_4 : decode cX4_digest 4 = .ok (.putfield 239, 3) := by decide +kernel
theorem dX4_digest_7 : decode cX4_digest 7 = .ok (.iconst 0, 1) := by decide +kernel
theorem dX4_digest_8 : decode cX4_digest 8 = .ok (.istore_n 1, 1) := by decide +kernel
theorem dX4_digest_9 : decode cX4_digest 9 = .ok (.iload_n 1, 1) := by decide +kernel
theorem dX4_digest_10 : decode cX4_digest 10 = .ok (.aload_n 0, 1) := by decide +kernel
theorem dX4_digest_11 : decode cX4_digest 11 = .ok (.getfield 69, 3) := by decide +kernel
theorem dX4_digest_14 : decode cX4_digest 14 = .ok (.if_icmp .ge 33, 3) := by decide +kernel
theorem dX4_digest_17 : decode cX4_digest 17 = .ok (.iconst 0, 1) := by decide +kernel
theorem dX4_digest_18 : decode cX4_digest 18 = .ok (.istore_n 2, 1) := by decide +kernel
theorem dX4_digest_19 : decode cX4_digest 19 = .ok (.iload_n 2, 1) := by decide +kernel
theorem dX4_digest_20 : decode cX4_digest 20 = .ok (.iconst 5, 1) := by decide +kernel
theorem dX4_digest_21 : decode cX4_digest 21 = .ok (.if_icmp .ge 20, 3) := by decide +kernel
theorem dX4_digest_24 : decode cX4_digest 24 = .ok (.aload_n 0, 1) := by decide +kernel
theorem dX4_digest_25 : decode cX4_digest 25 = .ok (.aload_n 0, 1) := by decide +kernel
theorem dX4_digest_26 : decode cX4_digest 26 = .ok (.iload_n 1, 1) := by decide +kernel
theorem dX4_digest_27 : decode cX4_digest 27 = .ok (.iload_n 2, 1) := by decide +kernel
theorem dX4_digest_28 : decode cX4_digest 28 = .ok (.invokevirtual 105, 3) := by decide +kernel
theorem dX4_digest_31 : decode cX4_digest 31 = .ok (.i2l, 1) := by decide +kernel
theorem dX4_digest_32 : decode cX4_digest 32 = .ok (.invokevirtual 245, 3) := by decide +kernel
theorem dX4_digest_35 : decode cX4_digest 35 = .ok (.iinc 2 1, 3) := by decide +kernel
theorem dX4_digest_38 : decode cX4_digest 38 = .ok (.goto (-19), 3) := by decide +kernel
theorem dX4_digest_41 : decode cX4_digest 41 = .ok (.iinc 1 1, 3) := by decide +kernel
theorem dX4_digest_44 : decode cX4_digest 44 = .ok (.goto (-35), 3) := by decide +kernel
theorem dX4_digest_47 : decode cX4_digest 47 = .ok (.iconst 1, 1) := by decide +kernel
theorem dX4_digest_48 : decode cX4_digest 48 = .ok (.istore_n 1, 1) := by decide +kernel
theorem dX4_digest_49 : decode cX4_digest 49 = .ok (.iload_n 1, 1) := by decide +kernel
theorem dX4_digest_50 : decode cX4_digest 50 = .ok (.bipush 6, 2) := by decide +kernel
theorem dX4_digest_52 : decode cX4_digest 52 = .ok (.if_icmp .ge 37, 3) := by decide +kernel
theorem dX4_digest_55 : decode cX4_digest 55 = .ok (.aload_n 0, 1) := by decide +kernel
theorem dX4_digest_56 : decode cX4_digest 56 = .ok (.invokevirtual 87, 3) := by decide +kernel
theorem dX4_digest_59 : decode cX4_digest 59 = .ok (.ifCond .ne 30, 3) := by decide +kernel
theorem dX4_digest_62 : decode cX4_digest 62 = .ok (.aload_n 0, 1) := by decide +kernel
theorem dX4_digest_63 : decode cX4_digest 63 = .ok (.aload_n 0, 1) := by decide +kernel
theorem dX4_digest_64 : decode cX4_digest 64 = .ok (.getfield 16, 3) := by decide +kernel
theorem dX4_digest_67 : decode cX4_digest 67 = .ok (.iload_n 1, 1) := by decide +kernel
theorem dX4_digest_68 : decode cX4_digest 68 = .ok (.iaload, 1) := by decide +kernel
theorem dX4_digest_69 : decode cX4_digest 69 = .ok (.i2l, 1) := by decide +kernel
theorem dX4_digest_70 : decode cX4_digest 70 = .ok (.invokevirtual 245, 3) := by decide +kernel
theorem dX4_digest_73 : decode cX4_digest 73 = .ok (.aload_n 0, 1) := by decide +kernel
theorem dX4_digest_74 : decode cX4_digest 74 = .ok (.aload_n 0, 1) := by decide +kernel
theorem dX4_digest_75 : decode cX4_digest 75 = .ok (.iload_n 1, 1) := by decide +kernel
theorem dX4_digest_76 : decode cX4_digest 76 = .ok (.invokevirtual 111, 3) := by decide +kernel
theorem dX4_digest_79 : decode cX4_digest 79 = .ok (.i2l, 1) := by decide +kernel
theorem dX4_digest_80 : decode cX4_digest 80 = .ok (.invokevirtual 245, 3) := by decide +kernel
theorem dX4_digest_83 : decode cX4_digest 83 = .ok (.iinc 1 1, 3) := by decide +kernel
theorem dX4_digest_86 : decode cX4_digest 86 = .ok (.goto (-37), 3) := by decide +kernel
theorem dX4_digest_89 : decode cX4_digest 89 = .ok (.aload_n 0, 1) := by decide +kernel
theorem dX4_digest_90 : decode cX4_digest 90 = .ok (.invokevirtual 87, 3) := by decide +kernel
theorem dX4_digest_93 : decode cX4_digest 93 = .ok (.ifCond .ne 13, 3) := by decide +kernel
theorem dX4_digest_96 : decode cX4_digest 96 = .ok (.aload_n 0, 1) := by decide +kernel
theorem dX4_digest_97 : decode cX4_digest 97 = .ok (.aload_n 0, 1) := by decide +kernel
theorem dX4_digest_98 : decode cX4_digest 98 = .ok (.iconst 3, 1) := by decide +kernel
theorem dX4_digest_99 : decode cX4_digest 99 = .ok (.invokevirtual 114, 3) := by decide +kernel
theorem dX4_digest_102 : decode cX4_digest 102 = .ok (.i2l, 1) := by decide +kernel
theorem dX4_digest_103 : decode cX4_digest 103 = .ok (.invokevirtual 245, 3) := by decide +kernel
theorem dX4_digest_106 : decode cX4_digest 106 = .ok (.aload_n 0, 1) := by decide +kernel
theorem dX4_digest_107 : decode cX4_digest 107 = .ok (.getfield 72, 3) := by decide +kernel
theorem dX4_digest_110 : decode cX4_digest 110 = .ok (.ifCond .eq 86, 3) := by decide +kernel
theorem dX4_digest_113 : decode cX4_digest 113 = .ok (.aload_n 0, 1) := by decide +kernel
theorem dX4_digest_114 : decode cX4_digest 114 = .ok (.aload_n 0, 1) := by decide +kernel
theorem dX4_digest_115 : decode cX4_digest 115 = .ok (.aload_n 0, 1) := by decide +kernel
theorem dX4_digest_116 : decode cX4_digest 116 = .ok (.getfield 72, 3) := by decide +kernel
theorem dX4_digest_119 : decode cX4_digest 119 = .ok (.aload_n 0, 1) := by decide +kernel
theorem dX4_digest_120 : decode cX4_digest 120 = .ok (.getfield 16, 3) := by decide +kernel
theorem dX4_digest_123 : decode cX4_digest 123 = .ok (.invokevirtual 192, 3) := by decide +kernel
theorem dX4_digest_126 : decode cX4_digest 126 = .ok (.i2l, 1) := by decide +kernel
theorem dX4_digest_127 : decode cX4_digest 127 = .ok (.invokevirtual 245, 3) := by decide +kernel
theorem dX4_digest_130 : decode cX4_digest 130 = .ok (.aload_n 0, 1) := by decide +kernel
theorem dX4_digest_131 : decode cX4_digest 131 = .ok (.aload_n 0, 1) := by decide +kernel
theorem dX4_digest_132 : decode cX4_digest 132 = .ok (.aload_n 0, 1) := by decide +kernel
theorem dX4_digest_133 : decode cX4_digest 133 = .ok (.getfield 72, 3) := by decide +kernel
theorem dX4_digest_136 : decode cX4_digest 136 = .ok (.iconst 1, 1) := by decide +kernel
theorem dX4_digest_137 : decode cX4_digest 137 = .ok (.aload_n 0, 1) := by decide +kernel
theorem dX4_digest_138 : decode cX4_digest 138 = .ok (.getfield 16, 3) := by decide +kernel
theorem dX4_digest_141 : decode cX4_digest 141 = .ok (.invokevirtual 188, 3) := by decide +kernel
theorem dX4_digest_144 : decode cX4_digest 144 = .ok (.i2l, 1) := by decide +kernel
theorem dX4_digest_145 : decode cX4_digest 145 = .ok (.invokevirtual 245, 3) := by decide +kernel
theorem dX4_digest_148 : decode cX4_digest 148 = .ok (.aload_n 0, 1) := by decide +kernel
theorem dX4_digest_149 : decode cX4_digest 149 = .ok (.aload_n 0, 1) := by decide +kernel
theorem dX4_digest_150 : decode cX4_digest 150 = .ok (.aload_n 0, 1) := by decide +kernel
theorem dX4_digest_151 : decode cX4_digest 151 = .ok (.getfield 72, 3) := by decide +kernel
theorem dX4_digest_154 : decode cX4_digest 154 = .ok (.iconst 4, 1) := by decide +kernel
theorem dX4_digest_155 : decode cX4_digest 155 = .ok (.aload_n 0, 1) := by decide +kernel
theorem dX4_digest_156 : decode cX4_digest 156 = .ok (.getfield 16, 3) := by decide +kernel
theorem dX4_digest_159 : decode cX4_digest 159 = .ok (.invokevirtual 188, 3) := by decide +kernel
theorem dX4_digest_162 : decode cX4_digest 162 = .ok (.i2l, 1) := by decide +kernel
theorem dX4_digest_163 : decode cX4_digest 163 = .ok (.invokevirtual 245, 3) := by decide +kernel
theorem dX4_digest_166 : decode cX4_digest 166 = .ok (.iconst 0, 1) := by decide +kernel
theorem dX4_digest_167 : decode cX4_digest 167 = .ok (.istore_n 1, 1) := by decide +kernel
theorem dX4_digest_168 : decode cX4_digest 168 = .ok (.iload_n 1, 1) := by decide +kernel
theorem dX4_digest_169 : decode cX4_digest 169 = .ok (.iconst 4, 1) := by decide +kernel
theorem dX4_digest_170 : decode cX4_digest 170 = .ok (.if_icmp .ge 26, 3) := by decide +kernel
theorem dX4_digest_173 : decode cX4_digest 173 = .ok (.aload_n 0, 1) := by decide +kernel
theorem dX4_digest_174 : decode cX4_digest 174 = .ok (.aload_n 0, 1) := by decide +kernel
theorem dX4_digest_175 : decode cX4_digest 175 = .ok (.aload_n 0, 1) := by decide +kernel
theorem dX4_digest_176 : decode cX4_digest 176 = .ok (.getfield 72, 3) := by decide +kernel
theorem dX4_digest_179 : decode cX4_digest 179 = .ok (.iconst 5, 1) := by decide +kernel
theorem dX4_digest_180 : decode cX4_digest 180 = .ok (.bipush 12, 2) := by decide +kernel
theorem dX4_digest_182 : decode cX4_digest 182 = .ok (.iload_n 1, 1) := by decide +kernel
theorem dX4_digest_183 : decode cX4_digest 183 = .ok (.invokevirtual 180, 3) := by decide +kernel
theorem dX4_digest_186 : decode cX4_digest 186 = .ok (.i2l, 1) := by decide +kernel
theorem dX4_digest_187 : decode cX4_digest 187 = .ok (.invokevirtual 245, 3) := by decide +kernel
theorem dX4_digest_190 : decode cX4_digest 190 = .ok (.iinc 1 1, 3) := by decide +kernel
theorem dX4_digest_193 : decode cX4_digest 193 = .ok (.goto (-25), 3) := by decide +kernel
theorem dX4_digest_196 : decode cX4_digest 196 = .ok (.iconst 0, 1) := by decide +kernel
theorem dX4_digest_197 : decode cX4_digest 197 = .ok (.istore_n 1, 1) := by decide +kernel
theorem dX4_digest_198 : decode cX4_digest 198 = .ok (.iload_n 1, 1) := by decide +kernel
theorem dX4_digest_199 : decode cX4_digest 199 = .ok (.aload_n 0, 1) := by decide +kernel
theorem dX4_digest_200 : decode cX4_digest 200 = .ok (.getfield 47, 3) := by decide +kernel
theorem dX4_digest_203 : decode cX4_digest 203 = .ok (.if_icmp .ge 20, 3) := by decide +kernel
theorem dX4_digest_206 : decode cX4_digest 206 = .ok (.aload_n 0, 1) := by decide +kernel
theorem dX4_digest_207 : decode cX4_digest 207 = .ok (.aload_n 0, 1) := by decide +kernel
theorem dX4_digest_208 : decode cX4_digest 208 = .ok (.getfield 7, 3) := by decide +kernel
theorem dX4_digest_211 : decode cX4_digest 211 = .ok (.iload_n 1, 1) := by decide +kernel
theorem dX4_digest_212 : decode cX4_digest 212 = .ok (.iaload, 1) := by decide +kernel
theorem dX4_digest_213 : decode cX4_digest 213 = .ok (.i2l, 1) := by decide +kernel
theorem dX4_digest_214 : decode cX4_digest 214 = .ok (.invokevirtual 245, 3) := by decide +kernel
theorem dX4_digest_217 : decode cX4_digest 217 = .ok (.iinc 1 1, 3) := by decide +kernel
theorem dX4_digest_220 : decode cX4_digest 220 = .ok (.goto (-22), 3) := by decide +kernel
theorem dX4_digest_223 : decode cX4_digest 223 = .ok (.iconst 0, 1) := by decide +kernel
theorem dX4_digest_224 : decode cX4_digest 224 = .ok (.istore_n 1, 1) := by decide +kernel
theorem dX4_digest_225 : decode cX4_digest 225 = .ok (.iload_n 1, 1) := by decide +kernel
theorem dX4_digest_226 : decode cX4_digest 226 = .ok (.bipush 11, 2) := by decide +kernel
theorem dX4_digest_228 : decode cX4_digest 228 = .ok (.if_icmp .ge 19, 3) := by decide +kernel
theorem dX4_digest_231 : decode cX4_digest 231 = .ok (.aload_n 0, 1) := by decide +kernel
theorem dX4_digest_232 : decode cX4_digest 232 = .ok (.aload_n 0, 1) := by decide +kernel
theorem dX4_digest_233 : decode cX4_digest 233 = .ok (.iload_n 1, 1) := by decide +kernel
theorem dX4_digest_234 : decode cX4_digest 234 = .ok (.invokevirtual 234, 3) := by decide +kernel
theorem dX4_digest_237 : decode cX4_digest 237 = .ok (.i2l, 1) := by decide +kernel
theorem dX4_digest_238 : decode cX4_digest 238 = .ok (.invokevirtual 245, 3) := by decide +kernel
theorem dX4_digest_241 : decode cX4_digest 241 = .ok (.iinc 1 1, 3) := by decide +kernel
theorem dX4_digest_244 : decode cX4_digest 244 = .ok (.goto (-19), 3) := by decide +kernel
theorem dX4_digest_247 : decode cX4_digest 247 = .ok (.aload_n 0, 1) := by decide +kernel
theorem dX4_digest_248 : decode cX4_digest 248 = .ok (.getfield 239, 3) := by decide +kernel
theorem dX4_digest_251 : decode cX4_digest 251 = .ok (.lreturn, 1) := by decide +kernel
theorem dJ6_bitCount_0f7a4_0 : decode cJ6_bitCount_0f7a4 0 = .ok (.iload_n 0, 1) := by decide +kernel
theorem dJ6_bitCount_0f7a4_1 : decode cJ6_bitCount_0f7a4 1 = .ok (.iload_n 0, 1) := by decide +kernel
theorem dJ6_bitCount_0f7a4_2 : decode cJ6_bitCount_0f7a4 2 = .ok (.iconst 1, 1) := by decide +kernel
theorem dJ6_bitCount_0f7a4_3 : decode cJ6_bitCount_0f7a4 3 = .ok (.iushr, 1) := by decide +kernel
theorem dJ6_bitCount_0f7a4_4 : decode cJ6_bitCount_0f7a4 4 = .ok (.ldc_w 265, 3) := by decide +kernel
theorem dJ6_bitCount_0f7a4_7 : decode cJ6_bitCount_0f7a4 7 = .ok (.iand, 1) := by decide +kernel
theorem dJ6_bitCount_0f7a4_8 : decode cJ6_bitCount_0f7a4 8 = .ok (.isub, 1) := by decide +kernel
theorem dJ6_bitCount_0f7a4_9 : decode cJ6_bitCount_0f7a4 9 = .ok (.istore_n 0, 1) := by decide +kernel
theorem dJ6_bitCount_0f7a4_10 : decode cJ6_bitCount_0f7a4 10 = .ok (.iload_n 0, 1) := by decide +kernel
theorem dJ6_bitCount_0f7a4_11 : decode cJ6_bitCount_0f7a4 11 = .ok (.ldc_w 266, 3) := by decide +kernel
theorem dJ6_bitCount_0f7a4_14 : decode cJ6_bitCount_0f7a4 14 = .ok (.iand, 1) := by decide +kernel
theorem dJ6_bitCount_0f7a4_15 : decode cJ6_bitCount_0f7a4 15 = .ok (.iload_n 0, 1) := by decide +kernel
theorem dJ6_bitCount_0f7a4_16 : decode cJ6_bitCount_0f7a4 16 = .ok (.iconst 2, 1) := by decide +kernel
theorem dJ6_bitCount_0f7a4_17 : decode cJ6_bitCount_0f7a4 17 = .ok (.iushr, 1) := by decide +kernel
theorem dJ6_bitCount_0f7a4_18 : decode cJ6_bitCount_0f7a4 18 = .ok (.ldc_w 266, 3) := by decide +kernel
theorem dJ6_bitCount_0f7a4_21 : decode cJ6_bitCount_0f7a4 21 = .ok (.iand, 1) := by decide +kernel
theorem dJ6_bitCount_0f7a4_22 : decode cJ6_bitCount_0f7a4 22 = .ok (.iadd, 1) := by decide +kernel
theorem dJ6_bitCount_0f7a4_23 : decode cJ6_bitCount_0f7a4 23 = .ok (.istore_n 0, 1) := by decide +kernel
theorem dJ6_bitCount_0f7a4_24 : decode cJ6_bitCount_0f7a4 24 = .ok (.iload_n 0, 1) := by decide +kernel
theorem dJ6_bitCount_0f7a4_25 : decode cJ6_bitCount_0f7a4 25 = .ok (.iload_n 0, 1) := by decide +kernel
theorem dJ6_bitCount_0f7a4_26 : decode cJ6_bitCount_0f7a4 26 = .ok (.iconst 4, 1) := by decide +kernel
theorem dJ6_bitCount_0f7a4_27 : decode cJ6_bitCount_0f7a4 27 = .ok (.iushr, 1) := by decide +kernel
theorem dJ6_bitCount_0f7a4_28 : decode cJ6_bitCount_0f7a4 28 = .ok (.iadd, 1) := by decide +kernel
theorem dJ6_bitCount_0f7a4_29 : decode cJ6_bitCount_0f7a4 29 = .ok (.ldc_w 267, 3) := by decide +kernel
theorem dJ6_bitCount_0f7a4_32 : decode cJ6_bitCount_0f7a4 32 = .ok (.iand, 1) := by decide +kernel
theorem dJ6_bitCount_0f7a4_33 : decode cJ6_bitCount_0f7a4 33 = .ok (.istore_n 0, 1) := by decide +kernel
theorem dJ6_bitCount_0f7a4_34 : decode cJ6_bitCount_0f7a4 34 = .ok (.iload_n 0, 1) := by decide +kernel
theorem dJ6_bitCount_0f7a4_35 : decode cJ6_bitCount_0f7a4 35 = .ok (.iload_n 0, 1) := by decide +kernel
theorem dJ6_bitCount_0f7a4_36 : decode cJ6_bitCount_0f7a4 36 = .ok (.bipush 8, 2) := by decide +kernel
theorem dJ6_bitCount_0f7a4_38 : decode cJ6_bitCount_0f7a4 38 = .ok (.iushr, 1) := by decide +kernel
theorem dJ6_bitCount_0f7a4_39 : decode cJ6_bitCount_0f7a4 39 = .ok (.iadd, 1) := by decide +kernel
theorem dJ6_bitCount_0f7a4_40 : decode cJ6_bitCount_0f7a4 40 = .ok (.istore_n 0, 1) := by decide +kernel
theorem dJ6_bitCount_0f7a4_41 : decode cJ6_bitCount_0f7a4 41 = .ok (.iload_n 0, 1) := by decide +kernel
theorem dJ6_bitCount_0f7a4_42 : decode cJ6_bitCount_0f7a4 42 = .ok (.iload_n 0, 1) := by decide +kernel
theorem dJ6_bitCount_0f7a4_43 : decode cJ6_bitCount_0f7a4 43 = .ok (.bipush 16, 2) := by decide +kernel
theorem dJ6_bitCount_0f7a4_45 : decode cJ6_bitCount_0f7a4 45 = .ok (.iushr, 1) := by decide +kernel
theorem dJ6_bitCount_0f7a4_46 : decode cJ6_bitCount_0f7a4 46 = .ok (.iadd, 1) := by decide +kernel
theorem dJ6_bitCount_0f7a4_47 : decode cJ6_bitCount_0f7a4 47 = .ok (.istore_n 0, 1) := by decide +kernel
theorem dJ6_bitCount_0f7a4_48 : decode cJ6_bitCount_0f7a4 48 = .ok (.iload_n 0, 1) := by decide +kernel
theorem dJ6_bitCount_0f7a4_49 : decode cJ6_bitCount_0f7a4 49 = .ok (.bipush 63, 2) := by decide +kernel
theorem dJ6_bitCount_0f7a4_51 : decode cJ6_bitCount_0f7a4 51 = .ok (.iand, 1) := by decide +kernel
theorem dJ6_bitCount_0f7a4_52 : decode cJ6_bitCount_0f7a4 52 = .ok (.ireturn, 1) := by decide +kernel
theorem dJ9_max_7cf53_0 : decode cJ9_max_7cf53 0 = .ok (.iload_n 0, 1) := by decide +kernel
theorem dJ9_max_7cf53_1 : decode cJ9_max_7cf53 1 = .ok (.iload_n 1, 1) := by decide +kernel
theorem dJ9_max_7cf53_2 : decode cJ9_max_7cf53 2 = .ok (.if_icmp .lt 7, 3) := by decide +kernel
theorem dJ9_max_7cf53_5 : decode cJ9_max_7cf53 5 = .ok (.iload_n 0, 1) := by decide +kernel
theorem dJ9_max_7cf53_6 : decode cJ9_max_7cf53 6 = .ok (.goto 4, 3) := by decide +kernel
theorem dJ9_max_7cf53_9 : decode cJ9_max_7cf53 9 = .ok (.iload_n 1, 1) := by decide +kernel
theorem dJ9_max_7cf53_10 : decode cJ9_max_7cf53 10 = .ok (.ireturn, 1) := by decide +kernel
theorem dJ9_min_7cf53_0 : decode cJ9_min_7cf53 0 = .ok (.iload_n 0, 1) := by decide +kernel
theorem dJ9_min_7cf53_1 : decode cJ9_min_7cf53 1 = .ok (.iload_n 1, 1) := by decide +kernel
theorem dJ9_min_7cf53_2 : decode cJ9_min_7cf53 2 = .ok (.if_icmp .gt 7, 3) := by decide +kernel
theorem dJ9_min_7cf53_5 : decode cJ9_min_7cf53 5 = .ok (.iload_n 0, 1) := by decide +kernel
theorem dJ9_min_7cf53_6 : decode cJ9_min_7cf53 6 = .ok (.goto 4, 3) := by decide +kernel
theorem dJ9_min_7cf53_9 : decode cJ9_min_7cf53 9 = .ok (.iload_n 1, 1) := by decide +kernel
theorem dJ9_min_7cf53_10 : decode cJ9_min_7cf53 10 = .ok (.ireturn, 1) := by decide +kernel
