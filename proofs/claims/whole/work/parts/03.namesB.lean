theorem dX3_init_0 : decode cX3_init 0 = .ok (.aload_n 0, 1) := by decide +kernel
theorem dX3_init_1 : decode cX3_init 1 = .ok (.invokespecial 1, 3) := by decide +kernel
theorem dX3_init_4 : decode cX3_init 4 = .ok (.aload_n 0, 1) := by decide +kernel
theorem dX3_init_5 : decode cX3_init 5 = .ok (.new 7, 3) := by decide +kernel
theorem dX3_init_8 : decode cX3_init 8 = .ok (.dup, 1) := by decide +kernel
theorem dX3_init_9 : decode cX3_init 9 = .ok (.invokespecial 9, 3) := by decide +kernel
theorem dX3_init_12 : decode cX3_init 12 = .ok (.putfield 10, 3) := by decide +kernel
theorem dX3_init_15 : decode cX3_init 15 = .ok (.aload_n 0, 1) := by decide +kernel
theorem dX3_init_16 : decode cX3_init 16 = .ok (.new 16, 3) := by decide +kernel
theorem dX3_init_19 : decode cX3_init 19 = .ok (.dup, 1) := by decide +kernel
theorem dX3_init_20 : decode cX3_init 20 = .ok (.invokespecial 18, 3) := by decide +kernel
theorem dX3_init_23 : decode cX3_init 23 = .ok (.putfield 19, 3) := by decide +kernel
theorem dX3_init_26 : decode cX3_init 26 = .ok (.aload_n 0, 1) := by decide +kernel
theorem dX3_init_27 : decode cX3_init 27 = .ok (.new 23, 3) := by decide +kernel
theorem dX3_init_30 : decode cX3_init 30 = .ok (.dup, 1) := by decide +kernel
theorem dX3_init_31 : decode cX3_init 31 = .ok (.invokespecial 25, 3) := by decide +kernel
theorem dX3_init_34 : decode cX3_init 34 = .ok (.putfield 26, 3) := by decide +kernel
theorem dX3_init_37 : decode cX3_init 37 = .ok (.aload_n 0, 1) := by decide +kernel
theorem dX3_init_38 : decode cX3_init 38 = .ok (.new 23, 3) := by decide +kernel
theorem dX3_init_41 : decode cX3_init 41 = .ok (.dup, 1) := by decide +kernel
theorem dX3_init_42 : decode cX3_init 42 = .ok (.invokespecial 25, 3) := by decide +kernel
theorem dX3_init_45 : decode cX3_init 45 = .ok (.putfield 30, 3) := by decide +kernel
theorem dX3_init_48 : decode cX3_init 48 = .ok (.aload_n 0, 1) := by decide +kernel
theorem dX3_init_49 : decode cX3_init 49 = .ok (.iconst 5, 1) := by decide +kernel
theorem dX3_init_50 : decode cX3_init 50 = .ok (.newarray .int, 2) := by decide +kernel
theorem dX3_init_52 : decode cX3_init 52 = .ok (.putfield 33, 3) := by decide +kernel
theorem dX3_init_55 : decode cX3_init 55 = .ok (.return_, 1) := by decide +kernel
set_option maxRecDepth 20000 in
theorem ggX3_letter_X0_add : GoodIn wsX3_letter wsX0_add := goodIn_r _ [5, 6, 7, 8, 9, 10, 19, 20] (by decide +kernel) (by decide +kernel)
set_option maxRecDepth 20000 in
theorem gX3_letter_X0_add_n37 : GoodIn wsX3_letter (wsX0_add) := ggX3_letter_X0_add
theorem dX3_letter_0 : decode cX3_letter 0 = .ok (.iload_n 1, 1) := by decide +kernel
theorem dX3_letter_1 : decode cX3_letter 1 = .ok (.iconst 1, 1) := by decide +kernel
theorem dX3_letter_2 : decode cX3_letter 2 = .ok (.if_icmp .lt 9, 3) := by decide +kernel
theorem dX3_letter_5 : decode cX3_letter 5 = .ok (.iload_n 1, 1) := by decide +kernel
theorem dX3_letter_6 : decode cX3_letter 6 = .ok (.bipush 126, 2) := by decide +kernel
theorem dX3_letter_8 : decode cX3_letter 8 = .ok (.if_icmp .le 6, 3) := by decide +kernel
theorem dX3_letter_11 : decode cX3_letter 11 = .ok (.bipush (-102), 2) := by decide +kernel
theorem dX3_letter_13 : decode cX3_letter 13 = .ok (.ireturn, 1) := by decide +kernel
theorem dX3_letter_14 : decode cX3_letter 14 = .ok (.aload_n 0, 1) := by decide +kernel
theorem dX3_letter_15 : decode cX3_letter 15 = .ok (.getfield 10, 3) := by decide +kernel
theorem dX3_letter_18 : decode cX3_letter 18 = .ok (.iload_n 1, 1) := by decide +kernel
theorem dX3_letter_19 : decode cX3_letter 19 = .ok (.invokevirtual 37, 3) := by decide +kernel
theorem dX3_letter_22 : decode cX3_letter 22 = .ok (.ifCond .eq 13, 3) := by decide +kernel
theorem dX3_letter_25 : decode cX3_letter 25 = .ok (.aload_n 0, 1) := by decide +kernel
theorem dX3_letter_26 : decode cX3_letter 26 = .ok (.getfield 10, 3) := by decide +kernel
theorem dX3_letter_29 : decode cX3_letter 29 = .ok (.getfield 41, 3) := by decide +kernel
theorem dX3_letter_32 : decode cX3_letter 32 = .ok (.goto 5, 3) := by decide +kernel
theorem dX3_letter_35 : decode cX3_letter 35 = .ok (.bipush (-104), 2) := by decide +kernel
theorem dX3_letter_37 : decode cX3_letter 37 = .ok (.ireturn, 1) := by decide +kernel
theorem dX3_blank_0 : decode cX3_blank 0 = .ok (.aload_n 0, 1) := by decide +kernel
theorem dX3_blank_1 : decode cX3_blank 1 = .ok (.getfield 10, 3) := by decide +kernel
theorem dX3_blank_4 : decode cX3_blank 4 = .ok (.getfield 41, 3) := by decide +kernel
theorem dX3_blank_7 : decode cX3_blank 7 = .ok (.istore_n 1, 1) := by decide +kernel
theorem dX3_blank_8 : decode cX3_blank 8 = .ok (.aload_n 0, 1) := by decide +kernel
theorem dX3_blank_9 : decode cX3_blank 9 = .ok (.getfield 10, 3) := by decide +kernel
theorem dX3_blank_12 : decode cX3_blank 12 = .ok (.iconst 0, 1) := by decide +kernel
theorem dX3_blank_13 : decode cX3_blank 13 = .ok (.putfield 41, 3) := by decide +kernel
theorem dX3_blank_16 : decode cX3_blank 16 = .ok (.iload_n 1, 1) := by decide +kernel
theorem dX3_blank_17 : decode cX3_blank 17 = .ok (.ireturn, 1) := by decide +kernel
set_option maxRecDepth 20000 in
theorem ggX3_fault_X0_firstWrong : GoodIn wsX3_fault wsX0_firstWrong := goodIn_r _ [5, 6, 7, 8, 9, 3, 10, 11, 12, 13, 14, 15, 16, 25, 26] (by decide +kernel) (by decide +kernel)
set_option maxRecDepth 20000 in
theorem gX3_fault_X0_firstWrong_n45 : GoodIn wsX3_fault (wsX0_firstWrong) := ggX3_fault_X0_firstWrong
theorem dX3_fault_0 : decode cX3_fault 0 = .ok (.aload_n 0, 1) := by decide +kernel
theorem dX3_fault_1 : decode cX3_fault 1 = .ok (.getfield 10, 3) := by decide +kernel
theorem dX3_fault_4 : decode cX3_fault 4 = .ok (.invokevirtual 45, 3) := by decide +kernel
theorem dX3_fault_7 : decode cX3_fault 7 = .ok (.ireturn, 1) := by decide +kernel
set_option maxRecDepth 20000 in
theorem ggX3_camp_X0_isCamp : GoodIn wsX3_camp wsX0_isCamp := goodIn_r _ [9, 10, 11, 12, 13, 7, 14, 15, 16, 17, 18, 19, 20, 21, 22, 23, 24, 50, 51] (by decide +kernel) (by decide +kernel)
set_option maxRecDepth 20000 in
theorem gX3_camp_X0_isCamp_n49 : GoodIn wsX3_camp (wsX0_isCamp) := ggX3_camp_X0_isCamp
set_option maxRecDepth 20000 in
theorem ggX3_camp_X0_codeAt : GoodIn wsX3_camp wsX0_codeAt := goodIn_r _ [18, 19, 20, 21, 22, 50, 51] (by decide +kernel) (by decide +kernel)
set_option maxRecDepth 20000 in
theorem gX3_camp_X0_codeAt_n59 : GoodIn wsX3_camp (wsX0_codeAt) := ggX3_camp_X0_codeAt
set_option maxRecDepth 20000 in
theorem ggX3_camp_X3_kindOf : GoodIn wsX3_camp wsX3_kindOf := goodIn_r _ [24] (by decide +kernel) (by decide +kernel)
set_option maxRecDepth 20000 in
theorem gX3_camp_X3_kindOf : GoodIn wsX3_camp (va_wsS RX3 63 yX3_kindOf wsX3_kindOf) := goodIn_app (goodIn_of _ (by decide +kernel)) ggX3_camp_X3_kindOf
set_option maxRecDepth 20000 in
theorem ggX3_camp_X3_put : GoodIn wsX3_camp wsX3_put := goodIn_r _ [28] (by decide +kernel) (by decide +kernel)
set_option maxRecDepth 20000 in
theorem gX3_camp_X3_put : GoodIn wsX3_camp (va_wsS RX3 66 yX3_put wsX3_put) := goodIn_app (goodIn_of _ (by decide +kernel)) ggX3_camp_X3_put
set_option maxRecDepth 20000 in
theorem ggX3_camp_X1_all : GoodIn wsX3_camp wsX1_all := goodIn_r _ [32, 33, 52, 53, 54, 55, 56, 57, 58, 59] (by decide +kernel) (by decide +kernel)
set_option maxRecDepth 20000 in
theorem gX3_camp_X1_all_n70 : GoodIn wsX3_camp (wsX1_all) := ggX3_camp_X1_all
set_option maxRecDepth 20000 in
theorem ggX3_camp_X2_begin : GoodIn wsX3_camp wsX2_begin := goodIn_r _ [37, 38, 39, 40, 41, 60, 61, 62, 63, 64, 65, 66, 67, 68] (by decide +kernel) (by decide +kernel)
set_option maxRecDepth 20000 in
theorem gX3_camp_X2_begin_n73 : GoodIn wsX3_camp (wsX2_begin) := ggX3_camp_X2_begin
theorem dX3_camp_0 : decode cX3_camp 0 = .ok (.aload_n 0, 1) := by decide +kernel
theorem dX3_camp_1 : decode cX3_camp 1 = .ok (.getfield 10, 3) := by decide +kernel
theorem dX3_camp_4 : decode cX3_camp 4 = .ok (.invokevirtual 49, 3) := by decide +kernel
theorem dX3_camp_7 : decode cX3_camp 7 = .ok (.ifCond .ne 6, 3) := by decide +kernel
theorem dX3_camp_10 : decode cX3_camp 10 = .ok (.bipush (-103), 2) := by decide +kernel
theorem dX3_camp_12 : decode cX3_camp 12 = .ok (.ireturn, 1) := by decide +kernel
theorem dX3_camp_13 : decode cX3_camp 13 = .ok (.aload_n 0, 1) := by decide +kernel
theorem dX3_camp_14 : decode cX3_camp 14 = .ok (.getfield 19, 3) := by decide +kernel
theorem dX3_camp_17 : decode cX3_camp 17 = .ok (.aload_n 0, 1) := by decide +kernel
theorem dX3_camp_18 : decode cX3_camp 18 = .ok (.getfield 10, 3) := by decide +kernel
theorem dX3_camp_21 : decode cX3_camp 21 = .ok (.getfield 41, 3) := by decide +kernel
theorem dX3_camp_24 : decode cX3_camp 24 = .ok (.iconst 5, 1) := by decide +kernel
theorem dX3_camp_25 : decode cX3_camp 25 = .ok (.isub, 1) := by decide +kernel
theorem dX3_camp_26 : decode cX3_camp 26 = .ok (.iconst 1, 1) := by decide +kernel
theorem dX3_camp_27 : decode cX3_camp 27 = .ok (.isub, 1) := by decide +kernel
theorem dX3_camp_28 : decode cX3_camp 28 = .ok (.putfield 53, 3) := by decide +kernel
theorem dX3_camp_31 : decode cX3_camp 31 = .ok (.iconst 0, 1) := by decide +kernel
theorem dX3_camp_32 : decode cX3_camp 32 = .ok (.istore_n 1, 1) := by decide +kernel
theorem dX3_camp_33 : decode cX3_camp 33 = .ok (.iload_n 1, 1) := by decide +kernel
theorem dX3_camp_34 : decode cX3_camp 34 = .ok (.aload_n 0, 1) := by decide +kernel
theorem dX3_camp_35 : decode cX3_camp 35 = .ok (.getfield 19, 3) := by decide +kernel
theorem dX3_camp_38 : decode cX3_camp 38 = .ok (.getfield 53, 3) := by decide +kernel
theorem dX3_camp_41 : decode cX3_camp 41 = .ok (.if_icmp .ge 31, 3) := by decide +kernel
theorem dX3_camp_44 : decode cX3_camp 44 = .ok (.aload_n 0, 1) := by decide +kernel
theorem dX3_camp_45 : decode cX3_camp 45 = .ok (.getfield 19, 3) := by decide +kernel
theorem dX3_camp_48 : decode cX3_camp 48 = .ok (.getfield 56, 3) := by decide +kernel
theorem dX3_camp_51 : decode cX3_camp 51 = .ok (.iload_n 1, 1) := by decide +kernel
theorem dX3_camp_52 : decode cX3_camp 52 = .ok (.aload_n 0, 1) := by decide +kernel
theorem dX3_camp_53 : decode cX3_camp 53 = .ok (.getfield 10, 3) := by decide +kernel
theorem dX3_camp_56 : decode cX3_camp 56 = .ok (.iload_n 1, 1) := by decide +kernel
theorem dX3_camp_57 : decode cX3_camp 57 = .ok (.invokevirtual 59, 3) := by decide +kernel
theorem dX3_camp_60 : decode cX3_camp 60 = .ok (.invokestatic 63, 3) := by decide +kernel
theorem dX3_camp_63 : decode cX3_camp 63 = .ok (.invokestatic 66, 3) := by decide +kernel
theorem dX3_camp_66 : decode cX3_camp 66 = .ok (.iinc 1 1, 3) := by decide +kernel
theorem dX3_camp_69 : decode cX3_camp 69 = .ok (.goto (-36), 3) := by decide +kernel
theorem dX3_camp_72 : decode cX3_camp 72 = .ok (.aload_n 0, 1) := by decide +kernel
theorem dX3_camp_73 : decode cX3_camp 73 = .ok (.getfield 26, 3) := by decide +kernel
theorem dX3_camp_76 : decode cX3_camp 76 = .ok (.aload_n 0, 1) := by decide +kernel
theorem dX3_camp_77 : decode cX3_camp 77 = .ok (.getfield 19, 3) := by decide +kernel
theorem dX3_camp_80 : decode cX3_camp 80 = .ok (.invokevirtual 70, 3) := by decide +kernel
theorem dX3_camp_83 : decode cX3_camp 83 = .ok (.invokevirtual 73, 3) := by decide +kernel
theorem dX3_camp_86 : decode cX3_camp 86 = .ok (.iconst 0, 1) := by decide +kernel
theorem dX3_camp_87 : decode cX3_camp 87 = .ok (.istore_n 1, 1) := by decide +kernel
theorem dX3_camp_88 : decode cX3_camp 88 = .ok (.iload_n 1, 1) := by decide +kernel
theorem dX3_camp_89 : decode cX3_camp 89 = .ok (.iconst 5, 1) := by decide +kernel
theorem dX3_camp_90 : decode cX3_camp 90 = .ok (.if_icmp .ge 41, 3) := by decide +kernel
theorem dX3_camp_93 : decode cX3_camp 93 = .ok (.aload_n 0, 1) := by decide +kernel
theorem dX3_camp_94 : decode cX3_camp 94 = .ok (.getfield 26, 3) := by decide +kernel
theorem dX3_camp_97 : decode cX3_camp 97 = .ok (.getfield 77, 3) := by decide +kernel
theorem dX3_camp_100 : decode cX3_camp 100 = .ok (.iload_n 1, 1) := by decide +kernel
theorem dX3_camp_101 : decode cX3_camp 101 = .ok (.aload_n 0, 1) := by decide +kernel
theorem dX3_camp_102 : decode cX3_camp 102 = .ok (.getfield 10, 3) := by decide +kernel
theorem dX3_camp_105 : decode cX3_camp 105 = .ok (.aload_n 0, 1) := by decide +kernel
theorem dX3_camp_106 : decode cX3_camp 106 = .ok (.getfield 19, 3) := by decide +kernel
theorem dX3_camp_109 : decode cX3_camp 109 = .ok (.getfield 53, 3) := by decide +kernel
theorem dX3_camp_112 : decode cX3_camp 112 = .ok (.iconst 1, 1) := by decide +kernel
theorem dX3_camp_113 : decode cX3_camp 113 = .ok (.iadd, 1) := by decide +kernel
theorem dX3_camp_114 : decode cX3_camp 114 = .ok (.iload_n 1, 1) := by decide +kernel
theorem dX3_camp_115 : decode cX3_camp 115 = .ok (.iadd, 1) := by decide +kernel
theorem dX3_camp_116 : decode cX3_camp 116 = .ok (.invokevirtual 59, 3) := by decide +kernel
theorem dX3_camp_119 : decode cX3_camp 119 = .ok (.bipush 48, 2) := by decide +kernel
theorem dX3_camp_121 : decode cX3_camp 121 = .ok (.isub, 1) := by decide +kernel
theorem dX3_camp_122 : decode cX3_camp 122 = .ok (.invokestatic 66, 3) := by decide +kernel
theorem dX3_camp_125 : decode cX3_camp 125 = .ok (.iinc 1 1, 3) := by decide +kernel
theorem dX3_camp_128 : decode cX3_camp 128 = .ok (.goto (-40), 3) := by decide +kernel
theorem dX3_camp_131 : decode cX3_camp 131 = .ok (.aload_n 0, 1) := by decide +kernel
theorem dX3_camp_132 : decode cX3_camp 132 = .ok (.iconst 0, 1) := by decide +kernel
theorem dX3_camp_133 : decode cX3_camp 133 = .ok (.putfield 80, 3) := by decide +kernel
theorem dX3_camp_136 : decode cX3_camp 136 = .ok (.aload_n 0, 1) := by decide +kernel
theorem dX3_camp_137 : decode cX3_camp 137 = .ok (.dup, 1) := by decide +kernel
theorem dX3_camp_138 : decode cX3_camp 138 = .ok (.getfield 84, 3) := by decide +kernel
theorem dX3_camp_141 : decode cX3_camp 141 = .ok (.iconst 1, 1) := by decide +kernel
theorem dX3_camp_142 : decode cX3_camp 142 = .ok (.iadd, 1) := by decide +kernel
theorem dX3_camp_143 : decode cX3_camp 143 = .ok (.putfield 84, 3) := by decide +kernel
theorem dX3_camp_146 : decode cX3_camp 146 = .ok (.aload_n 0, 1) := by decide +kernel
theorem dX3_camp_147 : decode cX3_camp 147 = .ok (.getfield 10, 3) := by decide +kernel
theorem dX3_camp_150 : decode cX3_camp 150 = .ok (.iconst 0, 1) := by decide +kernel
theorem dX3_camp_151 : decode cX3_camp 151 = .ok (.putfield 41, 3) := by decide +kernel
theorem dX3_camp_154 : decode cX3_camp 154 = .ok (.aload_n 0, 1) := by decide +kernel
theorem dX3_camp_155 : decode cX3_camp 155 = .ok (.getfield 19, 3) := by decide +kernel
theorem dX3_camp_158 : decode cX3_camp 158 = .ok (.getfield 53, 3) := by decide +kernel
theorem dX3_camp_161 : decode cX3_camp 161 = .ok (.ireturn, 1) := by decide +kernel
set_option maxRecDepth 20000 in
theorem ggX3_member_X3_at : GoodIn wsX3_member wsX3_at := goodIn_r _ [9] (by decide +kernel) (by decide +kernel)
set_option maxRecDepth 20000 in
theorem gX3_member_X3_at : GoodIn wsX3_member (va_wsS RX3 87 yX3_at wsX3_at) := goodIn_app (goodIn_of _ (by decide +kernel)) ggX3_member_X3_at
theorem dX3_member_0 : decode cX3_member 0 = .ok (.iload_n 1, 1) := by decide +kernel
theorem dX3_member_1 : decode cX3_member 1 = .ok (.ifCond .lt 14, 3) := by decide +kernel
theorem dX3_member_4 : decode cX3_member 4 = .ok (.iload_n 1, 1) := by decide +kernel
theorem dX3_member_5 : decode cX3_member 5 = .ok (.aload_n 0, 1) := by decide +kernel
theorem dX3_member_6 : decode cX3_member 6 = .ok (.getfield 19, 3) := by decide +kernel
theorem dX3_member_9 : decode cX3_member 9 = .ok (.getfield 53, 3) := by decide +kernel
theorem dX3_member_12 : decode cX3_member 12 = .ok (.if_icmp .lt 6, 3) := by decide +kernel
theorem dX3_member_15 : decode cX3_member 15 = .ok (.bipush (-101), 2) := by decide +kernel
theorem dX3_member_17 : decode cX3_member 17 = .ok (.ireturn, 1) := by decide +kernel
theorem dX3_member_18 : decode cX3_member 18 = .ok (.aload_n 0, 1) := by decide +kernel
theorem dX3_member_19 : decode cX3_member 19 = .ok (.getfield 19, 3) := by decide +kernel
theorem dX3_member_22 : decode cX3_member 22 = .ok (.getfield 56, 3) := by decide +kernel
theorem dX3_member_25 : decode cX3_member 25 = .ok (.iload_n 1, 1) := by decide +kernel
theorem dX3_member_26 : decode cX3_member 26 = .ok (.invokestatic 87, 3) := by decide +kernel
theorem dX3_member_29 : decode cX3_member 29 = .ok (.istore_n 3, 1) := by decide +kernel
theorem dX3_member_30 : decode cX3_member 30 = .ok (.iload_n 2, 1) := by decide +kernel
theorem dX3_member_31 : decode cX3_member 31 = .ok (.tableswitch 71 0 4 #[33, 35, 43, 51, 59], 33) := by decide +kernel
theorem dX3_member_64 : decode cX3_member 64 = .ok (.iload_n 3, 1) := by decide +kernel
theorem dX3_member_65 : decode cX3_member 65 = .ok (.ireturn, 1) := by decide +kernel
theorem dX3_member_66 : decode cX3_member 66 = .ok (.getstatic 91, 3) := by decide +kernel
theorem dX3_member_69 : decode cX3_member 69 = .ok (.iload_n 3, 1) := by decide +kernel
theorem dX3_member_70 : decode cX3_member 70 = .ok (.invokestatic 87, 3) := by decide +kernel
theorem dX3_member_73 : decode cX3_member 73 = .ok (.ireturn, 1) := by decide +kernel
theorem dX3_member_74 : decode cX3_member 74 = .ok (.getstatic 94, 3) := by decide +kernel
theorem dX3_member_77 : decode cX3_member 77 = .ok (.iload_n 3, 1) := by decide +kernel
theorem dX3_member_78 : decode cX3_member 78 = .ok (.invokestatic 87, 3) := by decide +kernel
theorem dX3_member_81 : decode cX3_member 81 = .ok (.ireturn, 1) := by decide +kernel
theorem dX3_member_82 : decode cX3_member 82 = .ok (.getstatic 97, 3) := by decide +kernel
theorem dX3_member_85 : decode cX3_member 85 = .ok (.iload_n 3, 1) := by decide +kernel
theorem dX3_member_86 : decode cX3_member 86 = .ok (.invokestatic 87, 3) := by decide +kernel
theorem dX3_member_89 : decode cX3_member 89 = .ok (.ireturn, 1) := by decide +kernel
theorem dX3_member_90 : decode cX3_member 90 = .ok (.aload_n 0, 1) := by decide +kernel
theorem dX3_member_91 : decode cX3_member 91 = .ok (.getfield 26, 3) := by decide +kernel
theorem dX3_member_94 : decode cX3_member 94 = .ok (.getfield 100, 3) := by decide +kernel
theorem dX3_member_97 : decode cX3_member 97 = .ok (.iload_n 1, 1) := by decide +kernel
theorem dX3_member_98 : decode cX3_member 98 = .ok (.ishr, 1) := by decide +kernel
theorem dX3_member_99 : decode cX3_member 99 = .ok (.iconst 1, 1) := by decide +kernel
theorem dX3_member_100 : decode cX3_member 100 = .ok (.iand, 1) := by decide +kernel
theorem dX3_member_101 : decode cX3_member 101 = .ok (.ireturn, 1) := by decide +kernel
theorem dX3_member_102 : decode cX3_member 102 = .ok (.bipush (-102), 2) := by decide +kernel
theorem dX3_member_104 : decode cX3_member 104 = .ok (.ireturn, 1) := by decide +kernel
set_option maxRecDepth 20000 in
theorem ggX3_as_X3_at : GoodIn wsX3_as wsX3_at := goodIn_r _ [5] (by decide +kernel) (by decide +kernel)
set_option maxRecDepth 20000 in
theorem gX3_as_X3_at : GoodIn wsX3_as (va_wsS RX3 87 yX3_at wsX3_at) := goodIn_app (goodIn_of _ (by decide +kernel)) ggX3_as_X3_at
set_option maxRecDepth 20000 in
theorem ggX3_as_X3_isOf : GoodIn wsX3_as wsX3_isOf := goodIn_r _ [8] (by decide +kernel) (by decide +kernel)
set_option maxRecDepth 20000 in
theorem gX3_as_X3_isOf : GoodIn wsX3_as (va_wsS RX3 103 yX3_isOf wsX3_isOf) := goodIn_app (goodIn_of _ (by decide +kernel)) ggX3_as_X3_isOf
theorem dX3_as_0 : decode cX3_as 0 = .ok (.iload_n 1, 1) := by decide +kernel
theorem dX3_as_1 : decode cX3_as 1 = .ok (.ifCond .lt 14, 3) := by decide +kernel
theorem dX3_as_4 : decode cX3_as 4 = .ok (.iload_n 1, 1) := by decide +kernel
theorem dX3_as_5 : decode cX3_as 5 = .ok (.aload_n 0, 1) := by decide +kernel
theorem dX3_as_6 : decode cX3_as 6 = .ok (.getfield 19, 3) := by decide +kernel
theorem dX3_as_9 : decode cX3_as 9 = .ok (.getfield 53, 3) := by decide +kernel
theorem dX3_as_12 : decode cX3_as 12 = .ok (.if_icmp .lt 6, 3) := by decide +kernel
theorem dX3_as_15 : decode cX3_as 15 = .ok (.bipush (-101), 2) := by decide +kernel
theorem dX3_as_17 : decode cX3_as 17 = .ok (.ireturn, 1) := by decide +kernel
theorem dX3_as_18 : decode cX3_as 18 = .ok (.iload_n 2, 1) := by decide +kernel
theorem dX3_as_19 : decode cX3_as 19 = .ok (.ifCond .lt 8, 3) := by decide +kernel
theorem dX3_as_22 : decode cX3_as 22 = .ok (.iload_n 2, 1) := by decide +kernel
theorem dX3_as_23 : decode cX3_as 23 = .ok (.iconst 5, 1) := by decide +kernel
theorem dX3_as_24 : decode cX3_as 24 = .ok (.if_icmp .lt 6, 3) := by decide +kernel
theorem dX3_as_27 : decode cX3_as 27 = .ok (.bipush (-102), 2) := by decide +kernel
theorem dX3_as_29 : decode cX3_as 29 = .ok (.ireturn, 1) := by decide +kernel
theorem dX3_as_30 : decode cX3_as 30 = .ok (.aload_n 0, 1) := by decide +kernel
theorem dX3_as_31 : decode cX3_as 31 = .ok (.getfield 19, 3) := by decide +kernel
theorem dX3_as_34 : decode cX3_as 34 = .ok (.getfield 56, 3) := by decide +kernel
theorem dX3_as_37 : decode cX3_as 37 = .ok (.iload_n 1, 1) := by decide +kernel
theorem dX3_as_38 : decode cX3_as 38 = .ok (.invokestatic 87, 3) := by decide +kernel
theorem dX3_as_41 : decode cX3_as 41 = .ok (.iload_n 2, 1) := by decide +kernel
theorem dX3_as_42 : decode cX3_as 42 = .ok (.invokestatic 103, 3) := by decide +kernel
theorem dX3_as_45 : decode cX3_as 45 = .ok (.ifCond .eq 7, 3) := by decide +kernel
theorem dX3_as_48 : decode cX3_as 48 = .ok (.iload_n 1, 1) := by decide +kernel
theorem dX3_as_49 : decode cX3_as 49 = .ok (.goto 4, 3) := by decide +kernel
theorem dX3_as_52 : decode cX3_as 52 = .ok (.iconst (-1), 1) := by decide +kernel
theorem dX3_as_53 : decode cX3_as 53 = .ok (.ireturn, 1) := by decide +kernel
set_option maxRecDepth 20000 in
theorem ggX3_cairn_X3_isNoCairn : GoodIn wsX3_cairn wsX3_isNoCairn := goodIn_r _ [6, 7, 100, 101, 102, 103, 104, 105, 106, 107, 117, 118, 119, 120, 121, 122, 123, 124] (by decide +kernel) (by decide +kernel)
set_option maxRecDepth 20000 in
theorem gX3_cairn_X3_isNoCairn : GoodIn wsX3_cairn (wsV RX3 107 RX3 yX3_isNoCairn wsX3_isNoCairn) := goodIn_app (goodIn_of _ (by decide +kernel)) ggX3_cairn_X3_isNoCairn
set_option maxRecDepth 20000 in
theorem ggX3_cairn_X3_at : GoodIn wsX3_cairn wsX3_at := goodIn_r _ [10] (by decide +kernel) (by decide +kernel)
set_option maxRecDepth 20000 in
theorem gX3_cairn_X3_at : GoodIn wsX3_cairn (va_wsS RX3 87 yX3_at wsX3_at) := goodIn_app (goodIn_of _ (by decide +kernel)) ggX3_cairn_X3_at
set_option maxRecDepth 20000 in
theorem ggX3_cairn_X3_amountsAt : GoodIn wsX3_cairn wsX3_amountsAt := goodIn_r _ [14, 15, 16, 17, 5, 18, 1, 7, 19, 20, 21, 22, 23, 24, 25, 8, 9, 10, 26, 27, 28, 29, 30, 31, 32, 33, 34, 35, 36, 37, 38, 39, 40, 41, 42, 43, 44, 45, 46, 47, 48, 49, 50, 51, 52, 53, 54, 55, 56, 57, 58, 59, 60, 61, 62, 63, 64, 65, 66, 67, 68, 69, 70, 71, 72, 100, 101, 102, 103, 104, 105, 106, 107, 108, 109, 110, 111, 112, 113, 114, 115, 116, 117, 118, 119, 120, 121, 122, 123, 124] (by decide +kernel) (by decide +kernel)
set_option maxRecDepth 20000 in
theorem gX3_cairn_X3_amountsAt : GoodIn wsX3_cairn (wsV RX3 110 RX3 yX3_amountsAt wsX3_amountsAt) := goodIn_app (goodIn_of _ (by decide +kernel)) ggX3_cairn_X3_amountsAt
set_option maxRecDepth 20000 in
theorem ggX3_cairn_X3_bestTrial : GoodIn wsX3_cairn wsX3_bestTrial := goodIn_r _ [76, 7, 77, 78, 79, 80, 81, 82, 83, 84, 20, 85, 86, 49, 87, 88, 89, 5, 90, 91, 92, 41, 42, 43, 46, 47, 48, 50, 9, 10, 93, 94, 95, 96, 1, 97, 98, 99, 19, 21, 22, 23, 24, 25, 8, 26, 27, 28, 29, 30, 31, 32, 33, 34, 35, 36, 37, 38, 39, 40, 44, 45, 51, 52, 53, 54, 55, 56, 57, 58, 59, 60, 61, 62, 63, 64, 65, 66, 67, 68, 69, 70, 71, 72, 100, 101, 102, 103, 104, 105, 106, 107, 117, 118, 119, 120, 121, 122, 123, 124, 108, 109, 110, 111, 112, 113, 114, 115, 116] (by decide +kernel) (by decide +kernel)
set_option maxRecDepth 20000 in
theorem gX3_cairn_X3_bestTrial : GoodIn wsX3_cairn (wsV RX3 113 RX3 yX3_bestTrial wsX3_bestTrial) := goodIn_app (goodIn_of _ (by decide +kernel)) ggX3_cairn_X3_bestTrial
theorem dX3_cairn_0 : decode cX3_cairn 0 = .ok (.aload_n 0, 1) := by decide +kernel
theorem dX3_cairn_1 : decode cX3_cairn 1 = .ok (.iload_n 1, 1) := by decide +kernel
theorem dX3_cairn_2 : decode cX3_cairn 2 = .ok (.invokevirtual 107, 3) := by decide +kernel
theorem dX3_cairn_5 : decode cX3_cairn 5 = .ok (.ifCond .eq 6, 3) := by decide +kernel
theorem dX3_cairn_8 : decode cX3_cairn 8 = .ok (.bipush (-101), 2) := by decide +kernel
theorem dX3_cairn_10 : decode cX3_cairn 10 = .ok (.ireturn, 1) := by decide +kernel
theorem dX3_cairn_11 : decode cX3_cairn 11 = .ok (.iload_n 2, 1) := by decide +kernel
theorem dX3_cairn_12 : decode cX3_cairn 12 = .ok (.tableswitch 59 0 2 #[28, 42, 48], 28) := by decide +kernel
theorem dX3_cairn_40 : decode cX3_cairn 40 = .ok (.aload_n 0, 1) := by decide +kernel
theorem dX3_cairn_41 : decode cX3_cairn 41 = .ok (.getfield 26, 3) := by decide +kernel
theorem dX3_cairn_44 : decode cX3_cairn 44 = .ok (.getfield 77, 3) := by decide +kernel
theorem dX3_cairn_47 : decode cX3_cairn 47 = .ok (.iload_n 1, 1) := by decide +kernel
theorem dX3_cairn_48 : decode cX3_cairn 48 = .ok (.iconst 1, 1) := by decide +kernel
theorem dX3_cairn_49 : decode cX3_cairn 49 = .ok (.isub, 1) := by decide +kernel
theorem dX3_cairn_50 : decode cX3_cairn 50 = .ok (.invokestatic 87, 3) := by decide +kernel
theorem dX3_cairn_53 : decode cX3_cairn 53 = .ok (.ireturn, 1) := by decide +kernel
theorem dX3_cairn_54 : decode cX3_cairn 54 = .ok (.aload_n 0, 1) := by decide +kernel
theorem dX3_cairn_55 : decode cX3_cairn 55 = .ok (.iload_n 1, 1) := by decide +kernel
theorem dX3_cairn_56 : decode cX3_cairn 56 = .ok (.invokevirtual 110, 3) := by decide +kernel
theorem dX3_cairn_59 : decode cX3_cairn 59 = .ok (.ireturn, 1) := by decide +kernel
theorem dX3_cairn_60 : decode cX3_cairn 60 = .ok (.aload_n 0, 1) := by decide +kernel
theorem dX3_cairn_61 : decode cX3_cairn 61 = .ok (.iload_n 1, 1) := by decide +kernel
theorem dX3_cairn_62 : decode cX3_cairn 62 = .ok (.aload_n 0, 1) := by decide +kernel
theorem dX3_cairn_63 : decode cX3_cairn 63 = .ok (.iload_n 1, 1) := by decide +kernel
theorem dX3_cairn_64 : decode cX3_cairn 64 = .ok (.invokevirtual 110, 3) := by decide +kernel
theorem dX3_cairn_67 : decode cX3_cairn 67 = .ok (.invokevirtual 113, 3) := by decide +kernel
theorem dX3_cairn_70 : decode cX3_cairn 70 = .ok (.ireturn, 1) := by decide +kernel
theorem dX3_cairn_71 : decode cX3_cairn 71 = .ok (.bipush (-102), 2) := by decide +kernel
theorem dX3_cairn_73 : decode cX3_cairn 73 = .ok (.ireturn, 1) := by decide +kernel
set_option maxRecDepth 20000 in
theorem ggX3_lay_X3_isNoCairn : GoodIn wsX3_lay wsX3_isNoCairn := goodIn_r _ [6, 7, 14, 15, 16, 17, 18, 19, 20, 21, 31, 32, 33, 34, 35, 36, 37, 38] (by decide +kernel) (by decide +kernel)
set_option maxRecDepth 20000 in
theorem gX3_lay_X3_isNoCairn : GoodIn wsX3_lay (wsV RX3 107 RX3 yX3_isNoCairn wsX3_isNoCairn) := goodIn_app (goodIn_of _ (by decide +kernel)) ggX3_lay_X3_isNoCairn
set_option maxRecDepth 20000 in
theorem ggX3_lay_X3_at : GoodIn wsX3_lay wsX3_at := goodIn_r _ [10] (by decide +kernel) (by decide +kernel)
set_option maxRecDepth 20000 in
theorem gX3_lay_X3_at : GoodIn wsX3_lay (va_wsS RX3 87 yX3_at wsX3_at) := goodIn_app (goodIn_of _ (by decide +kernel)) ggX3_lay_X3_at
set_option maxRecDepth 20000 in
theorem ggX3_lay_X3_put : GoodIn wsX3_lay wsX3_put := goodIn_r _ [13] (by decide +kernel) (by decide +kernel)
set_option maxRecDepth 20000 in
theorem gX3_lay_X3_put : GoodIn wsX3_lay (va_wsS RX3 66 yX3_put wsX3_put) := goodIn_app (goodIn_of _ (by decide +kernel)) ggX3_lay_X3_put
theorem dX3_lay_0 : decode cX3_lay 0 = .ok (.aload_n 0, 1) := by decide +kernel
theorem dX3_lay_1 : decode cX3_lay 1 = .ok (.iload_n 1, 1) := by decide +kernel
theorem dX3_lay_2 : decode cX3_lay 2 = .ok (.invokevirtual 107, 3) := by decide +kernel
theorem dX3_lay_5 : decode cX3_lay 5 = .ok (.ifCond .eq 6, 3) := by decide +kernel
theorem dX3_lay_8 : decode cX3_lay 8 = .ok (.bipush (-101), 2) := by decide +kernel
theorem dX3_lay_10 : decode cX3_lay 10 = .ok (.ireturn, 1) := by decide +kernel
theorem dX3_lay_11 : decode cX3_lay 11 = .ok (.iload_n 2, 1) := by decide +kernel
theorem dX3_lay_12 : decode cX3_lay 12 = .ok (.ifCond .lt 9, 3) := by decide +kernel
theorem dX3_lay_15 : decode cX3_lay 15 = .ok (.iload_n 2, 1) := by decide +kernel
theorem dX3_lay_16 : decode cX3_lay 16 = .ok (.bipush 9, 2) := by decide +kernel
theorem dX3_lay_18 : decode cX3_lay 18 = .ok (.if_icmp .le 6, 3) := by decide +kernel
theorem dX3_lay_21 : decode cX3_lay 21 = .ok (.bipush (-102), 2) := by decide +kernel
theorem dX3_lay_23 : decode cX3_lay 23 = .ok (.ireturn, 1) := by decide +kernel
theorem dX3_lay_24 : decode cX3_lay 24 = .ok (.aload_n 0, 1) := by decide +kernel
theorem dX3_lay_25 : decode cX3_lay 25 = .ok (.getfield 26, 3) := by decide +kernel
theorem dX3_lay_28 : decode cX3_lay 28 = .ok (.getfield 77, 3) := by decide +kernel
theorem dX3_lay_31 : decode cX3_lay 31 = .ok (.iload_n 1, 1) := by decide +kernel
theorem dX3_lay_32 : decode cX3_lay 32 = .ok (.iconst 1, 1) := by decide +kernel
theorem dX3_lay_33 : decode cX3_lay 33 = .ok (.isub, 1) := by decide +kernel
theorem dX3_lay_34 : decode cX3_lay 34 = .ok (.invokestatic 87, 3) := by decide +kernel
theorem dX3_lay_37 : decode cX3_lay 37 = .ok (.istore_n 3, 1) := by decide +kernel
theorem dX3_lay_38 : decode cX3_lay 38 = .ok (.aload_n 0, 1) := by decide +kernel
theorem dX3_lay_39 : decode cX3_lay 39 = .ok (.getfield 26, 3) := by decide +kernel
theorem dX3_lay_42 : decode cX3_lay 42 = .ok (.getfield 77, 3) := by decide +kernel
theorem dX3_lay_45 : decode cX3_lay 45 = .ok (.iload_n 1, 1) := by decide +kernel
theorem dX3_lay_46 : decode cX3_lay 46 = .ok (.iconst 1, 1) := by decide +kernel
theorem dX3_lay_47 : decode cX3_lay 47 = .ok (.isub, 1) := by decide +kernel
theorem dX3_lay_48 : decode cX3_lay 48 = .ok (.iload_n 2, 1) := by decide +kernel
theorem dX3_lay_49 : decode cX3_lay 49 = .ok (.invokestatic 66, 3) := by decide +kernel
theorem dX3_lay_52 : decode cX3_lay 52 = .ok (.iload_n 3, 1) := by decide +kernel
theorem dX3_lay_53 : decode cX3_lay 53 = .ok (.ireturn, 1) := by decide +kernel
set_option maxRecDepth 20000 in
theorem ggX3_march_X3_isNoMarch : GoodIn wsX3_march wsX3_isNoMarch := goodIn_r _ [7, 8, 9, 10, 6, 11, 1, 12, 13, 14, 15, 16, 17, 18, 19, 80, 81, 82, 83, 84, 85, 86, 87, 97, 98, 99, 100, 101, 102, 103, 104] (by decide +kernel) (by decide +kernel)
set_option maxRecDepth 20000 in
theorem gX3_march_X3_isNoMarch : GoodIn wsX3_march (wsV RX3 117 RX3 yX3_isNoMarch wsX3_isNoMarch) := goodIn_app (goodIn_of _ (by decide +kernel)) ggX3_march_X3_isNoMarch
set_option maxRecDepth 20000 in
theorem ggX3_march_X3_anyIsDead : GoodIn wsX3_march wsX3_anyIsDead := goodIn_r _ [23, 2, 80, 81, 82, 83, 84, 85, 86, 87, 88, 89, 90, 91, 92, 93, 94, 95, 96] (by decide +kernel) (by decide +kernel)
set_option maxRecDepth 20000 in
theorem gX3_march_X3_anyIsDead : GoodIn wsX3_march (wsV RX3 121 RX3 yX3_anyIsDead wsX3_anyIsDead) := goodIn_app (goodIn_of _ (by decide +kernel)) ggX3_march_X3_anyIsDead
set_option maxRecDepth 20000 in
theorem ggX3_march_X1_setCairns : GoodIn wsX3_march wsX1_setCairns := goodIn_r _ [26, 27, 28, 6, 29, 30, 31, 32, 33, 34, 35, 97, 98, 99, 100, 101, 102, 103, 104] (by decide +kernel) (by decide +kernel)
set_option maxRecDepth 20000 in
theorem gX3_march_X1_setCairns_n124 : GoodIn wsX3_march (wsX1_setCairns) := ggX3_march_X1_setCairns
set_option maxRecDepth 20000 in
theorem ggX3_march_X1_go : GoodIn wsX3_march wsX1_go := goodIn_r _ [38, 39, 40, 41, 42, 43, 44, 13, 45, 46, 47, 48, 49, 50, 51, 52, 53, 54, 55, 16, 56, 31, 6, 32, 57, 58, 59, 60, 61, 62, 63, 64, 65, 66, 67, 68, 69, 70, 71, 72, 73, 74, 75, 76, 77, 78, 27, 34, 35, 97, 98, 99, 100, 101, 102, 103, 104] (by decide +kernel) (by decide +kernel)
set_option maxRecDepth 20000 in
theorem gX3_march_X1_go_n128 : GoodIn wsX3_march (wsX1_go) := ggX3_march_X1_go
set_option maxRecDepth 20000 in
theorem ggX3_march_X3_copy : GoodIn wsX3_march wsX3_copy := goodIn_r _ [29, 30, 31, 6, 32, 33, 34, 35] (by decide +kernel) (by decide +kernel)
set_option maxRecDepth 20000 in
theorem gX3_march_X3_copy : GoodIn wsX3_march (va_wsS RX3 133 yX3_copy wsX3_copy) := goodIn_app (goodIn_of _ (by decide +kernel)) ggX3_march_X3_copy
theorem dX3_march_0 : decode cX3_march 0 = .ok (.aload_n 0, 1) := by decide +kernel
theorem dX3_march_1 : decode cX3_march 1 = .ok (.iload_n 1, 1) := by decide +kernel
theorem dX3_march_2 : decode cX3_march 2 = .ok (.iload_n 2, 1) := by decide +kernel
theorem dX3_march_3 : decode cX3_march 3 = .ok (.iload_n 3, 1) := by decide +kernel
theorem dX3_march_4 : decode cX3_march 4 = .ok (.invokevirtual 117, 3) := by decide +kernel
theorem dX3_march_7 : decode cX3_march 7 = .ok (.ifCond .eq 6, 3) := by decide +kernel
theorem dX3_march_10 : decode cX3_march 10 = .ok (.bipush (-102), 2) := by decide +kernel
theorem dX3_march_12 : decode cX3_march 12 = .ok (.ireturn, 1) := by decide +kernel
theorem dX3_march_13 : decode cX3_march 13 = .ok (.aload_n 0, 1) := by decide +kernel
theorem dX3_march_14 : decode cX3_march 14 = .ok (.iload_n 1, 1) := by decide +kernel
theorem dX3_march_15 : decode cX3_march 15 = .ok (.invokevirtual 121, 3) := by decide +kernel
theorem dX3_march_18 : decode cX3_march 18 = .ok (.ifCond .eq 6, 3) := by decide +kernel
theorem dX3_march_21 : decode cX3_march 21 = .ok (.bipush (-103), 2) := by decide +kernel
theorem dX3_march_23 : decode cX3_march 23 = .ok (.ireturn, 1) := by decide +kernel
theorem dX3_march_24 : decode cX3_march 24 = .ok (.aload_n 0, 1) := by decide +kernel
theorem dX3_march_25 : decode cX3_march 25 = .ok (.getfield 19, 3) := by decide +kernel
theorem dX3_march_28 : decode cX3_march 28 = .ok (.aload_n 0, 1) := by decide +kernel
theorem dX3_march_29 : decode cX3_march 29 = .ok (.getfield 26, 3) := by decide +kernel
theorem dX3_march_32 : decode cX3_march 32 = .ok (.getfield 77, 3) := by decide +kernel
theorem dX3_march_35 : decode cX3_march 35 = .ok (.invokevirtual 124, 3) := by decide +kernel
theorem dX3_march_38 : decode cX3_march 38 = .ok (.aload_n 0, 1) := by decide +kernel
theorem dX3_march_39 : decode cX3_march 39 = .ok (.getfield 19, 3) := by decide +kernel
theorem dX3_march_42 : decode cX3_march 42 = .ok (.iload_n 1, 1) := by decide +kernel
theorem dX3_march_43 : decode cX3_march 43 = .ok (.iload_n 2, 1) := by decide +kernel
theorem dX3_march_44 : decode cX3_march 44 = .ok (.iload_n 3, 1) := by decide +kernel
theorem dX3_march_45 : decode cX3_march 45 = .ok (.invokevirtual 128, 3) := by decide +kernel
theorem dX3_march_48 : decode cX3_march 48 = .ok (.pop, 1) := by decide +kernel
theorem dX3_march_49 : decode cX3_march 49 = .ok (.aload_n 0, 1) := by decide +kernel
theorem dX3_march_50 : decode cX3_march 50 = .ok (.getfield 26, 3) := by decide +kernel
theorem dX3_march_53 : decode cX3_march 53 = .ok (.aload_n 0, 1) := by decide +kernel
theorem dX3_march_54 : decode cX3_march 54 = .ok (.getfield 26, 3) := by decide +kernel
theorem dX3_march_57 : decode cX3_march 57 = .ok (.getfield 100, 3) := by decide +kernel
theorem dX3_march_60 : decode cX3_march 60 = .ok (.iload_n 1, 1) := by decide +kernel
theorem dX3_march_61 : decode cX3_march 61 = .ok (.iconst (-1), 1) := by decide +kernel
theorem dX3_march_62 : decode cX3_march 62 = .ok (.ixor, 1) := by decide +kernel
theorem dX3_march_63 : decode cX3_march 63 = .ok (.iand, 1) := by decide +kernel
theorem dX3_march_64 : decode cX3_march 64 = .ok (.aload_n 0, 1) := by decide +kernel
theorem dX3_march_65 : decode cX3_march 65 = .ok (.getfield 19, 3) := by decide +kernel
theorem dX3_march_68 : decode cX3_march 68 = .ok (.getfield 131, 3) := by decide +kernel
theorem dX3_march_71 : decode cX3_march 71 = .ok (.ior, 1) := by decide +kernel
theorem dX3_march_72 : decode cX3_march 72 = .ok (.putfield 100, 3) := by decide +kernel
theorem dX3_march_75 : decode cX3_march 75 = .ok (.aload_n 0, 1) := by decide +kernel
theorem dX3_march_76 : decode cX3_march 76 = .ok (.getfield 19, 3) := by decide +kernel
theorem dX3_march_79 : decode cX3_march 79 = .ok (.getfield 132, 3) := by decide +kernel
theorem dX3_march_82 : decode cX3_march 82 = .ok (.aload_n 0, 1) := by decide +kernel
theorem dX3_march_83 : decode cX3_march 83 = .ok (.getfield 26, 3) := by decide +kernel
theorem dX3_march_86 : decode cX3_march 86 = .ok (.getfield 77, 3) := by decide +kernel
theorem dX3_march_89 : decode cX3_march 89 = .ok (.invokestatic 133, 3) := by decide +kernel
theorem dX3_march_92 : decode cX3_march 92 = .ok (.aload_n 0, 1) := by decide +kernel
theorem dX3_march_93 : decode cX3_march 93 = .ok (.getfield 26, 3) := by decide +kernel
theorem dX3_march_96 : decode cX3_march 96 = .ok (.dup, 1) := by decide +kernel
theorem dX3_march_97 : decode cX3_march 97 = .ok (.getfield 137, 3) := by decide +kernel
theorem dX3_march_100 : decode cX3_march 100 = .ok (.iconst 1, 1) := by decide +kernel
theorem dX3_march_101 : decode cX3_march 101 = .ok (.iadd, 1) := by decide +kernel
theorem dX3_march_102 : decode cX3_march 102 = .ok (.putfield 137, 3) := by decide +kernel
theorem dX3_march_105 : decode cX3_march 105 = .ok (.aload_n 0, 1) := by decide +kernel
theorem dX3_march_106 : decode cX3_march 106 = .ok (.getfield 19, 3) := by decide +kernel
theorem dX3_march_109 : decode cX3_march 109 = .ok (.getfield 131, 3) := by decide +kernel
theorem dX3_march_112 : decode cX3_march 112 = .ok (.ifCond .eq 16, 3) := by decide +kernel
theorem dX3_march_115 : decode cX3_march 115 = .ok (.aload_n 0, 1) := by decide +kernel
theorem dX3_march_116 : decode cX3_march 116 = .ok (.getfield 26, 3) := by decide +kernel
theorem dX3_march_119 : decode cX3_march 119 = .ok (.dup, 1) := by decide +kernel
theorem dX3_march_120 : decode cX3_march 120 = .ok (.getfield 140, 3) := by decide +kernel
theorem dX3_march_123 : decode cX3_march 123 = .ok (.iconst 1, 1) := by decide +kernel
theorem dX3_march_124 : decode cX3_march 124 = .ok (.iadd, 1) := by decide +kernel
theorem dX3_march_125 : decode cX3_march 125 = .ok (.putfield 140, 3) := by decide +kernel
theorem dX3_march_128 : decode cX3_march 128 = .ok (.aload_n 0, 1) := by decide +kernel
theorem dX3_march_129 : decode cX3_march 129 = .ok (.getfield 19, 3) := by decide +kernel
theorem dX3_march_132 : decode cX3_march 132 = .ok (.getfield 131, 3) := by decide +kernel
theorem dX3_march_135 : decode cX3_march 135 = .ok (.ireturn, 1) := by decide +kernel
set_option maxRecDepth 20000 in
theorem ggX3_would_X3_isNoMarch : GoodIn wsX3_would wsX3_isNoMarch := goodIn_r _ [7, 8, 9, 10, 6, 11, 1, 12, 13, 14, 15, 16, 17, 18, 19, 82, 83, 84, 85, 86, 87, 88, 89, 99, 100, 101, 102, 103, 104, 105, 106] (by decide +kernel) (by decide +kernel)
set_option maxRecDepth 20000 in
theorem gX3_would_X3_isNoMarch : GoodIn wsX3_would (wsV RX3 117 RX3 yX3_isNoMarch wsX3_isNoMarch) := goodIn_app (goodIn_of _ (by decide +kernel)) ggX3_would_X3_isNoMarch
set_option maxRecDepth 20000 in
theorem ggX3_would_X3_anyIsDead : GoodIn wsX3_would wsX3_anyIsDead := goodIn_r _ [23, 2, 82, 83, 84, 85, 86, 87, 88, 89, 90, 91, 92, 93, 94, 95, 96, 97, 98] (by decide +kernel) (by decide +kernel)
set_option maxRecDepth 20000 in
theorem gX3_would_X3_anyIsDead : GoodIn wsX3_would (wsV RX3 121 RX3 yX3_anyIsDead wsX3_anyIsDead) := goodIn_app (goodIn_of _ (by decide +kernel)) ggX3_would_X3_anyIsDead
set_option maxRecDepth 20000 in
theorem ggX3_would_X1_setCairns : GoodIn wsX3_would wsX1_setCairns := goodIn_r _ [26, 27, 28, 6, 29, 30, 31, 32, 33, 34, 35, 99, 100, 101, 102, 103, 104, 105, 106] (by decide +kernel) (by decide +kernel)
set_option maxRecDepth 20000 in
theorem gX3_would_X1_setCairns_n124 : GoodIn wsX3_would (wsX1_setCairns) := ggX3_would_X1_setCairns
set_option maxRecDepth 20000 in
theorem ggX3_would_X1_go : GoodIn wsX3_would wsX1_go := goodIn_r _ [38, 39, 40, 41, 42, 43, 44, 13, 45, 46, 47, 48, 49, 50, 51, 52, 53, 54, 55, 16, 56, 31, 6, 32, 57, 58, 59, 60, 61, 62, 63, 64, 65, 66, 67, 68, 69, 70, 71, 72, 73, 74, 75, 76, 77, 78, 27, 34, 35, 99, 100, 101, 102, 103, 104, 105, 106] (by decide +kernel) (by decide +kernel)
set_option maxRecDepth 20000 in
theorem gX3_would_X1_go_n128 : GoodIn wsX3_would (wsX1_go) := ggX3_would_X1_go
set_option maxRecDepth 20000 in
theorem ggX3_would_X3_sum : GoodIn wsX3_would wsX3_sum := goodIn_r _ [81] (by decide +kernel) (by decide +kernel)
set_option maxRecDepth 20000 in
theorem gX3_would_X3_sum : GoodIn wsX3_would (va_wsS RX3 146 yX3_sum wsX3_sum) := goodIn_app (goodIn_of _ (by decide +kernel)) ggX3_would_X3_sum
theorem dX3_would_0 : decode cX3_would 0 = .ok (.aload_n 0, 1) := by decide +kernel
theorem dX3_would_1 : decode cX3_would 1 = .ok (.iload_n 1, 1) := by decide +kernel
theorem dX3_would_2 : decode cX3_would 2 = .ok (.iload_n 2, 1) := by decide +kernel
theorem dX3_would_3 : decode cX3_would 3 = .ok (.iload_n 3, 1) := by decide +kernel
theorem dX3_would_4 : decode cX3_would 4 = .ok (.invokevirtual 117, 3) := by decide +kernel
theorem dX3_would_7 : decode cX3_would 7 = .ok (.ifCond .ne 14, 3) := by decide +kernel
theorem dX3_would_10 : decode cX3_would 10 = .ok (.iload 4, 2) := by decide +kernel
theorem dX3_would_12 : decode cX3_would 12 = .ok (.ifCond .lt 9, 3) := by decide +kernel
theorem dX3_would_15 : decode cX3_would 15 = .ok (.iload 4, 2) := by decide +kernel
theorem dX3_would_17 : decode cX3_would 17 = .ok (.iconst 3, 1) := by decide +kernel
theorem dX3_would_18 : decode cX3_would 18 = .ok (.if_icmp .le 6, 3) := by decide +kernel
theorem dX3_would_21 : decode cX3_would 21 = .ok (.bipush (-102), 2) := by decide +kernel
theorem dX3_would_23 : decode cX3_would 23 = .ok (.ireturn, 1) := by decide +kernel
theorem dX3_would_24 : decode cX3_would 24 = .ok (.aload_n 0, 1) := by decide +kernel
theorem dX3_would_25 : decode cX3_would 25 = .ok (.iload_n 1, 1) := by decide +kernel
theorem dX3_would_26 : decode cX3_would 26 = .ok (.invokevirtual 121, 3) := by decide +kernel
theorem dX3_would_29 : decode cX3_would 29 = .ok (.ifCond .eq 6, 3) := by decide +kernel
theorem dX3_would_32 : decode cX3_would 32 = .ok (.bipush (-103), 2) := by decide +kernel
theorem dX3_would_34 : decode cX3_would 34 = .ok (.ireturn, 1) := by decide +kernel
theorem dX3_would_35 : decode cX3_would 35 = .ok (.aload_n 0, 1) := by decide +kernel
theorem dX3_would_36 : decode cX3_would 36 = .ok (.getfield 19, 3) := by decide +kernel
theorem dX3_would_39 : decode cX3_would 39 = .ok (.aload_n 0, 1) := by decide +kernel
theorem dX3_would_40 : decode cX3_would 40 = .ok (.getfield 26, 3) := by decide +kernel
theorem dX3_would_43 : decode cX3_would 43 = .ok (.getfield 77, 3) := by decide +kernel
theorem dX3_would_46 : decode cX3_would 46 = .ok (.invokevirtual 124, 3) := by decide +kernel
theorem dX3_would_49 : decode cX3_would 49 = .ok (.aload_n 0, 1) := by decide +kernel
theorem dX3_would_50 : decode cX3_would 50 = .ok (.getfield 19, 3) := by decide +kernel
theorem dX3_would_53 : decode cX3_would 53 = .ok (.iload_n 1, 1) := by decide +kernel
theorem dX3_would_54 : decode cX3_would 54 = .ok (.iload_n 2, 1) := by decide +kernel
theorem dX3_would_55 : decode cX3_would 55 = .ok (.iload_n 3, 1) := by decide +kernel
theorem dX3_would_56 : decode cX3_would 56 = .ok (.invokevirtual 128, 3) := by decide +kernel
theorem dX3_would_59 : decode cX3_would 59 = .ok (.pop, 1) := by decide +kernel
theorem dX3_would_60 : decode cX3_would 60 = .ok (.iload 4, 2) := by decide +kernel
theorem dX3_would_62 : decode cX3_would 62 = .ok (.tableswitch 53 0 2 #[26, 34, 42], 26) := by decide +kernel
theorem dX3_would_88 : decode cX3_would 88 = .ok (.aload_n 0, 1) := by decide +kernel
theorem dX3_would_89 : decode cX3_would 89 = .ok (.getfield 19, 3) := by decide +kernel
theorem dX3_would_92 : decode cX3_would 92 = .ok (.getfield 131, 3) := by decide +kernel
theorem dX3_would_95 : decode cX3_would 95 = .ok (.ireturn, 1) := by decide +kernel
theorem dX3_would_96 : decode cX3_would 96 = .ok (.aload_n 0, 1) := by decide +kernel
theorem dX3_would_97 : decode cX3_would 97 = .ok (.getfield 19, 3) := by decide +kernel
theorem dX3_would_100 : decode cX3_would 100 = .ok (.getfield 143, 3) := by decide +kernel
theorem dX3_would_103 : decode cX3_would 103 = .ok (.ireturn, 1) := by decide +kernel
theorem dX3_would_104 : decode cX3_would 104 = .ok (.aload_n 0, 1) := by decide +kernel
theorem dX3_would_105 : decode cX3_would 105 = .ok (.getfield 19, 3) := by decide +kernel
theorem dX3_would_108 : decode cX3_would 108 = .ok (.getfield 132, 3) := by decide +kernel
theorem dX3_would_111 : decode cX3_would 111 = .ok (.invokestatic 146, 3) := by decide +kernel
theorem dX3_would_114 : decode cX3_would 114 = .ok (.ireturn, 1) := by decide +kernel
theorem dX3_would_115 : decode cX3_would 115 = .ok (.aload_n 0, 1) := by decide +kernel
theorem dX3_would_116 : decode cX3_would 116 = .ok (.getfield 19, 3) := by decide +kernel
theorem dX3_would_119 : decode cX3_would 119 = .ok (.getfield 150, 3) := by decide +kernel
theorem dX3_would_122 : decode cX3_would 122 = .ok (.ireturn, 1) := by decide +kernel
set_option maxRecDepth 20000 in
theorem ggX3_need_X3_isNobody : GoodIn wsX3_need wsX3_isNobody := goodIn_r _ [6, 7, 8, 9, 10, 11, 12, 85, 86, 87, 88, 89, 90, 91, 92, 102, 103, 104, 105, 106, 107, 108, 109] (by decide +kernel) (by decide +kernel)
set_option maxRecDepth 20000 in
theorem gX3_need_X3_isNobody : GoodIn wsX3_need (wsV RX3 153 RX3 yX3_isNobody wsX3_isNobody) := goodIn_app (goodIn_of _ (by decide +kernel)) ggX3_need_X3_isNobody
set_option maxRecDepth 20000 in
theorem ggX3_need_X3_isNoStage : GoodIn wsX3_need wsX3_isNoStage := goodIn_r _ [15] (by decide +kernel) (by decide +kernel)
set_option maxRecDepth 20000 in
theorem gX3_need_X3_isNoStage : GoodIn wsX3_need (va_wsS RX3 156 yX3_isNoStage wsX3_isNoStage) := goodIn_app (goodIn_of _ (by decide +kernel)) ggX3_need_X3_isNoStage
set_option maxRecDepth 20000 in
theorem ggX3_need_X3_anyIsDead : GoodIn wsX3_need wsX3_anyIsDead := goodIn_r _ [19, 1, 85, 86, 87, 88, 89, 90, 91, 92, 93, 94, 95, 96, 97, 98, 99, 100, 101] (by decide +kernel) (by decide +kernel)
set_option maxRecDepth 20000 in
theorem gX3_need_X3_anyIsDead : GoodIn wsX3_need (wsV RX3 121 RX3 yX3_anyIsDead wsX3_anyIsDead) := goodIn_app (goodIn_of _ (by decide +kernel)) ggX3_need_X3_anyIsDead
set_option maxRecDepth 20000 in
theorem ggX3_need_X3_leastFood : GoodIn wsX3_need wsX3_leastFood := goodIn_r _ [23, 7, 24, 25, 26, 5, 27, 28, 29, 30, 31, 32, 33, 9, 34, 35, 12, 36, 37, 38, 39, 40, 41, 42, 43, 44, 45, 46, 47, 48, 49, 50, 51, 52, 53, 54, 55, 56, 57, 58, 59, 60, 61, 62, 63, 64, 65, 66, 67, 68, 69, 70, 71, 72, 73, 74, 75, 76, 77, 78, 79, 80, 81, 82, 83, 84, 85, 86, 87, 88, 89, 90, 91, 92, 102, 103, 104, 105, 106, 107, 108, 109] (by decide +kernel) (by decide +kernel)
set_option maxRecDepth 20000 in
theorem gX3_need_X3_leastFood : GoodIn wsX3_need (wsV RX3 159 RX3 yX3_leastFood wsX3_leastFood) := goodIn_app (goodIn_of _ (by decide +kernel)) ggX3_need_X3_leastFood
theorem dX3_need_0 : decode cX3_need 0 = .ok (.aload_n 0, 1) := by decide +kernel
theorem dX3_need_1 : decode cX3_need 1 = .ok (.iload_n 1, 1) := by decide +kernel
theorem dX3_need_2 : decode cX3_need 2 = .ok (.invokevirtual 153, 3) := by decide +kernel
theorem dX3_need_5 : decode cX3_need 5 = .ok (.ifCond .ne 10, 3) := by decide +kernel
theorem dX3_need_8 : decode cX3_need 8 = .ok (.iload_n 2, 1) := by decide +kernel
theorem dX3_need_9 : decode cX3_need 9 = .ok (.invokestatic 156, 3) := by decide +kernel
theorem dX3_need_12 : decode cX3_need 12 = .ok (.ifCond .eq 6, 3) := by decide +kernel
theorem dX3_need_15 : decode cX3_need 15 = .ok (.bipush (-102), 2) := by decide +kernel
theorem dX3_need_17 : decode cX3_need 17 = .ok (.ireturn, 1) := by decide +kernel
theorem dX3_need_18 : decode cX3_need 18 = .ok (.aload_n 0, 1) := by decide +kernel
theorem dX3_need_19 : decode cX3_need 19 = .ok (.iload_n 1, 1) := by decide +kernel
theorem dX3_need_20 : decode cX3_need 20 = .ok (.invokevirtual 121, 3) := by decide +kernel
theorem dX3_need_23 : decode cX3_need 23 = .ok (.ifCond .eq 8, 3) := by decide +kernel
theorem dX3_need_26 : decode cX3_need 26 = .ok (.bipush (-103), 2) := by decide +kernel
theorem dX3_need_28 : decode cX3_need 28 = .ok (.goto 16, 3) := by decide +kernel
theorem dX3_need_31 : decode cX3_need 31 = .ok (.aload_n 0, 1) := by decide +kernel
theorem dX3_need_32 : decode cX3_need 32 = .ok (.iload_n 1, 1) := by decide +kernel
theorem dX3_need_33 : decode cX3_need 33 = .ok (.iload_n 2, 1) := by decide +kernel
theorem dX3_need_34 : decode cX3_need 34 = .ok (.aload_n 0, 1) := by decide +kernel
theorem dX3_need_35 : decode cX3_need 35 = .ok (.getfield 26, 3) := by decide +kernel
theorem dX3_need_38 : decode cX3_need 38 = .ok (.getfield 77, 3) := by decide +kernel
theorem dX3_need_41 : decode cX3_need 41 = .ok (.invokevirtual 159, 3) := by decide +kernel
theorem dX3_need_44 : decode cX3_need 44 = .ok (.ireturn, 1) := by decide +kernel
set_option maxRecDepth 20000 in
theorem ggX3_far_X3_isNobody : GoodIn wsX3_far wsX3_isNobody := goodIn_r _ [6, 7, 8, 9, 10, 11, 12, 86, 87, 88, 89, 90, 91, 92, 93, 103, 104, 105, 106, 107, 108, 109, 110] (by decide +kernel) (by decide +kernel)
set_option maxRecDepth 20000 in
theorem gX3_far_X3_isNobody : GoodIn wsX3_far (wsV RX3 153 RX3 yX3_isNobody wsX3_isNobody) := goodIn_app (goodIn_of _ (by decide +kernel)) ggX3_far_X3_isNobody
set_option maxRecDepth 20000 in
theorem ggX3_far_X3_anyIsDead : GoodIn wsX3_far wsX3_anyIsDead := goodIn_r _ [16, 1, 86, 87, 88, 89, 90, 91, 92, 93, 94, 95, 96, 97, 98, 99, 100, 101, 102] (by decide +kernel) (by decide +kernel)
set_option maxRecDepth 20000 in
theorem gX3_far_X3_anyIsDead : GoodIn wsX3_far (wsV RX3 121 RX3 yX3_anyIsDead wsX3_anyIsDead) := goodIn_app (goodIn_of _ (by decide +kernel)) ggX3_far_X3_anyIsDead
set_option maxRecDepth 20000 in
theorem ggX3_far_X3_farthest : GoodIn wsX3_far wsX3_farthest := goodIn_r _ [20, 21, 22, 23, 5, 24, 7, 25, 26, 27, 28, 29, 30, 31, 32, 33, 34, 9, 35, 36, 12, 37, 38, 39, 40, 41, 42, 43, 44, 45, 46, 47, 48, 49, 50, 51, 52, 53, 54, 55, 56, 57, 58, 59, 60, 61, 62, 63, 64, 65, 66, 67, 68, 69, 70, 71, 72, 73, 74, 75, 76, 77, 78, 79, 80, 81, 82, 83, 84, 85, 86, 87, 88, 89, 90, 91, 92, 93, 103, 104, 105, 106, 107, 108, 109, 110] (by decide +kernel) (by decide +kernel)
set_option maxRecDepth 20000 in
theorem gX3_far_X3_farthest : GoodIn wsX3_far (wsV RX3 163 RX3 yX3_farthest wsX3_farthest) := goodIn_app (goodIn_of _ (by decide +kernel)) ggX3_far_X3_farthest
theorem dX3_far_0 : decode cX3_far 0 = .ok (.aload_n 0, 1) := by decide +kernel
theorem dX3_far_1 : decode cX3_far 1 = .ok (.iload_n 1, 1) := by decide +kernel
theorem dX3_far_2 : decode cX3_far 2 = .ok (.invokevirtual 153, 3) := by decide +kernel
theorem dX3_far_5 : decode cX3_far 5 = .ok (.ifCond .eq 6, 3) := by decide +kernel
theorem dX3_far_8 : decode cX3_far 8 = .ok (.bipush (-102), 2) := by decide +kernel
theorem dX3_far_10 : decode cX3_far 10 = .ok (.ireturn, 1) := by decide +kernel
theorem dX3_far_11 : decode cX3_far 11 = .ok (.aload_n 0, 1) := by decide +kernel
theorem dX3_far_12 : decode cX3_far 12 = .ok (.iload_n 1, 1) := by decide +kernel
theorem dX3_far_13 : decode cX3_far 13 = .ok (.invokevirtual 121, 3) := by decide +kernel
theorem dX3_far_16 : decode cX3_far 16 = .ok (.ifCond .eq 8, 3) := by decide +kernel
theorem dX3_far_19 : decode cX3_far 19 = .ok (.bipush (-103), 2) := by decide +kernel
theorem dX3_far_21 : decode cX3_far 21 = .ok (.goto 15, 3) := by decide +kernel
theorem dX3_far_24 : decode cX3_far 24 = .ok (.aload_n 0, 1) := by decide +kernel
theorem dX3_far_25 : decode cX3_far 25 = .ok (.iload_n 1, 1) := by decide +kernel
theorem dX3_far_26 : decode cX3_far 26 = .ok (.aload_n 0, 1) := by decide +kernel
theorem dX3_far_27 : decode cX3_far 27 = .ok (.getfield 26, 3) := by decide +kernel
theorem dX3_far_30 : decode cX3_far 30 = .ok (.getfield 77, 3) := by decide +kernel
theorem dX3_far_33 : decode cX3_far 33 = .ok (.invokevirtual 163, 3) := by decide +kernel
theorem dX3_far_36 : decode cX3_far 36 = .ok (.ireturn, 1) := by decide +kernel
set_option maxRecDepth 20000 in
theorem ggX3_team_X3_isNoStage : GoodIn wsX3_team wsX3_isNoStage := goodIn_r _ [6] (by decide +kernel) (by decide +kernel)
set_option maxRecDepth 20000 in
theorem gX3_team_X3_isNoStage : GoodIn wsX3_team (va_wsS RX3 156 yX3_isNoStage wsX3_isNoStage) := goodIn_app (goodIn_of _ (by decide +kernel)) ggX3_team_X3_isNoStage
set_option maxRecDepth 20000 in
theorem ggX3_team_X3_fewest : GoodIn wsX3_team wsX3_fewest := goodIn_r _ [10, 1, 11, 12, 13, 14, 15, 16, 17, 18, 19, 5, 20, 21, 22, 23, 24, 25, 26, 27, 28, 29, 30, 31, 32, 33, 34, 35, 36, 37, 38, 39, 40, 41, 42, 43, 44, 45, 46, 47, 48, 49, 50, 51, 52, 53, 54, 55, 56, 57, 58, 59, 60, 61, 62, 63, 64, 65, 66, 67, 68, 69, 70, 71, 72, 73, 74, 75, 76, 77, 78, 79, 80, 81, 82, 83, 84, 85, 86, 87, 88, 89, 90, 91, 92, 93, 94, 95, 96, 97, 98, 99, 100, 109, 110, 111, 112, 113, 114, 115, 116, 117, 101, 102, 103, 104, 105, 106, 107, 108] (by decide +kernel) (by decide +kernel)
set_option maxRecDepth 20000 in
theorem gX3_team_X3_fewest : GoodIn wsX3_team (wsV RX3 170 RX3 yX3_fewest wsX3_fewest) := goodIn_app (goodIn_of _ (by decide +kernel)) ggX3_team_X3_fewest
theorem dX3_team_0 : decode cX3_team 0 = .ok (.iload_n 1, 1) := by decide +kernel
theorem dX3_team_1 : decode cX3_team 1 = .ok (.invokestatic 156, 3) := by decide +kernel
theorem dX3_team_4 : decode cX3_team 4 = .ok (.ifCond .eq 6, 3) := by decide +kernel
theorem dX3_team_7 : decode cX3_team 7 = .ok (.bipush (-102), 2) := by decide +kernel
theorem dX3_team_9 : decode cX3_team 9 = .ok (.ireturn, 1) := by decide +kernel
theorem dX3_team_10 : decode cX3_team 10 = .ok (.aload_n 0, 1) := by decide +kernel
theorem dX3_team_11 : decode cX3_team 11 = .ok (.getfield 19, 3) := by decide +kernel
theorem dX3_team_14 : decode cX3_team 14 = .ok (.getfield 53, 3) := by decide +kernel
theorem dX3_team_17 : decode cX3_team 17 = .ok (.ifCond .eq 12, 3) := by decide +kernel
theorem dX3_team_20 : decode cX3_team 20 = .ok (.aload_n 0, 1) := by decide +kernel
theorem dX3_team_21 : decode cX3_team 21 = .ok (.getfield 167, 3) := by decide +kernel
theorem dX3_team_24 : decode cX3_team 24 = .ok (.bipush 20, 2) := by decide +kernel
theorem dX3_team_26 : decode cX3_team 26 = .ok (.if_icmp .lt 6, 3) := by decide +kernel
theorem dX3_team_29 : decode cX3_team 29 = .ok (.bipush (-103), 2) := by decide +kernel
theorem dX3_team_31 : decode cX3_team 31 = .ok (.ireturn, 1) := by decide +kernel
theorem dX3_team_32 : decode cX3_team 32 = .ok (.aload_n 0, 1) := by decide +kernel
theorem dX3_team_33 : decode cX3_team 33 = .ok (.dup, 1) := by decide +kernel
theorem dX3_team_34 : decode cX3_team 34 = .ok (.getfield 167, 3) := by decide +kernel
theorem dX3_team_37 : decode cX3_team 37 = .ok (.iconst 1, 1) := by decide +kernel
theorem dX3_team_38 : decode cX3_team 38 = .ok (.iadd, 1) := by decide +kernel
theorem dX3_team_39 : decode cX3_team 39 = .ok (.putfield 167, 3) := by decide +kernel
theorem dX3_team_42 : decode cX3_team 42 = .ok (.aload_n 0, 1) := by decide +kernel
theorem dX3_team_43 : decode cX3_team 43 = .ok (.iload_n 1, 1) := by decide +kernel
theorem dX3_team_44 : decode cX3_team 44 = .ok (.invokevirtual 170, 3) := by decide +kernel
theorem dX3_team_47 : decode cX3_team 47 = .ok (.ireturn, 1) := by decide +kernel
set_option maxRecDepth 20000 in
theorem ggX3_hear_X3_isNoMarch : GoodIn wsX3_hear wsX3_isNoMarch := goodIn_r _ [6, 7, 8, 9, 5, 10, 11, 12, 13, 14, 15, 16, 17, 18, 19, 31, 32, 33, 34, 35, 36, 37, 38, 48, 49, 50, 51, 52, 53, 54, 55] (by decide +kernel) (by decide +kernel)
set_option maxRecDepth 20000 in
theorem gX3_hear_X3_isNoMarch : GoodIn wsX3_hear (wsV RX3 117 RX3 yX3_isNoMarch wsX3_isNoMarch) := goodIn_app (goodIn_of _ (by decide +kernel)) ggX3_hear_X3_isNoMarch
set_option maxRecDepth 20000 in
theorem ggX3_hear_X2_note : GoodIn wsX3_hear wsX2_note := goodIn_r _ [23, 24, 25, 26, 27, 28, 29, 5, 30, 39, 40, 41, 42, 43, 44, 45, 46, 47] (by decide +kernel) (by decide +kernel)
set_option maxRecDepth 20000 in
theorem gX3_hear_X2_note_n176 : GoodIn wsX3_hear (wsX2_note) := ggX3_hear_X2_note
theorem dX3_hear_0 : decode cX3_hear 0 = .ok (.aload_n 0, 1) := by decide +kernel
theorem dX3_hear_1 : decode cX3_hear 1 = .ok (.iload_n 1, 1) := by decide +kernel
theorem dX3_hear_2 : decode cX3_hear 2 = .ok (.iload_n 2, 1) := by decide +kernel
theorem dX3_hear_3 : decode cX3_hear 3 = .ok (.iload_n 3, 1) := by decide +kernel
theorem dX3_hear_4 : decode cX3_hear 4 = .ok (.invokevirtual 117, 3) := by decide +kernel
theorem dX3_hear_7 : decode cX3_hear 7 = .ok (.ifCond .eq 6, 3) := by decide +kernel
theorem dX3_hear_10 : decode cX3_hear 10 = .ok (.bipush (-102), 2) := by decide +kernel
theorem dX3_hear_12 : decode cX3_hear 12 = .ok (.ireturn, 1) := by decide +kernel
theorem dX3_hear_13 : decode cX3_hear 13 = .ok (.aload_n 0, 1) := by decide +kernel
theorem dX3_hear_14 : decode cX3_hear 14 = .ok (.getfield 26, 3) := by decide +kernel
theorem dX3_hear_17 : decode cX3_hear 17 = .ok (.getfield 173, 3) := by decide +kernel
theorem dX3_hear_20 : decode cX3_hear 20 = .ok (.bipush 6, 2) := by decide +kernel
theorem dX3_hear_22 : decode cX3_hear 22 = .ok (.if_icmp .lt 6, 3) := by decide +kernel
theorem dX3_hear_25 : decode cX3_hear 25 = .ok (.bipush (-104), 2) := by decide +kernel
theorem dX3_hear_27 : decode cX3_hear 27 = .ok (.ireturn, 1) := by decide +kernel
theorem dX3_hear_28 : decode cX3_hear 28 = .ok (.aload_n 0, 1) := by decide +kernel
theorem dX3_hear_29 : decode cX3_hear 29 = .ok (.getfield 26, 3) := by decide +kernel
theorem dX3_hear_32 : decode cX3_hear 32 = .ok (.iload_n 1, 1) := by decide +kernel
theorem dX3_hear_33 : decode cX3_hear 33 = .ok (.iload_n 2, 1) := by decide +kernel
theorem dX3_hear_34 : decode cX3_hear 34 = .ok (.iload_n 3, 1) := by decide +kernel
theorem dX3_hear_35 : decode cX3_hear 35 = .ok (.iload 4, 2) := by decide +kernel
theorem dX3_hear_37 : decode cX3_hear 37 = .ok (.invokevirtual 176, 3) := by decide +kernel
theorem dX3_hear_40 : decode cX3_hear 40 = .ok (.aload_n 0, 1) := by decide +kernel
theorem dX3_hear_41 : decode cX3_hear 41 = .ok (.getfield 26, 3) := by decide +kernel
theorem dX3_hear_44 : decode cX3_hear 44 = .ok (.getfield 173, 3) := by decide +kernel
theorem dX3_hear_47 : decode cX3_hear 47 = .ok (.ireturn, 1) := by decide +kernel
theorem dX3_forget_0 : decode cX3_forget 0 = .ok (.aload_n 0, 1) := by decide +kernel
theorem dX3_forget_1 : decode cX3_forget 1 = .ok (.getfield 26, 3) := by decide +kernel
theorem dX3_forget_4 : decode cX3_forget 4 = .ok (.getfield 173, 3) := by decide +kernel
theorem dX3_forget_7 : decode cX3_forget 7 = .ok (.istore_n 1, 1) := by decide +kernel
theorem dX3_forget_8 : decode cX3_forget 8 = .ok (.aload_n 0, 1) := by decide +kernel
theorem dX3_forget_9 : decode cX3_forget 9 = .ok (.getfield 26, 3) := by decide +kernel
theorem dX3_forget_12 : decode cX3_forget 12 = .ok (.iconst 0, 1) := by decide +kernel
theorem dX3_forget_13 : decode cX3_forget 13 = .ok (.putfield 173, 3) := by decide +kernel
theorem dX3_forget_16 : decode cX3_forget 16 = .ok (.iload_n 1, 1) := by decide +kernel
theorem dX3_forget_17 : decode cX3_forget 17 = .ok (.ireturn, 1) := by decide +kernel
set_option maxRecDepth 20000 in
theorem ggX3_winters_X3_letCreep : GoodIn wsX3_winters wsX3_letCreep := goodIn_r _ [8, 3, 2, 9, 10, 11, 12, 13, 14, 7, 15, 16, 17, 18, 19, 20, 21, 22, 23, 24, 25, 26, 92, 93, 94, 95, 96, 97, 98, 99, 108, 109, 110, 111, 112, 113, 114, 115, 116] (by decide +kernel) (by decide +kernel)
set_option maxRecDepth 20000 in
theorem gX3_winters_X3_letCreep : GoodIn wsX3_winters (wsV RX3 180 RX3 yX3_letCreep wsX3_letCreep) := goodIn_app (goodIn_of _ (by decide +kernel)) ggX3_winters_X3_letCreep
set_option maxRecDepth 20000 in
theorem ggX3_winters_X3_sum : GoodIn wsX3_winters wsX3_sum := goodIn_r _ [29] (by decide +kernel) (by decide +kernel)
set_option maxRecDepth 20000 in
theorem gX3_winters_X3_sum : GoodIn wsX3_winters (va_wsS RX3 146 yX3_sum wsX3_sum) := goodIn_app (goodIn_of _ (by decide +kernel)) ggX3_winters_X3_sum
set_option maxRecDepth 20000 in
theorem ggX3_winters_X3_farthest : GoodIn wsX3_winters wsX3_farthest := goodIn_r _ [33, 34, 35, 36, 7, 37, 1, 38, 39, 40, 41, 42, 43, 44, 11, 45, 46, 47, 48, 49, 50, 51, 17, 18, 52, 53, 54, 55, 14, 15, 16, 19, 20, 21, 56, 57, 58, 59, 60, 61, 62, 63, 64, 65, 66, 67, 68, 69, 70, 71, 72, 73, 74, 75, 76, 77, 78, 79, 80, 81, 82, 83, 84, 85, 86, 87, 88, 89, 90, 91, 92, 93, 94, 95, 96, 97, 98, 99, 100, 101, 102, 103, 104, 105, 106, 107] (by decide +kernel) (by decide +kernel)
set_option maxRecDepth 20000 in
theorem gX3_winters_X3_farthest : GoodIn wsX3_winters (wsV RX3 163 RX3 yX3_farthest wsX3_farthest) := goodIn_app (goodIn_of _ (by decide +kernel)) ggX3_winters_X3_farthest
theorem dX3_winters_0 : decode cX3_winters 0 = .ok (.iload_n 1, 1) := by decide +kernel
theorem dX3_winters_1 : decode cX3_winters 1 = .ok (.iconst 1, 1) := by decide +kernel
theorem dX3_winters_2 : decode cX3_winters 2 = .ok (.if_icmp .lt 22, 3) := by decide +kernel
theorem dX3_winters_5 : decode cX3_winters 5 = .ok (.iload_n 1, 1) := by decide +kernel
theorem dX3_winters_6 : decode cX3_winters 6 = .ok (.bipush 20, 2) := by decide +kernel
theorem dX3_winters_8 : decode cX3_winters 8 = .ok (.if_icmp .gt 16, 3) := by decide +kernel
theorem dX3_winters_11 : decode cX3_winters 11 = .ok (.iload_n 2, 1) := by decide +kernel
theorem dX3_winters_12 : decode cX3_winters 12 = .ok (.ifCond .lt 12, 3) := by decide +kernel
theorem dX3_winters_15 : decode cX3_winters 15 = .ok (.iload_n 3, 1) := by decide +kernel
theorem dX3_winters_16 : decode cX3_winters 16 = .ok (.ifCond .lt 8, 3) := by decide +kernel
theorem dX3_winters_19 : decode cX3_winters 19 = .ok (.iload_n 3, 1) := by decide +kernel
theorem dX3_winters_20 : decode cX3_winters 20 = .ok (.iconst 2, 1) := by decide +kernel
theorem dX3_winters_21 : decode cX3_winters 21 = .ok (.if_icmp .le 6, 3) := by decide +kernel
theorem dX3_winters_24 : decode cX3_winters 24 = .ok (.bipush (-102), 2) := by decide +kernel
theorem dX3_winters_26 : decode cX3_winters 26 = .ok (.ireturn, 1) := by decide +kernel
theorem dX3_winters_27 : decode cX3_winters 27 = .ok (.aload_n 0, 1) := by decide +kernel
theorem dX3_winters_28 : decode cX3_winters 28 = .ok (.getfield 19, 3) := by decide +kernel
theorem dX3_winters_31 : decode cX3_winters 31 = .ok (.getfield 53, 3) := by decide +kernel
theorem dX3_winters_34 : decode cX3_winters 34 = .ok (.ifCond .ne 6, 3) := by decide +kernel
theorem dX3_winters_37 : decode cX3_winters 37 = .ok (.bipush (-103), 2) := by decide +kernel
theorem dX3_winters_39 : decode cX3_winters 39 = .ok (.ireturn, 1) := by decide +kernel
theorem dX3_winters_40 : decode cX3_winters 40 = .ok (.aload_n 0, 1) := by decide +kernel
theorem dX3_winters_41 : decode cX3_winters 41 = .ok (.iload_n 1, 1) := by decide +kernel
theorem dX3_winters_42 : decode cX3_winters 42 = .ok (.iload_n 2, 1) := by decide +kernel
theorem dX3_winters_43 : decode cX3_winters 43 = .ok (.invokevirtual 180, 3) := by decide +kernel
theorem dX3_winters_46 : decode cX3_winters 46 = .ok (.istore 4, 2) := by decide +kernel
theorem dX3_winters_48 : decode cX3_winters 48 = .ok (.iload_n 3, 1) := by decide +kernel
theorem dX3_winters_49 : decode cX3_winters 49 = .ok (.iconst 2, 1) := by decide +kernel
theorem dX3_winters_50 : decode cX3_winters 50 = .ok (.if_icmp .ne 6, 3) := by decide +kernel
theorem dX3_winters_53 : decode cX3_winters 53 = .ok (.iload 4, 2) := by decide +kernel
theorem dX3_winters_55 : decode cX3_winters 55 = .ok (.ireturn, 1) := by decide +kernel
theorem dX3_winters_56 : decode cX3_winters 56 = .ok (.iload_n 3, 1) := by decide +kernel
theorem dX3_winters_57 : decode cX3_winters 57 = .ok (.ifCond .ne 13, 3) := by decide +kernel
theorem dX3_winters_60 : decode cX3_winters 60 = .ok (.aload_n 0, 1) := by decide +kernel
theorem dX3_winters_61 : decode cX3_winters 61 = .ok (.getfield 33, 3) := by decide +kernel
theorem dX3_winters_64 : decode cX3_winters 64 = .ok (.invokestatic 146, 3) := by decide +kernel
theorem dX3_winters_67 : decode cX3_winters 67 = .ok (.goto 18, 3) := by decide +kernel
theorem dX3_winters_70 : decode cX3_winters 70 = .ok (.aload_n 0, 1) := by decide +kernel
theorem dX3_winters_71 : decode cX3_winters 71 = .ok (.aload_n 0, 1) := by decide +kernel
theorem dX3_winters_72 : decode cX3_winters 72 = .ok (.getfield 26, 3) := by decide +kernel
theorem dX3_winters_75 : decode cX3_winters 75 = .ok (.getfield 100, 3) := by decide +kernel
theorem dX3_winters_78 : decode cX3_winters 78 = .ok (.aload_n 0, 1) := by decide +kernel
theorem dX3_winters_79 : decode cX3_winters 79 = .ok (.getfield 33, 3) := by decide +kernel
theorem dX3_winters_82 : decode cX3_winters 82 = .ok (.invokevirtual 163, 3) := by decide +kernel
theorem dX3_winters_85 : decode cX3_winters 85 = .ok (.ireturn, 1) := by decide +kernel
set_option maxRecDepth 20000 in
theorem ggX3_image_X2_takeFrom : GoodIn wsX3_image wsX2_takeFrom := goodIn_r _ [8, 9, 10, 11, 12, 13, 14, 15, 16, 17, 18, 19, 20, 21, 22, 23, 24, 25, 26, 43, 44, 45, 46, 47, 48, 49, 50, 51] (by decide +kernel) (by decide +kernel)
set_option maxRecDepth 20000 in
theorem gX3_image_X2_takeFrom_n183 : GoodIn wsX3_image (wsX2_takeFrom) := ggX3_image_X2_takeFrom
theorem dX3_image_0 : decode cX3_image 0 = .ok (.aload_n 0, 1) := by decide +kernel
theorem dX3_image_1 : decode cX3_image 1 = .ok (.getfield 19, 3) := by decide +kernel
theorem dX3_image_4 : decode cX3_image 4 = .ok (.getfield 53, 3) := by decide +kernel
theorem dX3_image_7 : decode cX3_image 7 = .ok (.ifCond .ne 6, 3) := by decide +kernel
theorem dX3_image_10 : decode cX3_image 10 = .ok (.bipush (-103), 2) := by decide +kernel
theorem dX3_image_12 : decode cX3_image 12 = .ok (.ireturn, 1) := by decide +kernel
theorem dX3_image_13 : decode cX3_image 13 = .ok (.aload_n 0, 1) := by decide +kernel
theorem dX3_image_14 : decode cX3_image 14 = .ok (.getfield 30, 3) := by decide +kernel
theorem dX3_image_17 : decode cX3_image 17 = .ok (.aload_n 0, 1) := by decide +kernel
theorem dX3_image_18 : decode cX3_image 18 = .ok (.getfield 26, 3) := by decide +kernel
theorem dX3_image_21 : decode cX3_image 21 = .ok (.invokevirtual 183, 3) := by decide +kernel
theorem dX3_image_24 : decode cX3_image 24 = .ok (.aload_n 0, 1) := by decide +kernel
theorem dX3_image_25 : decode cX3_image 25 = .ok (.iconst 1, 1) := by decide +kernel
theorem dX3_image_26 : decode cX3_image 26 = .ok (.putfield 80, 3) := by decide +kernel
theorem dX3_image_29 : decode cX3_image 29 = .ok (.aload_n 0, 1) := by decide +kernel
theorem dX3_image_30 : decode cX3_image 30 = .ok (.getfield 26, 3) := by decide +kernel
theorem dX3_image_33 : decode cX3_image 33 = .ok (.getfield 137, 3) := by decide +kernel
theorem dX3_image_36 : decode cX3_image 36 = .ok (.ireturn, 1) := by decide +kernel
set_option maxRecDepth 20000 in
theorem ggX3_restore_X2_takeFrom : GoodIn wsX3_restore wsX2_takeFrom := goodIn_r _ [7, 8, 9, 10, 11, 12, 13, 14, 15, 16, 17, 18, 19, 20, 21, 22, 23, 24, 25, 34, 35, 36, 37, 38, 39, 40, 41, 42] (by decide +kernel) (by decide +kernel)
set_option maxRecDepth 20000 in
theorem gX3_restore_X2_takeFrom_n183 : GoodIn wsX3_restore (wsX2_takeFrom) := ggX3_restore_X2_takeFrom
theorem dX3_restore_0 : decode cX3_restore 0 = .ok (.aload_n 0, 1) := by decide +kernel
theorem dX3_restore_1 : decode cX3_restore 1 = .ok (.getfield 80, 3) := by decide +kernel
theorem dX3_restore_4 : decode cX3_restore 4 = .ok (.ifCond .ne 6, 3) := by decide +kernel
theorem dX3_restore_7 : decode cX3_restore 7 = .ok (.bipush (-103), 2) := by decide +kernel
theorem dX3_restore_9 : decode cX3_restore 9 = .ok (.ireturn, 1) := by decide +kernel
theorem dX3_restore_10 : decode cX3_restore 10 = .ok (.aload_n 0, 1) := by decide +kernel
theorem dX3_restore_11 : decode cX3_restore 11 = .ok (.getfield 26, 3) := by decide +kernel
theorem dX3_restore_14 : decode cX3_restore 14 = .ok (.aload_n 0, 1) := by decide +kernel
theorem dX3_restore_15 : decode cX3_restore 15 = .ok (.getfield 30, 3) := by decide +kernel
theorem dX3_restore_18 : decode cX3_restore 18 = .ok (.invokevirtual 183, 3) := by decide +kernel
theorem dX3_restore_21 : decode cX3_restore 21 = .ok (.aload_n 0, 1) := by decide +kernel
theorem dX3_restore_22 : decode cX3_restore 22 = .ok (.getfield 26, 3) := by decide +kernel
theorem dX3_restore_25 : decode cX3_restore 25 = .ok (.getfield 137, 3) := by decide +kernel
theorem dX3_restore_28 : decode cX3_restore 28 = .ok (.ireturn, 1) := by decide +kernel
set_option maxRecDepth 20000 in
theorem ggX3_count_J6_bitCount_0f7a4 : GoodIn wsX3_count wsJ6_bitCount_0f7a4 := goodIn_r _ [11, 12, 13, 14] (by decide +kernel) (by decide +kernel)
set_option maxRecDepth 20000 in
theorem gX3_count_J6_bitCount_0f7a4 : GoodIn wsX3_count (va_wsS RX3 187 yJ6_bitCount_0f7a4 wsJ6_bitCount_0f7a4) := goodIn_app (goodIn_of _ (by decide +kernel)) ggX3_count_J6_bitCount_0f7a4
set_option maxRecDepth 20000 in
theorem ggX3_count_X3_sum : GoodIn wsX3_count wsX3_sum := goodIn_r _ [18] (by decide +kernel) (by decide +kernel)
set_option maxRecDepth 20000 in
theorem gX3_count_X3_sum : GoodIn wsX3_count (va_wsS RX3 146 yX3_sum wsX3_sum) := goodIn_app (goodIn_of _ (by decide +kernel)) ggX3_count_X3_sum
set_option maxRecDepth 20000 in
theorem ggX3_count_X1_together : GoodIn wsX3_count wsX1_together := goodIn_r _ [22, 23, 24, 25, 17, 26, 35, 36, 37, 38, 39, 40, 41, 42] (by decide +kernel) (by decide +kernel)
set_option maxRecDepth 20000 in
theorem gX3_count_X1_together_n192 : GoodIn wsX3_count (wsX1_together) := ggX3_count_X1_together
theorem dX3_count_0 : decode cX3_count 0 = .ok (.iload_n 1, 1) := by decide +kernel
theorem dX3_count_1 : decode cX3_count 1 = .ok (.tableswitch 167 0 10 #[59, 67, 78, 89, 97, 105, 123, 141, 149, 157, 162], 59) := by decide +kernel
theorem dX3_count_60 : decode cX3_count 60 = .ok (.aload_n 0, 1) := by decide +kernel
theorem dX3_count_61 : decode cX3_count 61 = .ok (.getfield 19, 3) := by decide +kernel
theorem dX3_count_64 : decode cX3_count 64 = .ok (.getfield 53, 3) := by decide +kernel
theorem dX3_count_67 : decode cX3_count 67 = .ok (.ireturn, 1) := by decide +kernel
theorem dX3_count_68 : decode cX3_count 68 = .ok (.aload_n 0, 1) := by decide +kernel
theorem dX3_count_69 : decode cX3_count 69 = .ok (.getfield 26, 3) := by decide +kernel
theorem dX3_count_72 : decode cX3_count 72 = .ok (.getfield 100, 3) := by decide +kernel
theorem dX3_count_75 : decode cX3_count 75 = .ok (.invokestatic 187, 3) := by decide +kernel
theorem dX3_count_78 : decode cX3_count 78 = .ok (.ireturn, 1) := by decide +kernel
theorem dX3_count_79 : decode cX3_count 79 = .ok (.aload_n 0, 1) := by decide +kernel
theorem dX3_count_80 : decode cX3_count 80 = .ok (.getfield 26, 3) := by decide +kernel
theorem dX3_count_83 : decode cX3_count 83 = .ok (.getfield 77, 3) := by decide +kernel
theorem dX3_count_86 : decode cX3_count 86 = .ok (.invokestatic 146, 3) := by decide +kernel
theorem dX3_count_89 : decode cX3_count 89 = .ok (.ireturn, 1) := by decide +kernel
theorem dX3_count_90 : decode cX3_count 90 = .ok (.aload_n 0, 1) := by decide +kernel
theorem dX3_count_91 : decode cX3_count 91 = .ok (.getfield 26, 3) := by decide +kernel
theorem dX3_count_94 : decode cX3_count 94 = .ok (.getfield 137, 3) := by decide +kernel
theorem dX3_count_97 : decode cX3_count 97 = .ok (.ireturn, 1) := by decide +kernel
theorem dX3_count_98 : decode cX3_count 98 = .ok (.aload_n 0, 1) := by decide +kernel
theorem dX3_count_99 : decode cX3_count 99 = .ok (.getfield 26, 3) := by decide +kernel
theorem dX3_count_102 : decode cX3_count 102 = .ok (.getfield 140, 3) := by decide +kernel
theorem dX3_count_105 : decode cX3_count 105 = .ok (.ireturn, 1) := by decide +kernel
theorem dX3_count_106 : decode cX3_count 106 = .ok (.aload_n 0, 1) := by decide +kernel
theorem dX3_count_107 : decode cX3_count 107 = .ok (.getfield 19, 3) := by decide +kernel
theorem dX3_count_110 : decode cX3_count 110 = .ok (.aload_n 0, 1) := by decide +kernel
theorem dX3_count_111 : decode cX3_count 111 = .ok (.getfield 26, 3) := by decide +kernel
theorem dX3_count_114 : decode cX3_count 114 = .ok (.getfield 100, 3) := by decide +kernel
theorem dX3_count_117 : decode cX3_count 117 = .ok (.getstatic 91, 3) := by decide +kernel
theorem dX3_count_120 : decode cX3_count 120 = .ok (.invokevirtual 192, 3) := by decide +kernel
theorem dX3_count_123 : decode cX3_count 123 = .ok (.ireturn, 1) := by decide +kernel
theorem dX3_count_124 : decode cX3_count 124 = .ok (.aload_n 0, 1) := by decide +kernel
theorem dX3_count_125 : decode cX3_count 125 = .ok (.getfield 19, 3) := by decide +kernel
theorem dX3_count_128 : decode cX3_count 128 = .ok (.aload_n 0, 1) := by decide +kernel
theorem dX3_count_129 : decode cX3_count 129 = .ok (.getfield 26, 3) := by decide +kernel
theorem dX3_count_132 : decode cX3_count 132 = .ok (.getfield 100, 3) := by decide +kernel
theorem dX3_count_135 : decode cX3_count 135 = .ok (.getstatic 94, 3) := by decide +kernel
theorem dX3_count_138 : decode cX3_count 138 = .ok (.invokevirtual 192, 3) := by decide +kernel
theorem dX3_count_141 : decode cX3_count 141 = .ok (.ireturn, 1) := by decide +kernel
theorem dX3_count_142 : decode cX3_count 142 = .ok (.aload_n 0, 1) := by decide +kernel
theorem dX3_count_143 : decode cX3_count 143 = .ok (.getfield 26, 3) := by decide +kernel
theorem dX3_count_146 : decode cX3_count 146 = .ok (.getfield 173, 3) := by decide +kernel
theorem dX3_count_149 : decode cX3_count 149 = .ok (.ireturn, 1) := by decide +kernel
theorem dX3_count_150 : decode cX3_count 150 = .ok (.aload_n 0, 1) := by decide +kernel
theorem dX3_count_151 : decode cX3_count 151 = .ok (.getfield 10, 3) := by decide +kernel
theorem dX3_count_154 : decode cX3_count 154 = .ok (.getfield 41, 3) := by decide +kernel
theorem dX3_count_157 : decode cX3_count 157 = .ok (.ireturn, 1) := by decide +kernel
theorem dX3_count_158 : decode cX3_count 158 = .ok (.aload_n 0, 1) := by decide +kernel
theorem dX3_count_159 : decode cX3_count 159 = .ok (.getfield 84, 3) := by decide +kernel
theorem dX3_count_162 : decode cX3_count 162 = .ok (.ireturn, 1) := by decide +kernel
theorem dX3_count_163 : decode cX3_count 163 = .ok (.aload_n 0, 1) := by decide +kernel
theorem dX3_count_164 : decode cX3_count 164 = .ok (.getfield 167, 3) := by decide +kernel
theorem dX3_count_167 : decode cX3_count 167 = .ok (.ireturn, 1) := by decide +kernel
theorem dX3_count_168 : decode cX3_count 168 = .ok (.bipush (-102), 2) := by decide +kernel
theorem dX3_count_170 : decode cX3_count 170 = .ok (.ireturn, 1) := by decide +kernel
set_option maxRecDepth 20000 in
theorem ggX3_digest_X3_member : GoodIn wsX3_digest wsX3_member := goodIn_r _ [10, 2, 11, 12, 13, 4, 14, 15, 9, 16, 146, 147, 148, 149, 150, 151, 152, 153, 154, 155, 156, 157, 158, 159, 160, 161, 162, 163, 164, 165, 166, 167, 168, 169, 170] (by decide +kernel) (by decide +kernel)
set_option maxRecDepth 20000 in
theorem gX3_digest_X3_member : GoodIn wsX3_digest (wsV RX3 199 RX3 yX3_member wsX3_member) := goodIn_app (goodIn_of _ (by decide +kernel)) ggX3_digest_X3_member
set_option maxRecDepth 20000 in
theorem ggX3_digest_X3_at : GoodIn wsX3_digest wsX3_at := goodIn_r _ [16] (by decide +kernel) (by decide +kernel)
set_option maxRecDepth 20000 in
theorem gX3_digest_X3_at : GoodIn wsX3_digest (va_wsS RX3 87 yX3_at wsX3_at) := goodIn_app (goodIn_of _ (by decide +kernel)) ggX3_digest_X3_at
set_option maxRecDepth 20000 in
theorem ggX3_digest_X3_amountsAt : GoodIn wsX3_digest wsX3_amountsAt := goodIn_r _ [20, 21, 22, 23, 9, 24, 4, 2, 25, 26, 27, 28, 29, 30, 31, 14, 15, 16, 32, 33, 34, 35, 36, 37, 38, 39, 40, 41, 42, 43, 44, 45, 46, 47, 48, 49, 50, 51, 52, 53, 54, 55, 56, 57, 58, 59, 60, 61, 62, 63, 64, 65, 66, 67, 68, 69, 70, 71, 72, 73, 74, 75, 76, 77, 78, 146, 147, 148, 149, 150, 151, 152, 153, 162, 163, 164, 165, 166, 167, 168, 169, 170, 154, 155, 156, 157, 158, 159, 160, 161] (by decide +kernel) (by decide +kernel)
set_option maxRecDepth 20000 in
theorem gX3_digest_X3_amountsAt : GoodIn wsX3_digest (wsV RX3 110 RX3 yX3_amountsAt wsX3_amountsAt) := goodIn_app (goodIn_of _ (by decide +kernel)) ggX3_digest_X3_amountsAt
set_option maxRecDepth 20000 in
theorem ggX3_digest_X3_bestTrial : GoodIn wsX3_digest wsX3_bestTrial := goodIn_r _ [82, 2, 83, 84, 85, 86, 87, 88, 89, 90, 26, 91, 92, 55, 93, 94, 95, 9, 96, 11, 97, 47, 48, 49, 52, 53, 54, 56, 15, 16, 98, 99, 100, 101, 4, 102, 103, 104, 25, 27, 28, 29, 30, 31, 14, 32, 33, 34, 35, 36, 37, 38, 39, 40, 41, 42, 43, 44, 45, 46, 50, 51, 57, 58, 59, 60, 61, 62, 63, 64, 65, 66, 67, 68, 69, 70, 71, 72, 73, 74, 75, 76, 77, 78, 146, 147, 148, 149, 150, 151, 152, 153, 154, 155, 156, 157, 158, 159, 160, 161, 162, 163, 164, 165, 166, 167, 168, 169, 170] (by decide +kernel) (by decide +kernel)
set_option maxRecDepth 20000 in
theorem gX3_digest_X3_bestTrial : GoodIn wsX3_digest (wsV RX3 113 RX3 yX3_bestTrial wsX3_bestTrial) := goodIn_app (goodIn_of _ (by decide +kernel)) ggX3_digest_X3_bestTrial
set_option maxRecDepth 20000 in
theorem ggX3_digest_X3_farthest : GoodIn wsX3_digest wsX3_farthest := goodIn_r _ [108, 109, 110, 111, 9, 112, 2, 93, 94, 95, 96, 11, 97, 47, 48, 49, 52, 26, 53, 54, 55, 56, 15, 16, 25, 27, 28, 29, 30, 31, 14, 32, 33, 34, 35, 36, 37, 38, 39, 40, 41, 42, 43, 44, 45, 46, 50, 51, 57, 58, 59, 60, 61, 62, 63, 64, 65, 66, 67, 68, 69, 70, 71, 72, 73, 74, 75, 76, 77, 78, 146, 147, 148, 149, 150, 151, 152, 153, 154, 155, 156, 157, 158, 159, 160, 161] (by decide +kernel) (by decide +kernel)
set_option maxRecDepth 20000 in
theorem gX3_digest_X3_farthest : GoodIn wsX3_digest (wsV RX3 163 RX3 yX3_farthest wsX3_farthest) := goodIn_app (goodIn_of _ (by decide +kernel)) ggX3_digest_X3_farthest
set_option maxRecDepth 20000 in
theorem ggX3_digest_X3_leastFood : GoodIn wsX3_digest wsX3_leastFood := goodIn_r _ [112, 2, 93, 94, 95, 9, 96, 11, 97, 47, 48, 49, 52, 26, 53, 54, 55, 56, 15, 16, 25, 27, 28, 29, 30, 31, 14, 32, 33, 34, 35, 36, 37, 38, 39, 40, 41, 42, 43, 44, 45, 46, 50, 51, 57, 58, 59, 60, 61, 62, 63, 64, 65, 66, 67, 68, 69, 70, 71, 72, 73, 74, 75, 76, 77, 78, 146, 147, 148, 149, 150, 151, 152, 153, 154, 155, 156, 157, 158, 159, 160, 161] (by decide +kernel) (by decide +kernel)
set_option maxRecDepth 20000 in
theorem gX3_digest_X3_leastFood : GoodIn wsX3_digest (wsV RX3 159 RX3 yX3_leastFood wsX3_leastFood) := goodIn_app (goodIn_of _ (by decide +kernel)) ggX3_digest_X3_leastFood
set_option maxRecDepth 20000 in
theorem ggX3_digest_X3_would : GoodIn wsX3_digest wsX3_would := goodIn_r _ [116, 2, 4, 117, 118, 119, 9, 120, 121, 122, 123, 124, 90, 26, 91, 92, 55, 125, 126, 127, 128, 129, 130, 131, 25, 27, 28, 29, 30, 31, 14, 15, 16, 32, 33, 34, 35, 36, 37, 38, 39, 40, 41, 42, 43, 44, 45, 46, 47, 48, 49, 50, 51, 52, 53, 54, 56, 57, 58, 59, 60, 61, 62, 63, 64, 65, 66, 67, 68, 69, 70, 71, 72, 73, 74, 75, 76, 77, 78, 132, 133, 134, 146, 147, 148, 149, 150, 151, 152, 153, 162, 163, 164, 165, 166, 167, 168, 169, 170, 154, 155, 156, 157, 158, 159, 160, 161] (by decide +kernel) (by decide +kernel)
set_option maxRecDepth 20000 in
theorem gX3_digest_X3_would : GoodIn wsX3_digest (wsV RX3 202 RX3 yX3_would wsX3_would) := goodIn_app (goodIn_of _ (by decide +kernel)) ggX3_digest_X3_would
set_option maxRecDepth 20000 in
theorem ggX3_digest_X0_codeAt : GoodIn wsX3_digest wsX0_codeAt := goodIn_r _ [138, 139, 15, 9, 16, 171, 172] (by decide +kernel) (by decide +kernel)
set_option maxRecDepth 20000 in
theorem gX3_digest_X0_codeAt_n59 : GoodIn wsX3_digest (wsX0_codeAt) := ggX3_digest_X0_codeAt
set_option maxRecDepth 20000 in
theorem ggX3_digest_X3_count : GoodIn wsX3_digest wsX3_count := goodIn_r _ [143, 2, 4, 11, 12, 5, 144, 145, 83, 84, 85, 86, 87, 88, 89, 132, 133, 9, 134, 52, 26, 53, 54, 55, 56, 15, 16, 146, 147, 148, 149, 150, 151, 152, 153, 154, 155, 156, 157, 158, 159, 160, 161, 162, 163, 164, 165, 166, 167, 168, 169, 170, 171, 172] (by decide +kernel) (by decide +kernel)
set_option maxRecDepth 20000 in
theorem gX3_digest_X3_count : GoodIn wsX3_digest (wsV RX3 206 RX3 yX3_count wsX3_count) := goodIn_app (goodIn_of _ (by decide +kernel)) ggX3_digest_X3_count
theorem dX3_digest_0 : decode cX3_digest 0 = .ok (.ldc2_w 195, 3) := by decide +kernel
theorem dX3_digest_3 : decode cX3_digest 3 = .ok (.lstore_n 1, 1) := by decide +kernel
theorem dX3_digest_4 : decode cX3_digest 4 = .ok (.iconst 0, 1) := by decide +kernel
theorem dX3_digest_5 : decode cX3_digest 5 = .ok (.istore_n 3, 1) := by decide +kernel
theorem dX3_digest_6 : decode cX3_digest 6 = .ok (.iload_n 3, 1) := by decide +kernel
theorem dX3_digest_7 : decode cX3_digest 7 = .ok (.aload_n 0, 1) := by decide +kernel
theorem dX3_digest_8 : decode cX3_digest 8 = .ok (.getfield 19, 3) := by decide +kernel
theorem dX3_digest_11 : decode cX3_digest 11 = .ok (.getfield 53, 3) := by decide +kernel
theorem dX3_digest_14 : decode cX3_digest 14 = .ok (.if_icmp .ge 39, 3) := by decide +kernel
theorem dX3_digest_17 : decode cX3_digest 17 = .ok (.iconst 0, 1) := by decide +kernel
theorem dX3_digest_18 : decode cX3_digest 18 = .ok (.istore 4, 2) := by decide +kernel
theorem dX3_digest_20 : decode cX3_digest 20 = .ok (.iload 4, 2) := by decide +kernel
theorem dX3_digest_22 : decode cX3_digest 22 = .ok (.iconst 4, 1) := by decide +kernel
theorem dX3_digest_23 : decode cX3_digest 23 = .ok (.if_icmp .gt 24, 3) := by decide +kernel
theorem dX3_digest_26 : decode cX3_digest 26 = .ok (.ldc2_w 197, 3) := by decide +kernel
theorem dX3_digest_29 : decode cX3_digest 29 = .ok (.lload_n 1, 1) := by decide +kernel
theorem dX3_digest_30 : decode cX3_digest 30 = .ok (.lmul, 1) := by decide +kernel
theorem dX3_digest_31 : decode cX3_digest 31 = .ok (.aload_n 0, 1) := by decide +kernel
theorem dX3_digest_32 : decode cX3_digest 32 = .ok (.iload_n 3, 1) := by decide +kernel
theorem dX3_digest_33 : decode cX3_digest 33 = .ok (.iload 4, 2) := by decide +kernel
theorem dX3_digest_35 : decode cX3_digest 35 = .ok (.invokevirtual 199, 3) := by decide +kernel
theorem dX3_digest_38 : decode cX3_digest 38 = .ok (.i2l, 1) := by decide +kernel
theorem dX3_digest_39 : decode cX3_digest 39 = .ok (.ladd, 1) := by decide +kernel
theorem dX3_digest_40 : decode cX3_digest 40 = .ok (.lstore_n 1, 1) := by decide +kernel
theorem dX3_digest_41 : decode cX3_digest 41 = .ok (.iinc 4 1, 3) := by decide +kernel
theorem dX3_digest_44 : decode cX3_digest 44 = .ok (.goto (-24), 3) := by decide +kernel
theorem dX3_digest_47 : decode cX3_digest 47 = .ok (.iinc 3 1, 3) := by decide +kernel
theorem dX3_digest_50 : decode cX3_digest 50 = .ok (.goto (-44), 3) := by decide +kernel
theorem dX3_digest_53 : decode cX3_digest 53 = .ok (.aload_n 0, 1) := by decide +kernel
theorem dX3_digest_54 : decode cX3_digest 54 = .ok (.getfield 19, 3) := by decide +kernel
theorem dX3_digest_57 : decode cX3_digest 57 = .ok (.getfield 53, 3) := by decide +kernel
theorem dX3_digest_60 : decode cX3_digest 60 = .ok (.ifCond .le 68, 3) := by decide +kernel
theorem dX3_digest_63 : decode cX3_digest 63 = .ok (.iconst 1, 1) := by decide +kernel
theorem dX3_digest_64 : decode cX3_digest 64 = .ok (.istore_n 3, 1) := by decide +kernel
theorem dX3_digest_65 : decode cX3_digest 65 = .ok (.iload_n 3, 1) := by decide +kernel
theorem dX3_digest_66 : decode cX3_digest 66 = .ok (.iconst 5, 1) := by decide +kernel
theorem dX3_digest_67 : decode cX3_digest 67 = .ok (.if_icmp .gt 43, 3) := by decide +kernel
theorem dX3_digest_70 : decode cX3_digest 70 = .ok (.ldc2_w 197, 3) := by decide +kernel
theorem dX3_digest_73 : decode cX3_digest 73 = .ok (.lload_n 1, 1) := by decide +kernel
theorem dX3_digest_74 : decode cX3_digest 74 = .ok (.lmul, 1) := by decide +kernel
theorem dX3_digest_75 : decode cX3_digest 75 = .ok (.aload_n 0, 1) := by decide +kernel
theorem dX3_digest_76 : decode cX3_digest 76 = .ok (.getfield 26, 3) := by decide +kernel
theorem dX3_digest_79 : decode cX3_digest 79 = .ok (.getfield 77, 3) := by decide +kernel
theorem dX3_digest_82 : decode cX3_digest 82 = .ok (.iload_n 3, 1) := by decide +kernel
theorem dX3_digest_83 : decode cX3_digest 83 = .ok (.iconst 1, 1) := by decide +kernel
theorem dX3_digest_84 : decode cX3_digest 84 = .ok (.isub, 1) := by decide +kernel
theorem dX3_digest_85 : decode cX3_digest 85 = .ok (.invokestatic 87, 3) := by decide +kernel
theorem dX3_digest_88 : decode cX3_digest 88 = .ok (.i2l, 1) := by decide +kernel
theorem dX3_digest_89 : decode cX3_digest 89 = .ok (.ladd, 1) := by decide +kernel
theorem dX3_digest_90 : decode cX3_digest 90 = .ok (.lstore_n 1, 1) := by decide +kernel
theorem dX3_digest_91 : decode cX3_digest 91 = .ok (.ldc2_w 197, 3) := by decide +kernel
theorem dX3_digest_94 : decode cX3_digest 94 = .ok (.lload_n 1, 1) := by decide +kernel
theorem dX3_digest_95 : decode cX3_digest 95 = .ok (.lmul, 1) := by decide +kernel
theorem dX3_digest_96 : decode cX3_digest 96 = .ok (.aload_n 0, 1) := by decide +kernel
theorem dX3_digest_97 : decode cX3_digest 97 = .ok (.iload_n 3, 1) := by decide +kernel
theorem dX3_digest_98 : decode cX3_digest 98 = .ok (.invokevirtual 110, 3) := by decide +kernel
theorem dX3_digest_101 : decode cX3_digest 101 = .ok (.i2l, 1) := by decide +kernel
theorem dX3_digest_102 : decode cX3_digest 102 = .ok (.ladd, 1) := by decide +kernel
theorem dX3_digest_103 : decode cX3_digest 103 = .ok (.lstore_n 1, 1) := by decide +kernel
theorem dX3_digest_104 : decode cX3_digest 104 = .ok (.iinc 3 1, 3) := by decide +kernel
theorem dX3_digest_107 : decode cX3_digest 107 = .ok (.goto (-42), 3) := by decide +kernel
theorem dX3_digest_110 : decode cX3_digest 110 = .ok (.ldc2_w 197, 3) := by decide +kernel
theorem dX3_digest_113 : decode cX3_digest 113 = .ok (.lload_n 1, 1) := by decide +kernel
theorem dX3_digest_114 : decode cX3_digest 114 = .ok (.lmul, 1) := by decide +kernel
theorem dX3_digest_115 : decode cX3_digest 115 = .ok (.aload_n 0, 1) := by decide +kernel
theorem dX3_digest_116 : decode cX3_digest 116 = .ok (.iconst 3, 1) := by decide +kernel
theorem dX3_digest_117 : decode cX3_digest 117 = .ok (.aload_n 0, 1) := by decide +kernel
theorem dX3_digest_118 : decode cX3_digest 118 = .ok (.iconst 3, 1) := by decide +kernel
theorem dX3_digest_119 : decode cX3_digest 119 = .ok (.invokevirtual 110, 3) := by decide +kernel
theorem dX3_digest_122 : decode cX3_digest 122 = .ok (.invokevirtual 113, 3) := by decide +kernel
theorem dX3_digest_125 : decode cX3_digest 125 = .ok (.i2l, 1) := by decide +kernel
theorem dX3_digest_126 : decode cX3_digest 126 = .ok (.ladd, 1) := by decide +kernel
theorem dX3_digest_127 : decode cX3_digest 127 = .ok (.lstore_n 1, 1) := by decide +kernel
theorem dX3_digest_128 : decode cX3_digest 128 = .ok (.aload_n 0, 1) := by decide +kernel
theorem dX3_digest_129 : decode cX3_digest 129 = .ok (.getfield 26, 3) := by decide +kernel
theorem dX3_digest_132 : decode cX3_digest 132 = .ok (.getfield 100, 3) := by decide +kernel
theorem dX3_digest_135 : decode cX3_digest 135 = .ok (.ifCond .eq 119, 3) := by decide +kernel
theorem dX3_digest_138 : decode cX3_digest 138 = .ok (.ldc2_w 197, 3) := by decide +kernel
theorem dX3_digest_141 : decode cX3_digest 141 = .ok (.lload_n 1, 1) := by decide +kernel
theorem dX3_digest_142 : decode cX3_digest 142 = .ok (.lmul, 1) := by decide +kernel
theorem dX3_digest_143 : decode cX3_digest 143 = .ok (.aload_n 0, 1) := by decide +kernel
theorem dX3_digest_144 : decode cX3_digest 144 = .ok (.aload_n 0, 1) := by decide +kernel
theorem dX3_digest_145 : decode cX3_digest 145 = .ok (.getfield 26, 3) := by decide +kernel
theorem dX3_digest_148 : decode cX3_digest 148 = .ok (.getfield 100, 3) := by decide +kernel
theorem dX3_digest_151 : decode cX3_digest 151 = .ok (.aload_n 0, 1) := by decide +kernel
theorem dX3_digest_152 : decode cX3_digest 152 = .ok (.getfield 26, 3) := by decide +kernel
theorem dX3_digest_155 : decode cX3_digest 155 = .ok (.getfield 77, 3) := by decide +kernel
theorem dX3_digest_158 : decode cX3_digest 158 = .ok (.invokevirtual 163, 3) := by decide +kernel
theorem dX3_digest_161 : decode cX3_digest 161 = .ok (.i2l, 1) := by decide +kernel
theorem dX3_digest_162 : decode cX3_digest 162 = .ok (.ladd, 1) := by decide +kernel
theorem dX3_digest_163 : decode cX3_digest 163 = .ok (.lstore_n 1, 1) := by decide +kernel
theorem dX3_digest_164 : decode cX3_digest 164 = .ok (.ldc2_w 197, 3) := by decide +kernel
theorem dX3_digest_167 : decode cX3_digest 167 = .ok (.lload_n 1, 1) := by decide +kernel
theorem dX3_digest_168 : decode cX3_digest 168 = .ok (.lmul, 1) := by decide +kernel
theorem dX3_digest_169 : decode cX3_digest 169 = .ok (.aload_n 0, 1) := by decide +kernel
theorem dX3_digest_170 : decode cX3_digest 170 = .ok (.aload_n 0, 1) := by decide +kernel
theorem dX3_digest_171 : decode cX3_digest 171 = .ok (.getfield 26, 3) := by decide +kernel
theorem dX3_digest_174 : decode cX3_digest 174 = .ok (.getfield 100, 3) := by decide +kernel
theorem dX3_digest_177 : decode cX3_digest 177 = .ok (.iconst 1, 1) := by decide +kernel
theorem dX3_digest_178 : decode cX3_digest 178 = .ok (.aload_n 0, 1) := by decide +kernel
theorem dX3_digest_179 : decode cX3_digest 179 = .ok (.getfield 26, 3) := by decide +kernel
theorem dX3_digest_182 : decode cX3_digest 182 = .ok (.getfield 77, 3) := by decide +kernel
theorem dX3_digest_185 : decode cX3_digest 185 = .ok (.invokevirtual 159, 3) := by decide +kernel
theorem dX3_digest_188 : decode cX3_digest 188 = .ok (.i2l, 1) := by decide +kernel
theorem dX3_digest_189 : decode cX3_digest 189 = .ok (.ladd, 1) := by decide +kernel
theorem dX3_digest_190 : decode cX3_digest 190 = .ok (.lstore_n 1, 1) := by decide +kernel
theorem dX3_digest_191 : decode cX3_digest 191 = .ok (.ldc2_w 197, 3) := by decide +kernel
theorem dX3_digest_194 : decode cX3_digest 194 = .ok (.lload_n 1, 1) := by decide +kernel
theorem dX3_digest_195 : decode cX3_digest 195 = .ok (.lmul, 1) := by decide +kernel
theorem dX3_digest_196 : decode cX3_digest 196 = .ok (.aload_n 0, 1) := by decide +kernel
theorem dX3_digest_197 : decode cX3_digest 197 = .ok (.aload_n 0, 1) := by decide +kernel
theorem dX3_digest_198 : decode cX3_digest 198 = .ok (.getfield 26, 3) := by decide +kernel
theorem dX3_digest_201 : decode cX3_digest 201 = .ok (.getfield 100, 3) := by decide +kernel
theorem dX3_digest_204 : decode cX3_digest 204 = .ok (.iconst 4, 1) := by decide +kernel
theorem dX3_digest_205 : decode cX3_digest 205 = .ok (.aload_n 0, 1) := by decide +kernel
theorem dX3_digest_206 : decode cX3_digest 206 = .ok (.getfield 26, 3) := by decide +kernel
theorem dX3_digest_209 : decode cX3_digest 209 = .ok (.getfield 77, 3) := by decide +kernel
theorem dX3_digest_212 : decode cX3_digest 212 = .ok (.invokevirtual 159, 3) := by decide +kernel
theorem dX3_digest_215 : decode cX3_digest 215 = .ok (.i2l, 1) := by decide +kernel
theorem dX3_digest_216 : decode cX3_digest 216 = .ok (.ladd, 1) := by decide +kernel
theorem dX3_digest_217 : decode cX3_digest 217 = .ok (.lstore_n 1, 1) := by decide +kernel
theorem dX3_digest_218 : decode cX3_digest 218 = .ok (.iconst 0, 1) := by decide +kernel
theorem dX3_digest_219 : decode cX3_digest 219 = .ok (.istore_n 3, 1) := by decide +kernel
theorem dX3_digest_220 : decode cX3_digest 220 = .ok (.iload_n 3, 1) := by decide +kernel
theorem dX3_digest_221 : decode cX3_digest 221 = .ok (.iconst 3, 1) := by decide +kernel
theorem dX3_digest_222 : decode cX3_digest 222 = .ok (.if_icmp .gt 32, 3) := by decide +kernel
theorem dX3_digest_225 : decode cX3_digest 225 = .ok (.ldc2_w 197, 3) := by decide +kernel
theorem dX3_digest_228 : decode cX3_digest 228 = .ok (.lload_n 1, 1) := by decide +kernel
theorem dX3_digest_229 : decode cX3_digest 229 = .ok (.lmul, 1) := by decide +kernel
theorem dX3_digest_230 : decode cX3_digest 230 = .ok (.aload_n 0, 1) := by decide +kernel
theorem dX3_digest_231 : decode cX3_digest 231 = .ok (.aload_n 0, 1) := by decide +kernel
theorem dX3_digest_232 : decode cX3_digest 232 = .ok (.getfield 26, 3) := by decide +kernel
theorem dX3_digest_235 : decode cX3_digest 235 = .ok (.getfield 100, 3) := by decide +kernel
theorem dX3_digest_238 : decode cX3_digest 238 = .ok (.iconst 5, 1) := by decide +kernel
theorem dX3_digest_239 : decode cX3_digest 239 = .ok (.bipush 12, 2) := by decide +kernel
theorem dX3_digest_241 : decode cX3_digest 241 = .ok (.iload_n 3, 1) := by decide +kernel
theorem dX3_digest_242 : decode cX3_digest 242 = .ok (.invokevirtual 202, 3) := by decide +kernel
theorem dX3_digest_245 : decode cX3_digest 245 = .ok (.i2l, 1) := by decide +kernel
theorem dX3_digest_246 : decode cX3_digest 246 = .ok (.ladd, 1) := by decide +kernel
theorem dX3_digest_247 : decode cX3_digest 247 = .ok (.lstore_n 1, 1) := by decide +kernel
theorem dX3_digest_248 : decode cX3_digest 248 = .ok (.iinc 3 1, 3) := by decide +kernel
theorem dX3_digest_251 : decode cX3_digest 251 = .ok (.goto (-31), 3) := by decide +kernel
theorem dX3_digest_254 : decode cX3_digest 254 = .ok (.iconst 0, 1) := by decide +kernel
theorem dX3_digest_255 : decode cX3_digest 255 = .ok (.istore_n 3, 1) := by decide +kernel
theorem dX3_digest_256 : decode cX3_digest 256 = .ok (.iload_n 3, 1) := by decide +kernel
theorem dX3_digest_257 : decode cX3_digest 257 = .ok (.aload_n 0, 1) := by decide +kernel
theorem dX3_digest_258 : decode cX3_digest 258 = .ok (.getfield 10, 3) := by decide +kernel
theorem dX3_digest_261 : decode cX3_digest 261 = .ok (.getfield 41, 3) := by decide +kernel
theorem dX3_digest_264 : decode cX3_digest 264 = .ok (.if_icmp .ge 25, 3) := by decide +kernel
theorem dX3_digest_267 : decode cX3_digest 267 = .ok (.ldc2_w 197, 3) := by decide +kernel
theorem dX3_digest_270 : decode cX3_digest 270 = .ok (.lload_n 1, 1) := by decide +kernel
theorem dX3_digest_271 : decode cX3_digest 271 = .ok (.lmul, 1) := by decide +kernel
theorem dX3_digest_272 : decode cX3_digest 272 = .ok (.aload_n 0, 1) := by decide +kernel
theorem dX3_digest_273 : decode cX3_digest 273 = .ok (.getfield 10, 3) := by decide +kernel
theorem dX3_digest_276 : decode cX3_digest 276 = .ok (.iload_n 3, 1) := by decide +kernel
theorem dX3_digest_277 : decode cX3_digest 277 = .ok (.invokevirtual 59, 3) := by decide +kernel
theorem dX3_digest_280 : decode cX3_digest 280 = .ok (.i2l, 1) := by decide +kernel
theorem dX3_digest_281 : decode cX3_digest 281 = .ok (.ladd, 1) := by decide +kernel
theorem dX3_digest_282 : decode cX3_digest 282 = .ok (.lstore_n 1, 1) := by decide +kernel
theorem dX3_digest_283 : decode cX3_digest 283 = .ok (.iinc 3 1, 3) := by decide +kernel
theorem dX3_digest_286 : decode cX3_digest 286 = .ok (.goto (-30), 3) := by decide +kernel
theorem dX3_digest_289 : decode cX3_digest 289 = .ok (.iconst 0, 1) := by decide +kernel
theorem dX3_digest_290 : decode cX3_digest 290 = .ok (.istore_n 3, 1) := by decide +kernel
theorem dX3_digest_291 : decode cX3_digest 291 = .ok (.iload_n 3, 1) := by decide +kernel
theorem dX3_digest_292 : decode cX3_digest 292 = .ok (.bipush 10, 2) := by decide +kernel
theorem dX3_digest_294 : decode cX3_digest 294 = .ok (.if_icmp .gt 22, 3) := by decide +kernel
theorem dX3_digest_297 : decode cX3_digest 297 = .ok (.ldc2_w 197, 3) := by decide +kernel
theorem dX3_digest_300 : decode cX3_digest 300 = .ok (.lload_n 1, 1) := by decide +kernel
theorem dX3_digest_301 : decode cX3_digest 301 = .ok (.lmul, 1) := by decide +kernel
theorem dX3_digest_302 : decode cX3_digest 302 = .ok (.aload_n 0, 1) := by decide +kernel
theorem dX3_digest_303 : decode cX3_digest 303 = .ok (.iload_n 3, 1) := by decide +kernel
theorem dX3_digest_304 : decode cX3_digest 304 = .ok (.invokevirtual 206, 3) := by decide +kernel
theorem dX3_digest_307 : decode cX3_digest 307 = .ok (.i2l, 1) := by decide +kernel
theorem dX3_digest_308 : decode cX3_digest 308 = .ok (.ladd, 1) := by decide +kernel
theorem dX3_digest_309 : decode cX3_digest 309 = .ok (.lstore_n 1, 1) := by decide +kernel
theorem dX3_digest_310 : decode cX3_digest 310 = .ok (.iinc 3 1, 3) := by decide +kernel
theorem dX3_digest_313 : decode cX3_digest 313 = .ok (.goto (-22), 3) := by decide +kernel
theorem dX3_digest_316 : decode cX3_digest 316 = .ok (.lload_n 1, 1) := by decide +kernel
theorem dX3_digest_317 : decode cX3_digest 317 = .ok (.lreturn, 1) := by decide +kernel
theorem dX3_isNoCairn_0 : decode cX3_isNoCairn 0 = .ok (.iload_n 1, 1) := by decide +kernel
theorem dX3_isNoCairn_1 : decode cX3_isNoCairn 1 = .ok (.iconst 1, 1) := by decide +kernel
theorem dX3_isNoCairn_2 : decode cX3_isNoCairn 2 = .ok (.if_icmp .lt 18, 3) := by decide +kernel
theorem dX3_isNoCairn_5 : decode cX3_isNoCairn 5 = .ok (.iload_n 1, 1) := by decide +kernel
theorem dX3_isNoCairn_6 : decode cX3_isNoCairn 6 = .ok (.iconst 5, 1) := by decide +kernel
theorem dX3_isNoCairn_7 : decode cX3_isNoCairn 7 = .ok (.if_icmp .gt 13, 3) := by decide +kernel
theorem dX3_isNoCairn_10 : decode cX3_isNoCairn 10 = .ok (.aload_n 0, 1) := by decide +kernel
theorem dX3_isNoCairn_11 : decode cX3_isNoCairn 11 = .ok (.getfield 19, 3) := by decide +kernel
theorem dX3_isNoCairn_14 : decode cX3_isNoCairn 14 = .ok (.getfield 53, 3) := by decide +kernel
theorem dX3_isNoCairn_17 : decode cX3_isNoCairn 17 = .ok (.ifCond .ne 7, 3) := by decide +kernel
theorem dX3_isNoCairn_20 : decode cX3_isNoCairn 20 = .ok (.iconst 1, 1) := by decide +kernel
theorem dX3_isNoCairn_21 : decode cX3_isNoCairn 21 = .ok (.goto 4, 3) := by decide +kernel
theorem dX3_isNoCairn_24 : decode cX3_isNoCairn 24 = .ok (.iconst 0, 1) := by decide +kernel
theorem dX3_isNoCairn_25 : decode cX3_isNoCairn 25 = .ok (.ireturn, 1) := by decide +kernel
set_option maxRecDepth 20000 in
theorem ggX3_isNobody_X1_all : GoodIn wsX3_isNobody wsX1_all := goodIn_r _ [5, 6, 15, 16, 17, 18, 19, 20, 21, 22] (by decide +kernel) (by decide +kernel)
set_option maxRecDepth 20000 in
theorem gX3_isNobody_X1_all_n70 : GoodIn wsX3_isNobody (wsX1_all) := ggX3_isNobody_X1_all
theorem dX3_isNobody_0 : decode cX3_isNobody 0 = .ok (.iload_n 1, 1) := by decide +kernel
theorem dX3_isNobody_1 : decode cX3_isNobody 1 = .ok (.iconst 1, 1) := by decide +kernel
theorem dX3_isNobody_2 : decode cX3_isNobody 2 = .ok (.if_icmp .lt 14, 3) := by decide +kernel
theorem dX3_isNobody_5 : decode cX3_isNobody 5 = .ok (.iload_n 1, 1) := by decide +kernel
theorem dX3_isNobody_6 : decode cX3_isNobody 6 = .ok (.aload_n 0, 1) := by decide +kernel
theorem dX3_isNobody_7 : decode cX3_isNobody 7 = .ok (.getfield 19, 3) := by decide +kernel
theorem dX3_isNobody_10 : decode cX3_isNobody 10 = .ok (.invokevirtual 70, 3) := by decide +kernel
theorem dX3_isNobody_13 : decode cX3_isNobody 13 = .ok (.if_icmp .le 7, 3) := by decide +kernel
theorem dX3_isNobody_16 : decode cX3_isNobody 16 = .ok (.iconst 1, 1) := by decide +kernel
theorem dX3_isNobody_17 : decode cX3_isNobody 17 = .ok (.goto 4, 3) := by decide +kernel
theorem dX3_isNobody_20 : decode cX3_isNobody 20 = .ok (.iconst 0, 1) := by decide +kernel
theorem dX3_isNobody_21 : decode cX3_isNobody 21 = .ok (.ireturn, 1) := by decide +kernel
set_option maxRecDepth 20000 in
theorem ggX3_isNoMarch_X3_isNobody : GoodIn wsX3_isNoMarch wsX3_isNobody := goodIn_r _ [5, 6, 7, 8, 9, 10, 11, 15, 16, 17, 18, 19, 20, 21, 22, 23, 24, 25, 26, 27, 28, 29, 30] (by decide +kernel) (by decide +kernel)
set_option maxRecDepth 20000 in
theorem gX3_isNoMarch_X3_isNobody : GoodIn wsX3_isNoMarch (wsV RX3 153 RX3 yX3_isNobody wsX3_isNobody) := goodIn_app (goodIn_of _ (by decide +kernel)) ggX3_isNoMarch_X3_isNobody
set_option maxRecDepth 20000 in
theorem ggX3_isNoMarch_X3_isNoStage : GoodIn wsX3_isNoMarch wsX3_isNoStage := goodIn_r _ [14] (by decide +kernel) (by decide +kernel)
set_option maxRecDepth 20000 in
theorem gX3_isNoMarch_X3_isNoStage : GoodIn wsX3_isNoMarch (va_wsS RX3 156 yX3_isNoStage wsX3_isNoStage) := goodIn_app (goodIn_of _ (by decide +kernel)) ggX3_isNoMarch_X3_isNoStage
theorem dX3_isNoMarch_0 : decode cX3_isNoMarch 0 = .ok (.aload_n 0, 1) := by decide +kernel
theorem dX3_isNoMarch_1 : decode cX3_isNoMarch 1 = .ok (.iload_n 1, 1) := by decide +kernel
theorem dX3_isNoMarch_2 : decode cX3_isNoMarch 2 = .ok (.invokevirtual 153, 3) := by decide +kernel
theorem dX3_isNoMarch_5 : decode cX3_isNoMarch 5 = .ok (.ifCond .ne 20, 3) := by decide +kernel
theorem dX3_isNoMarch_8 : decode cX3_isNoMarch 8 = .ok (.iload_n 2, 1) := by decide +kernel
theorem dX3_isNoMarch_9 : decode cX3_isNoMarch 9 = .ok (.invokestatic 156, 3) := by decide +kernel
theorem dX3_isNoMarch_12 : decode cX3_isNoMarch 12 = .ok (.ifCond .ne 13, 3) := by decide +kernel
theorem dX3_isNoMarch_15 : decode cX3_isNoMarch 15 = .ok (.iload_n 3, 1) := by decide +kernel
theorem dX3_isNoMarch_16 : decode cX3_isNoMarch 16 = .ok (.ifCond .lt 9, 3) := by decide +kernel
theorem dX3_isNoMarch_19 : decode cX3_isNoMarch 19 = .ok (.iload_n 3, 1) := by decide +kernel
theorem dX3_isNoMarch_20 : decode cX3_isNoMarch 20 = .ok (.bipush 40, 2) := by decide +kernel
theorem dX3_isNoMarch_22 : decode cX3_isNoMarch 22 = .ok (.if_icmp .le 7, 3) := by decide +kernel
theorem dX3_isNoMarch_25 : decode cX3_isNoMarch 25 = .ok (.iconst 1, 1) := by decide +kernel
theorem dX3_isNoMarch_26 : decode cX3_isNoMarch 26 = .ok (.goto 4, 3) := by decide +kernel
theorem dX3_isNoMarch_29 : decode cX3_isNoMarch 29 = .ok (.iconst 0, 1) := by decide +kernel
theorem dX3_isNoMarch_30 : decode cX3_isNoMarch 30 = .ok (.ireturn, 1) := by decide +kernel
theorem dX3_anyIsDead_0 : decode cX3_anyIsDead 0 = .ok (.iload_n 1, 1) := by decide +kernel
theorem dX3_anyIsDead_1 : decode cX3_anyIsDead 1 = .ok (.aload_n 0, 1) := by decide +kernel
theorem dX3_anyIsDead_2 : decode cX3_anyIsDead 2 = .ok (.getfield 26, 3) := by decide +kernel
theorem dX3_anyIsDead_5 : decode cX3_anyIsDead 5 = .ok (.getfield 100, 3) := by decide +kernel
theorem dX3_anyIsDead_8 : decode cX3_anyIsDead 8 = .ok (.iconst (-1), 1) := by decide +kernel
theorem dX3_anyIsDead_9 : decode cX3_anyIsDead 9 = .ok (.ixor, 1) := by decide +kernel
theorem dX3_anyIsDead_10 : decode cX3_anyIsDead 10 = .ok (.iand, 1) := by decide +kernel
theorem dX3_anyIsDead_11 : decode cX3_anyIsDead 11 = .ok (.ifCond .eq 7, 3) := by decide +kernel
theorem dX3_anyIsDead_14 : decode cX3_anyIsDead 14 = .ok (.iconst 1, 1) := by decide +kernel
theorem dX3_anyIsDead_15 : decode cX3_anyIsDead 15 = .ok (.goto 4, 3) := by decide +kernel
theorem dX3_anyIsDead_18 : decode cX3_anyIsDead 18 = .ok (.iconst 0, 1) := by decide +kernel
theorem dX3_anyIsDead_19 : decode cX3_anyIsDead 19 = .ok (.ireturn, 1) := by decide +kernel
theorem dX3_isNoStage_0 : decode cX3_isNoStage 0 = .ok (.iload_n 0, 1) := by decide +kernel
theorem dX3_isNoStage_1 : decode cX3_isNoStage 1 = .ok (.iconst 1, 1) := by decide +kernel
theorem dX3_isNoStage_2 : decode cX3_isNoStage 2 = .ok (.if_icmp .lt 9, 3) := by decide +kernel
theorem dX3_isNoStage_5 : decode cX3_isNoStage 5 = .ok (.iload_n 0, 1) := by decide +kernel
theorem dX3_isNoStage_6 : decode cX3_isNoStage 6 = .ok (.bipush 6, 2) := by decide +kernel
theorem dX3_isNoStage_8 : decode cX3_isNoStage 8 = .ok (.if_icmp .le 7, 3) := by decide +kernel
theorem dX3_isNoStage_11 : decode cX3_isNoStage 11 = .ok (.iconst 1, 1) := by decide +kernel
theorem dX3_isNoStage_12 : decode cX3_isNoStage 12 = .ok (.goto 4, 3) := by decide +kernel
theorem dX3_isNoStage_15 : decode cX3_isNoStage 15 = .ok (.iconst 0, 1) := by decide +kernel
theorem dX3_isNoStage_16 : decode cX3_isNoStage 16 = .ok (.ireturn, 1) := by decide +kernel
set_option maxRecDepth 20000 in
theorem ggX3_mostFoodOf_X1_together : GoodIn wsX3_mostFoodOf wsX1_together := goodIn_r _ [10, 11, 12, 13, 14, 15, 24, 25, 26, 27, 28, 29, 30, 31] (by decide +kernel) (by decide +kernel)
set_option maxRecDepth 20000 in
theorem gX3_mostFoodOf_X1_together_n192 : GoodIn wsX3_mostFoodOf (wsX1_together) := ggX3_mostFoodOf_X1_together
theorem dX3_mostFoodOf_0 : decode cX3_mostFoodOf 0 = .ok (.bipush 40, 2) := by decide +kernel
theorem dX3_mostFoodOf_2 : decode cX3_mostFoodOf 2 = .ok (.aload_n 0, 1) := by decide +kernel
theorem dX3_mostFoodOf_3 : decode cX3_mostFoodOf 3 = .ok (.getfield 19, 3) := by decide +kernel
theorem dX3_mostFoodOf_6 : decode cX3_mostFoodOf 6 = .ok (.iload_n 1, 1) := by decide +kernel
theorem dX3_mostFoodOf_7 : decode cX3_mostFoodOf 7 = .ok (.getstatic 91, 3) := by decide +kernel
theorem dX3_mostFoodOf_10 : decode cX3_mostFoodOf 10 = .ok (.invokevirtual 192, 3) := by decide +kernel
theorem dX3_mostFoodOf_13 : decode cX3_mostFoodOf 13 = .ok (.invokestatic 209, 3) := by decide +kernel
theorem dX3_mostFoodOf_16 : decode cX3_mostFoodOf 16 = .ok (.ireturn, 1) := by decide +kernel
set_option maxRecDepth 20000 in
theorem ggX3_leastFood_X3_mostFoodOf : GoodIn wsX3_leastFood wsX3_mostFoodOf := goodIn_r _ [6, 1, 7, 8, 9, 10, 11, 12, 13, 14, 15, 16, 17, 18, 5, 19, 66, 67, 68, 69, 70, 71, 72, 73, 74, 75, 76, 77, 78, 79, 80, 81] (by decide +kernel) (by decide +kernel)
set_option maxRecDepth 20000 in
theorem gX3_leastFood_X3_mostFoodOf : GoodIn wsX3_leastFood (wsV RX3 214 RX3 yX3_mostFoodOf wsX3_mostFoodOf) := goodIn_app (goodIn_of _ (by decide +kernel)) ggX3_leastFood_X3_mostFoodOf
set_option maxRecDepth 20000 in
theorem ggX3_leastFood_X1_setCairns : GoodIn wsX3_leastFood wsX1_setCairns := goodIn_r _ [22, 23, 24, 5, 25, 26, 18, 19, 27, 28, 29, 74, 75, 76, 77, 78, 79, 80, 81] (by decide +kernel) (by decide +kernel)
set_option maxRecDepth 20000 in
theorem gX3_leastFood_X1_setCairns_n124 : GoodIn wsX3_leastFood (wsX1_setCairns) := ggX3_leastFood_X1_setCairns
set_option maxRecDepth 20000 in
theorem ggX3_leastFood_X1_go : GoodIn wsX3_leastFood wsX1_go := goodIn_r _ [32, 33, 34, 35, 36, 37, 38, 13, 39, 40, 41, 9, 10, 11, 42, 43, 12, 14, 15, 16, 17, 18, 5, 19, 44, 45, 46, 47, 48, 49, 50, 51, 52, 53, 54, 55, 56, 57, 58, 59, 60, 61, 62, 63, 64, 65, 23, 28, 29, 74, 75, 76, 77, 78, 79, 80, 81] (by decide +kernel) (by decide +kernel)
set_option maxRecDepth 20000 in
theorem gX3_leastFood_X1_go_n128 : GoodIn wsX3_leastFood (wsX1_go) := ggX3_leastFood_X1_go
theorem dX3_leastFood_0 : decode cX3_leastFood 0 = .ok (.aload_n 0, 1) := by decide +kernel
theorem dX3_leastFood_1 : decode cX3_leastFood 1 = .ok (.iload_n 1, 1) := by decide +kernel
theorem dX3_leastFood_2 : decode cX3_leastFood 2 = .ok (.invokevirtual 214, 3) := by decide +kernel
theorem dX3_leastFood_5 : decode cX3_leastFood 5 = .ok (.istore 4, 2) := by decide +kernel
theorem dX3_leastFood_7 : decode cX3_leastFood 7 = .ok (.iconst 0, 1) := by decide +kernel
theorem dX3_leastFood_8 : decode cX3_leastFood 8 = .ok (.istore 5, 2) := by decide +kernel
theorem dX3_leastFood_10 : decode cX3_leastFood 10 = .ok (.iload 5, 2) := by decide +kernel
theorem dX3_leastFood_12 : decode cX3_leastFood 12 = .ok (.iload 4, 2) := by decide +kernel
theorem dX3_leastFood_14 : decode cX3_leastFood 14 = .ok (.if_icmp .gt 34, 3) := by decide +kernel
theorem dX3_leastFood_17 : decode cX3_leastFood 17 = .ok (.aload_n 0, 1) := by decide +kernel
theorem dX3_leastFood_18 : decode cX3_leastFood 18 = .ok (.getfield 19, 3) := by decide +kernel
theorem dX3_leastFood_21 : decode cX3_leastFood 21 = .ok (.aload_n 3, 1) := by decide +kernel
theorem dX3_leastFood_22 : decode cX3_leastFood 22 = .ok (.invokevirtual 124, 3) := by decide +kernel
theorem dX3_leastFood_25 : decode cX3_leastFood 25 = .ok (.aload_n 0, 1) := by decide +kernel
theorem dX3_leastFood_26 : decode cX3_leastFood 26 = .ok (.getfield 19, 3) := by decide +kernel
theorem dX3_leastFood_29 : decode cX3_leastFood 29 = .ok (.iload_n 1, 1) := by decide +kernel
theorem dX3_leastFood_30 : decode cX3_leastFood 30 = .ok (.iload_n 2, 1) := by decide +kernel
theorem dX3_leastFood_31 : decode cX3_leastFood 31 = .ok (.iload 5, 2) := by decide +kernel
theorem dX3_leastFood_33 : decode cX3_leastFood 33 = .ok (.invokevirtual 128, 3) := by decide +kernel
theorem dX3_leastFood_36 : decode cX3_leastFood 36 = .ok (.ifCond .eq 6, 3) := by decide +kernel
theorem dX3_leastFood_39 : decode cX3_leastFood 39 = .ok (.iload 5, 2) := by decide +kernel
theorem dX3_leastFood_41 : decode cX3_leastFood 41 = .ok (.ireturn, 1) := by decide +kernel
theorem dX3_leastFood_42 : decode cX3_leastFood 42 = .ok (.iinc 5 1, 3) := by decide +kernel
theorem dX3_leastFood_45 : decode cX3_leastFood 45 = .ok (.goto (-35), 3) := by decide +kernel
theorem dX3_leastFood_48 : decode cX3_leastFood 48 = .ok (.iconst (-1), 1) := by decide +kernel
theorem dX3_leastFood_49 : decode cX3_leastFood 49 = .ok (.ireturn, 1) := by decide +kernel
set_option maxRecDepth 20000 in
theorem ggX3_farthest_X3_leastFood : GoodIn wsX3_farthest wsX3_leastFood := goodIn_r _ [5, 6, 7, 8, 9, 4, 10, 11, 12, 13, 14, 15, 16, 17, 18, 19, 20, 21, 22, 23, 24, 25, 26, 27, 28, 29, 30, 31, 32, 33, 34, 35, 36, 37, 38, 39, 40, 41, 42, 43, 44, 45, 46, 47, 48, 49, 50, 51, 52, 53, 54, 55, 56, 57, 58, 59, 60, 61, 62, 63, 64, 65, 66, 67, 68, 69, 70, 71, 72, 73, 74, 75, 76, 77, 78, 79, 80, 81, 82, 83, 84, 85] (by decide +kernel) (by decide +kernel)
set_option maxRecDepth 20000 in
theorem gX3_farthest_X3_leastFood : GoodIn wsX3_farthest (wsV RX3 159 RX3 yX3_leastFood wsX3_leastFood) := goodIn_app (goodIn_of _ (by decide +kernel)) ggX3_farthest_X3_leastFood
theorem dX3_farthest_0 : decode cX3_farthest 0 = .ok (.bipush 6, 2) := by decide +kernel
theorem dX3_farthest_2 : decode cX3_farthest 2 = .ok (.istore_n 3, 1) := by decide +kernel
theorem dX3_farthest_3 : decode cX3_farthest 3 = .ok (.iload_n 3, 1) := by decide +kernel
theorem dX3_farthest_4 : decode cX3_farthest 4 = .ok (.iconst 1, 1) := by decide +kernel
theorem dX3_farthest_5 : decode cX3_farthest 5 = .ok (.if_icmp .lt 26, 3) := by decide +kernel
theorem dX3_farthest_8 : decode cX3_farthest 8 = .ok (.iload_n 1, 1) := by decide +kernel
theorem dX3_farthest_9 : decode cX3_farthest 9 = .ok (.ifCond .eq 16, 3) := by decide +kernel
theorem dX3_farthest_12 : decode cX3_farthest 12 = .ok (.aload_n 0, 1) := by decide +kernel
theorem dX3_farthest_13 : decode cX3_farthest 13 = .ok (.iload_n 1, 1) := by decide +kernel
theorem dX3_farthest_14 : decode cX3_farthest 14 = .ok (.iload_n 3, 1) := by decide +kernel
theorem dX3_farthest_15 : decode cX3_farthest 15 = .ok (.aload_n 2, 1) := by decide +kernel
theorem dX3_farthest_16 : decode cX3_farthest 16 = .ok (.invokevirtual 159, 3) := by decide +kernel
theorem dX3_farthest_19 : decode cX3_farthest 19 = .ok (.iconst (-1), 1) := by decide +kernel
theorem dX3_farthest_20 : decode cX3_farthest 20 = .ok (.if_icmp .eq 5, 3) := by decide +kernel
theorem dX3_farthest_23 : decode cX3_farthest 23 = .ok (.iload_n 3, 1) := by decide +kernel
theorem dX3_farthest_24 : decode cX3_farthest 24 = .ok (.ireturn, 1) := by decide +kernel
theorem dX3_farthest_25 : decode cX3_farthest 25 = .ok (.iinc 3 (-1), 3) := by decide +kernel
theorem dX3_farthest_28 : decode cX3_farthest 28 = .ok (.goto (-25), 3) := by decide +kernel
theorem dX3_farthest_31 : decode cX3_farthest 31 = .ok (.iconst 0, 1) := by decide +kernel
theorem dX3_farthest_32 : decode cX3_farthest 32 = .ok (.ireturn, 1) := by decide +kernel
set_option maxRecDepth 20000 in
theorem ggX3_fewest_X1_all : GoodIn wsX3_fewest wsX1_all := goodIn_r _ [6, 7, 102, 103, 104, 105, 106, 107, 108, 109] (by decide +kernel) (by decide +kernel)
set_option maxRecDepth 20000 in
theorem gX3_fewest_X1_all_n70 : GoodIn wsX3_fewest (wsX1_all) := ggX3_fewest_X1_all
set_option maxRecDepth 20000 in
theorem ggX3_fewest_X3_anyIsDead : GoodIn wsX3_fewest wsX3_anyIsDead := goodIn_r _ [12, 2, 85, 86, 87, 88, 89, 90, 91, 92, 93, 94, 95, 96, 97, 98, 99, 100, 101] (by decide +kernel) (by decide +kernel)
set_option maxRecDepth 20000 in
theorem gX3_fewest_X3_anyIsDead : GoodIn wsX3_fewest (wsV RX3 121 RX3 yX3_anyIsDead wsX3_anyIsDead) := goodIn_app (goodIn_of _ (by decide +kernel)) ggX3_fewest_X3_anyIsDead
set_option maxRecDepth 20000 in
theorem ggX3_fewest_J6_bitCount_0f7a4 : GoodIn wsX3_fewest wsJ6_bitCount_0f7a4 := goodIn_r _ [16, 17, 18, 19] (by decide +kernel) (by decide +kernel)
set_option maxRecDepth 20000 in
theorem gX3_fewest_J6_bitCount_0f7a4 : GoodIn wsX3_fewest (va_wsS RX3 187 yJ6_bitCount_0f7a4 wsJ6_bitCount_0f7a4) := goodIn_app (goodIn_of _ (by decide +kernel)) ggX3_fewest_J6_bitCount_0f7a4
set_option maxRecDepth 20000 in
theorem ggX3_fewest_X3_leastFood : GoodIn wsX3_fewest wsX3_leastFood := goodIn_r _ [23, 1, 24, 25, 26, 11, 27, 28, 29, 30, 31, 32, 33, 4, 34, 35, 7, 36, 37, 38, 39, 40, 41, 42, 43, 44, 45, 46, 47, 48, 49, 50, 51, 52, 53, 54, 55, 56, 57, 58, 59, 60, 61, 62, 63, 64, 65, 66, 67, 68, 69, 70, 71, 72, 73, 74, 75, 76, 77, 78, 79, 80, 81, 82, 83, 84, 85, 86, 87, 88, 89, 90, 91, 92, 102, 103, 104, 105, 106, 107, 108, 109] (by decide +kernel) (by decide +kernel)
set_option maxRecDepth 20000 in
theorem gX3_fewest_X3_leastFood : GoodIn wsX3_fewest (wsV RX3 159 RX3 yX3_leastFood wsX3_leastFood) := goodIn_app (goodIn_of _ (by decide +kernel)) ggX3_fewest_X3_leastFood
theorem dX3_fewest_0 : decode cX3_fewest 0 = .ok (.iconst (-1), 1) := by decide +kernel
theorem dX3_fewest_1 : decode cX3_fewest 1 = .ok (.istore_n 2, 1) := by decide +kernel
theorem dX3_fewest_2 : decode cX3_fewest 2 = .ok (.bipush 7, 2) := by decide +kernel
theorem dX3_fewest_4 : decode cX3_fewest 4 = .ok (.istore_n 3, 1) := by decide +kernel
theorem dX3_fewest_5 : decode cX3_fewest 5 = .ok (.iconst 1, 1) := by decide +kernel
theorem dX3_fewest_6 : decode cX3_fewest 6 = .ok (.istore 4, 2) := by decide +kernel
theorem dX3_fewest_8 : decode cX3_fewest 8 = .ok (.iload 4, 2) := by decide +kernel
theorem dX3_fewest_10 : decode cX3_fewest 10 = .ok (.aload_n 0, 1) := by decide +kernel
theorem dX3_fewest_11 : decode cX3_fewest 11 = .ok (.getfield 19, 3) := by decide +kernel
theorem dX3_fewest_14 : decode cX3_fewest 14 = .ok (.invokevirtual 70, 3) := by decide +kernel
theorem dX3_fewest_17 : decode cX3_fewest 17 = .ok (.if_icmp .gt 66, 3) := by decide +kernel
theorem dX3_fewest_20 : decode cX3_fewest 20 = .ok (.aload_n 0, 1) := by decide +kernel
theorem dX3_fewest_21 : decode cX3_fewest 21 = .ok (.iload 4, 2) := by decide +kernel
theorem dX3_fewest_23 : decode cX3_fewest 23 = .ok (.invokevirtual 121, 3) := by decide +kernel
theorem dX3_fewest_26 : decode cX3_fewest 26 = .ok (.ifCond .ne 16, 3) := by decide +kernel
theorem dX3_fewest_29 : decode cX3_fewest 29 = .ok (.iload 4, 2) := by decide +kernel
theorem dX3_fewest_31 : decode cX3_fewest 31 = .ok (.invokestatic 187, 3) := by decide +kernel
theorem dX3_fewest_34 : decode cX3_fewest 34 = .ok (.iload_n 3, 1) := by decide +kernel
theorem dX3_fewest_35 : decode cX3_fewest 35 = .ok (.if_icmp .ge 7, 3) := by decide +kernel
theorem dX3_fewest_38 : decode cX3_fewest 38 = .ok (.iconst 1, 1) := by decide +kernel
theorem dX3_fewest_39 : decode cX3_fewest 39 = .ok (.goto 4, 3) := by decide +kernel
theorem dX3_fewest_42 : decode cX3_fewest 42 = .ok (.iconst 0, 1) := by decide +kernel
theorem dX3_fewest_43 : decode cX3_fewest 43 = .ok (.istore 5, 2) := by decide +kernel
theorem dX3_fewest_45 : decode cX3_fewest 45 = .ok (.iload 5, 2) := by decide +kernel
theorem dX3_fewest_47 : decode cX3_fewest 47 = .ok (.ifCond .eq 30, 3) := by decide +kernel
theorem dX3_fewest_50 : decode cX3_fewest 50 = .ok (.aload_n 0, 1) := by decide +kernel
theorem dX3_fewest_51 : decode cX3_fewest 51 = .ok (.iload 4, 2) := by decide +kernel
theorem dX3_fewest_53 : decode cX3_fewest 53 = .ok (.iload_n 1, 1) := by decide +kernel
theorem dX3_fewest_54 : decode cX3_fewest 54 = .ok (.aload_n 0, 1) := by decide +kernel
theorem dX3_fewest_55 : decode cX3_fewest 55 = .ok (.getfield 26, 3) := by decide +kernel
theorem dX3_fewest_58 : decode cX3_fewest 58 = .ok (.getfield 77, 3) := by decide +kernel
theorem dX3_fewest_61 : decode cX3_fewest 61 = .ok (.invokevirtual 159, 3) := by decide +kernel
theorem dX3_fewest_64 : decode cX3_fewest 64 = .ok (.iconst (-1), 1) := by decide +kernel
theorem dX3_fewest_65 : decode cX3_fewest 65 = .ok (.if_icmp .eq 12, 3) := by decide +kernel
theorem dX3_fewest_68 : decode cX3_fewest 68 = .ok (.iload 4, 2) := by decide +kernel
theorem dX3_fewest_70 : decode cX3_fewest 70 = .ok (.istore_n 2, 1) := by decide +kernel
theorem dX3_fewest_71 : decode cX3_fewest 71 = .ok (.iload 4, 2) := by decide +kernel
theorem dX3_fewest_73 : decode cX3_fewest 73 = .ok (.invokestatic 187, 3) := by decide +kernel
theorem dX3_fewest_76 : decode cX3_fewest 76 = .ok (.istore_n 3, 1) := by decide +kernel
theorem dX3_fewest_77 : decode cX3_fewest 77 = .ok (.iinc 4 1, 3) := by decide +kernel
theorem dX3_fewest_80 : decode cX3_fewest 80 = .ok (.goto (-72), 3) := by decide +kernel
theorem dX3_fewest_83 : decode cX3_fewest 83 = .ok (.iload_n 2, 1) := by decide +kernel
theorem dX3_fewest_84 : decode cX3_fewest 84 = .ok (.ireturn, 1) := by decide +kernel
set_option maxRecDepth 20000 in
theorem ggX3_amountsAt_X3_isAllSo : GoodIn wsX3_amountsAt wsX3_isAllSo := goodIn_r _ [5, 6, 7, 8, 9, 10, 11, 12, 13, 4, 14, 15, 16, 17, 18, 19, 20, 21, 22, 23, 24, 25, 26, 27, 28, 29, 30, 31, 32, 33, 34, 35, 36, 37, 38, 39, 40, 41, 42, 43, 44, 45, 46, 47, 48, 49, 50, 51, 52, 53, 54, 55, 56, 57, 58, 59, 60, 61, 62, 63, 64, 65, 66, 67, 68, 69, 70, 71, 72, 73, 74, 75, 76, 77, 78, 79, 80, 81, 82, 83, 84, 85, 86, 87, 88, 89] (by decide +kernel) (by decide +kernel)
set_option maxRecDepth 20000 in
theorem gX3_amountsAt_X3_isAllSo : GoodIn wsX3_amountsAt (wsV RX3 217 RX3 yX3_isAllSo wsX3_isAllSo) := goodIn_app (goodIn_of _ (by decide +kernel)) ggX3_amountsAt_X3_isAllSo
theorem dX3_amountsAt_0 : decode cX3_amountsAt 0 = .ok (.iconst 0, 1) := by decide +kernel
theorem dX3_amountsAt_1 : decode cX3_amountsAt 1 = .ok (.istore_n 2, 1) := by decide +kernel
theorem dX3_amountsAt_2 : decode cX3_amountsAt 2 = .ok (.iconst 0, 1) := by decide +kernel
theorem dX3_amountsAt_3 : decode cX3_amountsAt 3 = .ok (.istore_n 3, 1) := by decide +kernel
theorem dX3_amountsAt_4 : decode cX3_amountsAt 4 = .ok (.iload_n 3, 1) := by decide +kernel
theorem dX3_amountsAt_5 : decode cX3_amountsAt 5 = .ok (.bipush 9, 2) := by decide +kernel
theorem dX3_amountsAt_7 : decode cX3_amountsAt 7 = .ok (.if_icmp .gt 24, 3) := by decide +kernel
theorem dX3_amountsAt_10 : decode cX3_amountsAt 10 = .ok (.aload_n 0, 1) := by decide +kernel
theorem dX3_amountsAt_11 : decode cX3_amountsAt 11 = .ok (.iload_n 1, 1) := by decide +kernel
theorem dX3_amountsAt_12 : decode cX3_amountsAt 12 = .ok (.iload_n 3, 1) := by decide +kernel
theorem dX3_amountsAt_13 : decode cX3_amountsAt 13 = .ok (.invokevirtual 217, 3) := by decide +kernel
theorem dX3_amountsAt_16 : decode cX3_amountsAt 16 = .ok (.ifCond .eq 9, 3) := by decide +kernel
theorem dX3_amountsAt_19 : decode cX3_amountsAt 19 = .ok (.iload_n 2, 1) := by decide +kernel
theorem dX3_amountsAt_20 : decode cX3_amountsAt 20 = .ok (.iconst 1, 1) := by decide +kernel
theorem dX3_amountsAt_21 : decode cX3_amountsAt 21 = .ok (.iload_n 3, 1) := by decide +kernel
theorem dX3_amountsAt_22 : decode cX3_amountsAt 22 = .ok (.ishl, 1) := by decide +kernel
theorem dX3_amountsAt_23 : decode cX3_amountsAt 23 = .ok (.ior, 1) := by decide +kernel
theorem dX3_amountsAt_24 : decode cX3_amountsAt 24 = .ok (.istore_n 2, 1) := by decide +kernel
theorem dX3_amountsAt_25 : decode cX3_amountsAt 25 = .ok (.iinc 3 1, 3) := by decide +kernel
theorem dX3_amountsAt_28 : decode cX3_amountsAt 28 = .ok (.goto (-24), 3) := by decide +kernel
theorem dX3_amountsAt_31 : decode cX3_amountsAt 31 = .ok (.iload_n 2, 1) := by decide +kernel
theorem dX3_amountsAt_32 : decode cX3_amountsAt 32 = .ok (.ireturn, 1) := by decide +kernel
set_option maxRecDepth 20000 in
theorem ggX3_isAllSo_X1_setCairns : GoodIn wsX3_isAllSo wsX1_setCairns := goodIn_r _ [6, 7, 8, 9, 10, 11, 12, 13, 14, 15, 16, 78, 79, 80, 81, 82, 83, 84, 85] (by decide +kernel) (by decide +kernel)
set_option maxRecDepth 20000 in
theorem gX3_isAllSo_X1_setCairns_n124 : GoodIn wsX3_isAllSo (wsX1_setCairns) := ggX3_isAllSo_X1_setCairns
set_option maxRecDepth 20000 in
theorem ggX3_isAllSo_X3_put : GoodIn wsX3_isAllSo wsX3_put := goodIn_r _ [16] (by decide +kernel) (by decide +kernel)
set_option maxRecDepth 20000 in
theorem gX3_isAllSo_X3_put : GoodIn wsX3_isAllSo (va_wsS RX3 66 yX3_put wsX3_put) := goodIn_app (goodIn_of _ (by decide +kernel)) ggX3_isAllSo_X3_put
set_option maxRecDepth 20000 in
theorem ggX3_isAllSo_X3_at : GoodIn wsX3_isAllSo wsX3_at := goodIn_r _ [13] (by decide +kernel) (by decide +kernel)
set_option maxRecDepth 20000 in
theorem gX3_isAllSo_X3_at : GoodIn wsX3_isAllSo (va_wsS RX3 87 yX3_at wsX3_at) := goodIn_app (goodIn_of _ (by decide +kernel)) ggX3_isAllSo_X3_at
set_option maxRecDepth 20000 in
theorem ggX3_isAllSo_X1_go : GoodIn wsX3_isAllSo wsX1_go := goodIn_r _ [19, 20, 21, 22, 23, 24, 25, 4, 26, 27, 28, 29, 30, 31, 32, 33, 34, 35, 36, 37, 38, 12, 9, 13, 39, 40, 41, 42, 43, 44, 45, 46, 47, 48, 49, 50, 51, 52, 53, 54, 55, 56, 57, 58, 59, 60, 7, 15, 16, 78, 79, 80, 81, 82, 83, 84, 85] (by decide +kernel) (by decide +kernel)
set_option maxRecDepth 20000 in
theorem gX3_isAllSo_X1_go_n128 : GoodIn wsX3_isAllSo (wsX1_go) := ggX3_isAllSo_X1_go
theorem dX3_isAllSo_0 : decode cX3_isAllSo 0 = .ok (.iconst 0, 1) := by decide +kernel
theorem dX3_isAllSo_1 : decode cX3_isAllSo 1 = .ok (.istore_n 3, 1) := by decide +kernel
theorem dX3_isAllSo_2 : decode cX3_isAllSo 2 = .ok (.iload_n 3, 1) := by decide +kernel
theorem dX3_isAllSo_3 : decode cX3_isAllSo 3 = .ok (.aload_n 0, 1) := by decide +kernel
theorem dX3_isAllSo_4 : decode cX3_isAllSo 4 = .ok (.getfield 26, 3) := by decide +kernel
theorem dX3_isAllSo_7 : decode cX3_isAllSo 7 = .ok (.getfield 173, 3) := by decide +kernel
theorem dX3_isAllSo_10 : decode cX3_isAllSo 10 = .ok (.if_icmp .ge 110, 3) := by decide +kernel
theorem dX3_isAllSo_13 : decode cX3_isAllSo 13 = .ok (.aload_n 0, 1) := by decide +kernel
theorem dX3_isAllSo_14 : decode cX3_isAllSo 14 = .ok (.getfield 19, 3) := by decide +kernel
theorem dX3_isAllSo_17 : decode cX3_isAllSo 17 = .ok (.aload_n 0, 1) := by decide +kernel
theorem dX3_isAllSo_18 : decode cX3_isAllSo 18 = .ok (.getfield 26, 3) := by decide +kernel
theorem dX3_isAllSo_21 : decode cX3_isAllSo 21 = .ok (.getfield 77, 3) := by decide +kernel
theorem dX3_isAllSo_24 : decode cX3_isAllSo 24 = .ok (.invokevirtual 124, 3) := by decide +kernel
theorem dX3_isAllSo_27 : decode cX3_isAllSo 27 = .ok (.aload_n 0, 1) := by decide +kernel
theorem dX3_isAllSo_28 : decode cX3_isAllSo 28 = .ok (.getfield 19, 3) := by decide +kernel
theorem dX3_isAllSo_31 : decode cX3_isAllSo 31 = .ok (.getfield 132, 3) := by decide +kernel
theorem dX3_isAllSo_34 : decode cX3_isAllSo 34 = .ok (.iload_n 1, 1) := by decide +kernel
theorem dX3_isAllSo_35 : decode cX3_isAllSo 35 = .ok (.iconst 1, 1) := by decide +kernel
theorem dX3_isAllSo_36 : decode cX3_isAllSo 36 = .ok (.isub, 1) := by decide +kernel
theorem dX3_isAllSo_37 : decode cX3_isAllSo 37 = .ok (.iload_n 2, 1) := by decide +kernel
theorem dX3_isAllSo_38 : decode cX3_isAllSo 38 = .ok (.invokestatic 66, 3) := by decide +kernel
theorem dX3_isAllSo_41 : decode cX3_isAllSo 41 = .ok (.aload_n 0, 1) := by decide +kernel
theorem dX3_isAllSo_42 : decode cX3_isAllSo 42 = .ok (.getfield 26, 3) := by decide +kernel
theorem dX3_isAllSo_45 : decode cX3_isAllSo 45 = .ok (.getfield 220, 3) := by decide +kernel
theorem dX3_isAllSo_48 : decode cX3_isAllSo 48 = .ok (.iload_n 3, 1) := by decide +kernel
theorem dX3_isAllSo_49 : decode cX3_isAllSo 49 = .ok (.invokestatic 87, 3) := by decide +kernel
theorem dX3_isAllSo_52 : decode cX3_isAllSo 52 = .ok (.istore 4, 2) := by decide +kernel
theorem dX3_isAllSo_54 : decode cX3_isAllSo 54 = .ok (.aload_n 0, 1) := by decide +kernel
theorem dX3_isAllSo_55 : decode cX3_isAllSo 55 = .ok (.getfield 19, 3) := by decide +kernel
theorem dX3_isAllSo_58 : decode cX3_isAllSo 58 = .ok (.aload_n 0, 1) := by decide +kernel
theorem dX3_isAllSo_59 : decode cX3_isAllSo 59 = .ok (.getfield 26, 3) := by decide +kernel
theorem dX3_isAllSo_62 : decode cX3_isAllSo 62 = .ok (.getfield 223, 3) := by decide +kernel
theorem dX3_isAllSo_65 : decode cX3_isAllSo 65 = .ok (.iload_n 3, 1) := by decide +kernel
theorem dX3_isAllSo_66 : decode cX3_isAllSo 66 = .ok (.invokestatic 87, 3) := by decide +kernel
theorem dX3_isAllSo_69 : decode cX3_isAllSo 69 = .ok (.iload 4, 2) := by decide +kernel
theorem dX3_isAllSo_71 : decode cX3_isAllSo 71 = .ok (.aload_n 0, 1) := by decide +kernel
theorem dX3_isAllSo_72 : decode cX3_isAllSo 72 = .ok (.getfield 26, 3) := by decide +kernel
theorem dX3_isAllSo_75 : decode cX3_isAllSo 75 = .ok (.getfield 226, 3) := by decide +kernel
theorem dX3_isAllSo_78 : decode cX3_isAllSo 78 = .ok (.iload_n 3, 1) := by decide +kernel
theorem dX3_isAllSo_79 : decode cX3_isAllSo 79 = .ok (.invokestatic 87, 3) := by decide +kernel
theorem dX3_isAllSo_82 : decode cX3_isAllSo 82 = .ok (.invokevirtual 128, 3) := by decide +kernel
theorem dX3_isAllSo_85 : decode cX3_isAllSo 85 = .ok (.istore 5, 2) := by decide +kernel
theorem dX3_isAllSo_87 : decode cX3_isAllSo 87 = .ok (.iload 5, 2) := by decide +kernel
theorem dX3_isAllSo_89 : decode cX3_isAllSo 89 = .ok (.aload_n 0, 1) := by decide +kernel
theorem dX3_isAllSo_90 : decode cX3_isAllSo 90 = .ok (.getfield 26, 3) := by decide +kernel
theorem dX3_isAllSo_93 : decode cX3_isAllSo 93 = .ok (.getfield 229, 3) := by decide +kernel
theorem dX3_isAllSo_96 : decode cX3_isAllSo 96 = .ok (.iload_n 3, 1) := by decide +kernel
theorem dX3_isAllSo_97 : decode cX3_isAllSo 97 = .ok (.invokestatic 87, 3) := by decide +kernel
theorem dX3_isAllSo_100 : decode cX3_isAllSo 100 = .ok (.iconst 1, 1) := by decide +kernel
theorem dX3_isAllSo_101 : decode cX3_isAllSo 101 = .ok (.if_icmp .ne 7, 3) := by decide +kernel
theorem dX3_isAllSo_104 : decode cX3_isAllSo 104 = .ok (.iconst 1, 1) := by decide +kernel
theorem dX3_isAllSo_105 : decode cX3_isAllSo 105 = .ok (.goto 4, 3) := by decide +kernel
theorem dX3_isAllSo_108 : decode cX3_isAllSo 108 = .ok (.iconst 0, 1) := by decide +kernel
theorem dX3_isAllSo_109 : decode cX3_isAllSo 109 = .ok (.if_icmp .eq 5, 3) := by decide +kernel
theorem dX3_isAllSo_112 : decode cX3_isAllSo 112 = .ok (.iconst 0, 1) := by decide +kernel
theorem dX3_isAllSo_113 : decode cX3_isAllSo 113 = .ok (.ireturn, 1) := by decide +kernel
theorem dX3_isAllSo_114 : decode cX3_isAllSo 114 = .ok (.iinc 3 1, 3) := by decide +kernel
theorem dX3_isAllSo_117 : decode cX3_isAllSo 117 = .ok (.goto (-115), 3) := by decide +kernel
theorem dX3_isAllSo_120 : decode cX3_isAllSo 120 = .ok (.iconst 1, 1) := by decide +kernel
theorem dX3_isAllSo_121 : decode cX3_isAllSo 121 = .ok (.ireturn, 1) := by decide +kernel
set_option maxRecDepth 20000 in
theorem ggX3_bestTrial_J6_bitCount_0f7a4 : GoodIn wsX3_bestTrial wsJ6_bitCount_0f7a4 := goodIn_r _ [5, 6, 7, 8] (by decide +kernel) (by decide +kernel)
set_option maxRecDepth 20000 in
theorem gX3_bestTrial_J6_bitCount_0f7a4 : GoodIn wsX3_bestTrial (va_wsS RX3 187 yJ6_bitCount_0f7a4 wsJ6_bitCount_0f7a4) := goodIn_app (goodIn_of _ (by decide +kernel)) ggX3_bestTrial_J6_bitCount_0f7a4
set_option maxRecDepth 20000 in
theorem ggX3_bestTrial_X1_all : GoodIn wsX3_bestTrial wsX1_all := goodIn_r _ [12, 13, 92, 93, 94, 95, 96, 97, 98, 99] (by decide +kernel) (by decide +kernel)
set_option maxRecDepth 20000 in
theorem gX3_bestTrial_X1_all_n70 : GoodIn wsX3_bestTrial (wsX1_all) := ggX3_bestTrial_X1_all
set_option maxRecDepth 20000 in
theorem ggX3_bestTrial_X3_mostFoodOf : GoodIn wsX3_bestTrial wsX3_mostFoodOf := goodIn_r _ [18, 1, 19, 20, 21, 22, 23, 24, 10, 25, 26, 13, 27, 28, 17, 29, 84, 85, 86, 87, 88, 89, 90, 91, 92, 93, 94, 95, 96, 97, 98, 99] (by decide +kernel) (by decide +kernel)
set_option maxRecDepth 20000 in
theorem gX3_bestTrial_X3_mostFoodOf : GoodIn wsX3_bestTrial (wsV RX3 214 RX3 yX3_mostFoodOf wsX3_mostFoodOf) := goodIn_app (goodIn_of _ (by decide +kernel)) ggX3_bestTrial_X3_mostFoodOf
set_option maxRecDepth 20000 in
theorem ggX3_bestTrial_X3_leftAtWorst : GoodIn wsX3_bestTrial wsX3_leftAtWorst := goodIn_r _ [33, 1, 34, 35, 36, 22, 37, 38, 10, 39, 40, 41, 42, 17, 43, 44, 28, 29, 45, 46, 47, 9, 11, 12, 13, 48, 49, 50, 51, 52, 53, 54, 55, 56, 57, 58, 59, 21, 23, 60, 61, 24, 25, 26, 27, 62, 63, 64, 65, 66, 67, 68, 69, 70, 71, 72, 73, 74, 75, 76, 77, 78, 79, 80, 81, 82, 83, 2, 3, 4, 5, 6, 7, 8, 84, 85, 86, 87, 88, 89, 90, 91, 100, 101, 102, 103, 104, 105, 106, 107, 108, 92, 93, 94, 95, 96, 97, 98, 99] (by decide +kernel) (by decide +kernel)
set_option maxRecDepth 20000 in
theorem gX3_bestTrial_X3_leftAtWorst : GoodIn wsX3_bestTrial (wsV RX3 232 RX3 yX3_leftAtWorst wsX3_leftAtWorst) := goodIn_app (goodIn_of _ (by decide +kernel)) ggX3_bestTrial_X3_leftAtWorst
theorem dX3_bestTrial_0 : decode cX3_bestTrial 0 = .ok (.iconst (-1), 1) := by decide +kernel
theorem dX3_bestTrial_1 : decode cX3_bestTrial 1 = .ok (.istore_n 3, 1) := by decide +kernel
theorem dX3_bestTrial_2 : decode cX3_bestTrial 2 = .ok (.iload_n 2, 1) := by decide +kernel
theorem dX3_bestTrial_3 : decode cX3_bestTrial 3 = .ok (.invokestatic 187, 3) := by decide +kernel
theorem dX3_bestTrial_6 : decode cX3_bestTrial 6 = .ok (.iconst 1, 1) := by decide +kernel
theorem dX3_bestTrial_7 : decode cX3_bestTrial 7 = .ok (.iadd, 1) := by decide +kernel
theorem dX3_bestTrial_8 : decode cX3_bestTrial 8 = .ok (.istore 4, 2) := by decide +kernel
theorem dX3_bestTrial_10 : decode cX3_bestTrial 10 = .ok (.aload_n 0, 1) := by decide +kernel
theorem dX3_bestTrial_11 : decode cX3_bestTrial 11 = .ok (.aload_n 0, 1) := by decide +kernel
theorem dX3_bestTrial_12 : decode cX3_bestTrial 12 = .ok (.getfield 19, 3) := by decide +kernel
theorem dX3_bestTrial_15 : decode cX3_bestTrial 15 = .ok (.invokevirtual 70, 3) := by decide +kernel
theorem dX3_bestTrial_18 : decode cX3_bestTrial 18 = .ok (.invokevirtual 214, 3) := by decide +kernel
theorem dX3_bestTrial_21 : decode cX3_bestTrial 21 = .ok (.istore 5, 2) := by decide +kernel
theorem dX3_bestTrial_23 : decode cX3_bestTrial 23 = .ok (.iconst 0, 1) := by decide +kernel
theorem dX3_bestTrial_24 : decode cX3_bestTrial 24 = .ok (.istore 6, 2) := by decide +kernel
theorem dX3_bestTrial_26 : decode cX3_bestTrial 26 = .ok (.iload_n 2, 1) := by decide +kernel
theorem dX3_bestTrial_27 : decode cX3_bestTrial 27 = .ok (.ifCond .eq 40, 3) := by decide +kernel
theorem dX3_bestTrial_30 : decode cX3_bestTrial 30 = .ok (.iload 6, 2) := by decide +kernel
theorem dX3_bestTrial_32 : decode cX3_bestTrial 32 = .ok (.iload 5, 2) := by decide +kernel
theorem dX3_bestTrial_34 : decode cX3_bestTrial 34 = .ok (.if_icmp .gt 33, 3) := by decide +kernel
theorem dX3_bestTrial_37 : decode cX3_bestTrial 37 = .ok (.aload_n 0, 1) := by decide +kernel
theorem dX3_bestTrial_38 : decode cX3_bestTrial 38 = .ok (.iload_n 1, 1) := by decide +kernel
theorem dX3_bestTrial_39 : decode cX3_bestTrial 39 = .ok (.iload_n 2, 1) := by decide +kernel
theorem dX3_bestTrial_40 : decode cX3_bestTrial 40 = .ok (.iload 6, 2) := by decide +kernel
theorem dX3_bestTrial_42 : decode cX3_bestTrial 42 = .ok (.invokevirtual 232, 3) := by decide +kernel
theorem dX3_bestTrial_45 : decode cX3_bestTrial 45 = .ok (.istore 7, 2) := by decide +kernel
theorem dX3_bestTrial_47 : decode cX3_bestTrial 47 = .ok (.iload 7, 2) := by decide +kernel
theorem dX3_bestTrial_49 : decode cX3_bestTrial 49 = .ok (.iload 4, 2) := by decide +kernel
theorem dX3_bestTrial_51 : decode cX3_bestTrial 51 = .ok (.if_icmp .ge 10, 3) := by decide +kernel
theorem dX3_bestTrial_54 : decode cX3_bestTrial 54 = .ok (.iload 6, 2) := by decide +kernel
theorem dX3_bestTrial_56 : decode cX3_bestTrial 56 = .ok (.istore_n 3, 1) := by decide +kernel
theorem dX3_bestTrial_57 : decode cX3_bestTrial 57 = .ok (.iload 7, 2) := by decide +kernel
theorem dX3_bestTrial_59 : decode cX3_bestTrial 59 = .ok (.istore 4, 2) := by decide +kernel
theorem dX3_bestTrial_61 : decode cX3_bestTrial 61 = .ok (.iinc 6 1, 3) := by decide +kernel
theorem dX3_bestTrial_64 : decode cX3_bestTrial 64 = .ok (.goto (-38), 3) := by decide +kernel
theorem dX3_bestTrial_67 : decode cX3_bestTrial 67 = .ok (.iload_n 3, 1) := by decide +kernel
theorem dX3_bestTrial_68 : decode cX3_bestTrial 68 = .ok (.ireturn, 1) := by decide +kernel
set_option maxRecDepth 20000 in
theorem ggX3_leftAtWorst_X1_setCairns : GoodIn wsX3_leftAtWorst wsX1_setCairns := goodIn_r _ [10, 11, 12, 13, 14, 15, 16, 17, 18, 19, 20, 91, 92, 93, 94, 95, 96, 97, 98] (by decide +kernel) (by decide +kernel)
set_option maxRecDepth 20000 in
theorem gX3_leftAtWorst_X1_setCairns_n124 : GoodIn wsX3_leftAtWorst (wsX1_setCairns) := ggX3_leftAtWorst_X1_setCairns
set_option maxRecDepth 20000 in
theorem ggX3_leftAtWorst_X3_put : GoodIn wsX3_leftAtWorst wsX3_put := goodIn_r _ [20] (by decide +kernel) (by decide +kernel)
set_option maxRecDepth 20000 in
theorem gX3_leftAtWorst_X3_put : GoodIn wsX3_leftAtWorst (va_wsS RX3 66 yX3_put wsX3_put) := goodIn_app (goodIn_of _ (by decide +kernel)) ggX3_leftAtWorst_X3_put
set_option maxRecDepth 20000 in
theorem ggX3_leftAtWorst_X1_all : GoodIn wsX3_leftAtWorst wsX1_all := goodIn_r _ [23, 24, 91, 92, 93, 94, 95, 96, 97, 98] (by decide +kernel) (by decide +kernel)
set_option maxRecDepth 20000 in
theorem gX3_leftAtWorst_X1_all_n70 : GoodIn wsX3_leftAtWorst (wsX1_all) := ggX3_leftAtWorst_X1_all
set_option maxRecDepth 20000 in
theorem ggX3_leftAtWorst_X1_go : GoodIn wsX3_leftAtWorst wsX1_go := goodIn_r _ [27, 28, 29, 30, 31, 32, 33, 8, 34, 35, 36, 37, 5, 38, 39, 40, 41, 42, 43, 24, 44, 16, 13, 17, 45, 46, 47, 48, 49, 50, 51, 52, 53, 54, 55, 56, 57, 58, 59, 60, 61, 62, 63, 64, 65, 66, 11, 19, 20, 91, 92, 93, 94, 95, 96, 97, 98] (by decide +kernel) (by decide +kernel)
set_option maxRecDepth 20000 in
theorem gX3_leftAtWorst_X1_go_n128 : GoodIn wsX3_leftAtWorst (wsX1_go) := ggX3_leftAtWorst_X1_go
set_option maxRecDepth 20000 in
theorem ggX3_leftAtWorst_J6_bitCount_0f7a4 : GoodIn wsX3_leftAtWorst wsJ6_bitCount_0f7a4 := goodIn_r _ [70, 71, 72, 73] (by decide +kernel) (by decide +kernel)
set_option maxRecDepth 20000 in
theorem gX3_leftAtWorst_J6_bitCount_0f7a4 : GoodIn wsX3_leftAtWorst (va_wsS RX3 187 yJ6_bitCount_0f7a4 wsJ6_bitCount_0f7a4) := goodIn_app (goodIn_of _ (by decide +kernel)) ggX3_leftAtWorst_J6_bitCount_0f7a4
theorem dX3_leftAtWorst_0 : decode cX3_leftAtWorst 0 = .ok (.iconst 0, 1) := by decide +kernel
theorem dX3_leftAtWorst_1 : decode cX3_leftAtWorst 1 = .ok (.istore 4, 2) := by decide +kernel
theorem dX3_leftAtWorst_3 : decode cX3_leftAtWorst 3 = .ok (.iconst 0, 1) := by decide +kernel
theorem dX3_leftAtWorst_4 : decode cX3_leftAtWorst 4 = .ok (.istore 5, 2) := by decide +kernel
theorem dX3_leftAtWorst_6 : decode cX3_leftAtWorst 6 = .ok (.iload 5, 2) := by decide +kernel
theorem dX3_leftAtWorst_8 : decode cX3_leftAtWorst 8 = .ok (.bipush 9, 2) := by decide +kernel
theorem dX3_leftAtWorst_10 : decode cX3_leftAtWorst 10 = .ok (.if_icmp .gt 78, 3) := by decide +kernel
theorem dX3_leftAtWorst_13 : decode cX3_leftAtWorst 13 = .ok (.iload_n 2, 1) := by decide +kernel
theorem dX3_leftAtWorst_14 : decode cX3_leftAtWorst 14 = .ok (.iload 5, 2) := by decide +kernel
theorem dX3_leftAtWorst_16 : decode cX3_leftAtWorst 16 = .ok (.ishr, 1) := by decide +kernel
theorem dX3_leftAtWorst_17 : decode cX3_leftAtWorst 17 = .ok (.iconst 1, 1) := by decide +kernel
theorem dX3_leftAtWorst_18 : decode cX3_leftAtWorst 18 = .ok (.iand, 1) := by decide +kernel
theorem dX3_leftAtWorst_19 : decode cX3_leftAtWorst 19 = .ok (.iconst 1, 1) := by decide +kernel
theorem dX3_leftAtWorst_20 : decode cX3_leftAtWorst 20 = .ok (.if_icmp .ne 62, 3) := by decide +kernel
theorem dX3_leftAtWorst_23 : decode cX3_leftAtWorst 23 = .ok (.aload_n 0, 1) := by decide +kernel
theorem dX3_leftAtWorst_24 : decode cX3_leftAtWorst 24 = .ok (.getfield 19, 3) := by decide +kernel
theorem dX3_leftAtWorst_27 : decode cX3_leftAtWorst 27 = .ok (.aload_n 0, 1) := by decide +kernel
theorem dX3_leftAtWorst_28 : decode cX3_leftAtWorst 28 = .ok (.getfield 26, 3) := by decide +kernel
theorem dX3_leftAtWorst_31 : decode cX3_leftAtWorst 31 = .ok (.getfield 77, 3) := by decide +kernel
theorem dX3_leftAtWorst_34 : decode cX3_leftAtWorst 34 = .ok (.invokevirtual 124, 3) := by decide +kernel
theorem dX3_leftAtWorst_37 : decode cX3_leftAtWorst 37 = .ok (.aload_n 0, 1) := by decide +kernel
theorem dX3_leftAtWorst_38 : decode cX3_leftAtWorst 38 = .ok (.getfield 19, 3) := by decide +kernel
theorem dX3_leftAtWorst_41 : decode cX3_leftAtWorst 41 = .ok (.getfield 132, 3) := by decide +kernel
theorem dX3_leftAtWorst_44 : decode cX3_leftAtWorst 44 = .ok (.iload_n 1, 1) := by decide +kernel
theorem dX3_leftAtWorst_45 : decode cX3_leftAtWorst 45 = .ok (.iconst 1, 1) := by decide +kernel
theorem dX3_leftAtWorst_46 : decode cX3_leftAtWorst 46 = .ok (.isub, 1) := by decide +kernel
theorem dX3_leftAtWorst_47 : decode cX3_leftAtWorst 47 = .ok (.iload 5, 2) := by decide +kernel
theorem dX3_leftAtWorst_49 : decode cX3_leftAtWorst 49 = .ok (.invokestatic 66, 3) := by decide +kernel
theorem dX3_leftAtWorst_52 : decode cX3_leftAtWorst 52 = .ok (.iload 4, 2) := by decide +kernel
theorem dX3_leftAtWorst_54 : decode cX3_leftAtWorst 54 = .ok (.aload_n 0, 1) := by decide +kernel
theorem dX3_leftAtWorst_55 : decode cX3_leftAtWorst 55 = .ok (.getfield 19, 3) := by decide +kernel
theorem dX3_leftAtWorst_58 : decode cX3_leftAtWorst 58 = .ok (.aload_n 0, 1) := by decide +kernel
theorem dX3_leftAtWorst_59 : decode cX3_leftAtWorst 59 = .ok (.getfield 19, 3) := by decide +kernel
theorem dX3_leftAtWorst_62 : decode cX3_leftAtWorst 62 = .ok (.invokevirtual 70, 3) := by decide +kernel
theorem dX3_leftAtWorst_65 : decode cX3_leftAtWorst 65 = .ok (.bipush 6, 2) := by decide +kernel
theorem dX3_leftAtWorst_67 : decode cX3_leftAtWorst 67 = .ok (.iload_n 3, 1) := by decide +kernel
theorem dX3_leftAtWorst_68 : decode cX3_leftAtWorst 68 = .ok (.invokevirtual 128, 3) := by decide +kernel
theorem dX3_leftAtWorst_71 : decode cX3_leftAtWorst 71 = .ok (.ifCond .eq 7, 3) := by decide +kernel
theorem dX3_leftAtWorst_74 : decode cX3_leftAtWorst 74 = .ok (.iconst 1, 1) := by decide +kernel
theorem dX3_leftAtWorst_75 : decode cX3_leftAtWorst 75 = .ok (.goto 4, 3) := by decide +kernel
theorem dX3_leftAtWorst_78 : decode cX3_leftAtWorst 78 = .ok (.iconst 0, 1) := by decide +kernel
theorem dX3_leftAtWorst_79 : decode cX3_leftAtWorst 79 = .ok (.iadd, 1) := by decide +kernel
theorem dX3_leftAtWorst_80 : decode cX3_leftAtWorst 80 = .ok (.istore 4, 2) := by decide +kernel
theorem dX3_leftAtWorst_82 : decode cX3_leftAtWorst 82 = .ok (.iinc 5 1, 3) := by decide +kernel
theorem dX3_leftAtWorst_85 : decode cX3_leftAtWorst 85 = .ok (.goto (-79), 3) := by decide +kernel
theorem dX3_leftAtWorst_88 : decode cX3_leftAtWorst 88 = .ok (.iload 4, 2) := by decide +kernel
theorem dX3_leftAtWorst_90 : decode cX3_leftAtWorst 90 = .ok (.iload_n 2, 1) := by decide +kernel
theorem dX3_leftAtWorst_91 : decode cX3_leftAtWorst 91 = .ok (.invokestatic 187, 3) := by decide +kernel
theorem dX3_leftAtWorst_94 : decode cX3_leftAtWorst 94 = .ok (.iload 4, 2) := by decide +kernel
theorem dX3_leftAtWorst_96 : decode cX3_leftAtWorst 96 = .ok (.isub, 1) := by decide +kernel
theorem dX3_leftAtWorst_97 : decode cX3_leftAtWorst 97 = .ok (.invokestatic 236, 3) := by decide +kernel
theorem dX3_leftAtWorst_100 : decode cX3_leftAtWorst 100 = .ok (.ireturn, 1) := by decide +kernel
set_option maxRecDepth 20000 in
theorem ggX3_letCreep_X3_copy : GoodIn wsX3_letCreep wsX3_copy := goodIn_r _ [10, 11, 12, 9, 13, 14, 15, 16] (by decide +kernel) (by decide +kernel)
set_option maxRecDepth 20000 in
theorem gX3_letCreep_X3_copy : GoodIn wsX3_letCreep (va_wsS RX3 133 yX3_copy wsX3_copy) := goodIn_app (goodIn_of _ (by decide +kernel)) ggX3_letCreep_X3_copy
set_option maxRecDepth 20000 in
theorem ggX3_letCreep_X3_nextSeed : GoodIn wsX3_letCreep wsX3_nextSeed := goodIn_r _ [19, 20, 21] (by decide +kernel) (by decide +kernel)
set_option maxRecDepth 20000 in
theorem gX3_letCreep_X3_nextSeed : GoodIn wsX3_letCreep (va_wsS RX3 239 yX3_nextSeed wsX3_nextSeed) := goodIn_app (goodIn_of _ (by decide +kernel)) ggX3_letCreep_X3_nextSeed
set_option maxRecDepth 20000 in
theorem ggX3_letCreep_X3_at : GoodIn wsX3_letCreep wsX3_at := goodIn_r _ [13] (by decide +kernel) (by decide +kernel)
set_option maxRecDepth 20000 in
theorem gX3_letCreep_X3_at : GoodIn wsX3_letCreep (va_wsS RX3 87 yX3_at wsX3_at) := goodIn_app (goodIn_of _ (by decide +kernel)) ggX3_letCreep_X3_at
set_option maxRecDepth 20000 in
theorem ggX3_letCreep_X3_put : GoodIn wsX3_letCreep wsX3_put := goodIn_r _ [16] (by decide +kernel) (by decide +kernel)
set_option maxRecDepth 20000 in
theorem gX3_letCreep_X3_put : GoodIn wsX3_letCreep (va_wsS RX3 66 yX3_put wsX3_put) := goodIn_app (goodIn_of _ (by decide +kernel)) ggX3_letCreep_X3_put
theorem dX3_letCreep_0 : decode cX3_letCreep 0 = .ok (.aload_n 0, 1) := by decide +kernel
theorem dX3_letCreep_1 : decode cX3_letCreep 1 = .ok (.getfield 26, 3) := by decide +kernel
theorem dX3_letCreep_4 : decode cX3_letCreep 4 = .ok (.getfield 77, 3) := by decide +kernel
theorem dX3_letCreep_7 : decode cX3_letCreep 7 = .ok (.aload_n 0, 1) := by decide +kernel
theorem dX3_letCreep_8 : decode cX3_letCreep 8 = .ok (.getfield 33, 3) := by decide +kernel
theorem dX3_letCreep_11 : decode cX3_letCreep 11 = .ok (.invokestatic 133, 3) := by decide +kernel
theorem dX3_letCreep_14 : decode cX3_letCreep 14 = .ok (.iload_n 2, 1) := by decide +kernel
theorem dX3_letCreep_15 : decode cX3_letCreep 15 = .ok (.istore_n 3, 1) := by decide +kernel
theorem dX3_letCreep_16 : decode cX3_letCreep 16 = .ok (.iconst 0, 1) := by decide +kernel
theorem dX3_letCreep_17 : decode cX3_letCreep 17 = .ok (.istore 4, 2) := by decide +kernel
theorem dX3_letCreep_19 : decode cX3_letCreep 19 = .ok (.iload 4, 2) := by decide +kernel
theorem dX3_letCreep_21 : decode cX3_letCreep 21 = .ok (.iload_n 1, 1) := by decide +kernel
theorem dX3_letCreep_22 : decode cX3_letCreep 22 = .ok (.if_icmp .ge 62, 3) := by decide +kernel
theorem dX3_letCreep_25 : decode cX3_letCreep 25 = .ok (.iconst 0, 1) := by decide +kernel
theorem dX3_letCreep_26 : decode cX3_letCreep 26 = .ok (.istore 5, 2) := by decide +kernel
theorem dX3_letCreep_28 : decode cX3_letCreep 28 = .ok (.iload 5, 2) := by decide +kernel
theorem dX3_letCreep_30 : decode cX3_letCreep 30 = .ok (.iconst 5, 1) := by decide +kernel
theorem dX3_letCreep_31 : decode cX3_letCreep 31 = .ok (.if_icmp .ge 47, 3) := by decide +kernel
theorem dX3_letCreep_34 : decode cX3_letCreep 34 = .ok (.iload_n 3, 1) := by decide +kernel
theorem dX3_letCreep_35 : decode cX3_letCreep 35 = .ok (.invokestatic 239, 3) := by decide +kernel
theorem dX3_letCreep_38 : decode cX3_letCreep 38 = .ok (.istore_n 3, 1) := by decide +kernel
theorem dX3_letCreep_39 : decode cX3_letCreep 39 = .ok (.iload_n 3, 1) := by decide +kernel
theorem dX3_letCreep_40 : decode cX3_letCreep 40 = .ok (.bipush 16, 2) := by decide +kernel
theorem dX3_letCreep_42 : decode cX3_letCreep 42 = .ok (.ishr, 1) := by decide +kernel
theorem dX3_letCreep_43 : decode cX3_letCreep 43 = .ok (.iconst 3, 1) := by decide +kernel
theorem dX3_letCreep_44 : decode cX3_letCreep 44 = .ok (.irem, 1) := by decide +kernel
theorem dX3_letCreep_45 : decode cX3_letCreep 45 = .ok (.istore 6, 2) := by decide +kernel
theorem dX3_letCreep_47 : decode cX3_letCreep 47 = .ok (.aload_n 0, 1) := by decide +kernel
theorem dX3_letCreep_48 : decode cX3_letCreep 48 = .ok (.getfield 33, 3) := by decide +kernel
theorem dX3_letCreep_51 : decode cX3_letCreep 51 = .ok (.iload 5, 2) := by decide +kernel
theorem dX3_letCreep_53 : decode cX3_letCreep 53 = .ok (.iconst 0, 1) := by decide +kernel
theorem dX3_letCreep_54 : decode cX3_letCreep 54 = .ok (.aload_n 0, 1) := by decide +kernel
theorem dX3_letCreep_55 : decode cX3_letCreep 55 = .ok (.getfield 33, 3) := by decide +kernel
theorem dX3_letCreep_58 : decode cX3_letCreep 58 = .ok (.iload 5, 2) := by decide +kernel
theorem dX3_letCreep_60 : decode cX3_letCreep 60 = .ok (.invokestatic 87, 3) := by decide +kernel
theorem dX3_letCreep_63 : decode cX3_letCreep 63 = .ok (.iload 6, 2) := by decide +kernel
theorem dX3_letCreep_65 : decode cX3_letCreep 65 = .ok (.isub, 1) := by decide +kernel
theorem dX3_letCreep_66 : decode cX3_letCreep 66 = .ok (.invokestatic 236, 3) := by decide +kernel
theorem dX3_letCreep_69 : decode cX3_letCreep 69 = .ok (.invokestatic 66, 3) := by decide +kernel
theorem dX3_letCreep_72 : decode cX3_letCreep 72 = .ok (.iinc 5 1, 3) := by decide +kernel
theorem dX3_letCreep_75 : decode cX3_letCreep 75 = .ok (.goto (-47), 3) := by decide +kernel
theorem dX3_letCreep_78 : decode cX3_letCreep 78 = .ok (.iinc 4 1, 3) := by decide +kernel
theorem dX3_letCreep_81 : decode cX3_letCreep 81 = .ok (.goto (-62), 3) := by decide +kernel
theorem dX3_letCreep_84 : decode cX3_letCreep 84 = .ok (.iload_n 3, 1) := by decide +kernel
theorem dX3_letCreep_85 : decode cX3_letCreep 85 = .ok (.ireturn, 1) := by decide +kernel
theorem dX3_nextSeed_0 : decode cX3_nextSeed 0 = .ok (.ldc 242, 2) := by decide +kernel
theorem dX3_nextSeed_2 : decode cX3_nextSeed 2 = .ok (.iload_n 0, 1) := by decide +kernel
theorem dX3_nextSeed_3 : decode cX3_nextSeed 3 = .ok (.imul, 1) := by decide +kernel
theorem dX3_nextSeed_4 : decode cX3_nextSeed 4 = .ok (.sipush 12345, 3) := by decide +kernel
theorem dX3_nextSeed_7 : decode cX3_nextSeed 7 = .ok (.iadd, 1) := by decide +kernel
theorem dX3_nextSeed_8 : decode cX3_nextSeed 8 = .ok (.ldc 243, 2) := by decide +kernel
theorem dX3_nextSeed_10 : decode cX3_nextSeed 10 = .ok (.iand, 1) := by decide +kernel
theorem dX3_nextSeed_11 : decode cX3_nextSeed 11 = .ok (.ireturn, 1) := by decide +kernel
theorem dX3_kindOf_0 : decode cX3_kindOf 0 = .ok (.iload_n 0, 1) := by decide +kernel
theorem dX3_kindOf_1 : decode cX3_kindOf 1 = .ok (.tableswitch 85 98 112 #[81, 85, 79, 85, 85, 85, 83, 85, 85, 85, 85, 75, 85, 85, 77], 75) := by decide +kernel
theorem dX3_kindOf_76 : decode cX3_kindOf 76 = .ok (.iconst 0, 1) := by decide +kernel
theorem dX3_kindOf_77 : decode cX3_kindOf 77 = .ok (.ireturn, 1) := by decide +kernel
theorem dX3_kindOf_78 : decode cX3_kindOf 78 = .ok (.iconst 1, 1) := by decide +kernel
theorem dX3_kindOf_79 : decode cX3_kindOf 79 = .ok (.ireturn, 1) := by decide +kernel
theorem dX3_kindOf_80 : decode cX3_kindOf 80 = .ok (.iconst 2, 1) := by decide +kernel
theorem dX3_kindOf_81 : decode cX3_kindOf 81 = .ok (.ireturn, 1) := by decide +kernel
theorem dX3_kindOf_82 : decode cX3_kindOf 82 = .ok (.iconst 3, 1) := by decide +kernel
theorem dX3_kindOf_83 : decode cX3_kindOf 83 = .ok (.ireturn, 1) := by decide +kernel
theorem dX3_kindOf_84 : decode cX3_kindOf 84 = .ok (.iconst 4, 1) := by decide +kernel
theorem dX3_kindOf_85 : decode cX3_kindOf 85 = .ok (.ireturn, 1) := by decide +kernel
theorem dX3_kindOf_86 : decode cX3_kindOf 86 = .ok (.iconst (-1), 1) := by decide +kernel
theorem dX3_kindOf_87 : decode cX3_kindOf 87 = .ok (.ireturn, 1) := by decide +kernel
theorem dX3_isOf_0 : decode cX3_isOf 0 = .ok (.iload_n 1, 1) := by decide +kernel
theorem dX3_isOf_1 : decode cX3_isOf 1 = .ok (.ifCond .eq 18, 3) := by decide +kernel
theorem dX3_isOf_4 : decode cX3_isOf 4 = .ok (.iload_n 0, 1) := by decide +kernel
theorem dX3_isOf_5 : decode cX3_isOf 5 = .ok (.iload_n 1, 1) := by decide +kernel
theorem dX3_isOf_6 : decode cX3_isOf 6 = .ok (.if_icmp .eq 13, 3) := by decide +kernel
theorem dX3_isOf_9 : decode cX3_isOf 9 = .ok (.iload_n 1, 1) := by decide +kernel
theorem dX3_isOf_10 : decode cX3_isOf 10 = .ok (.iconst 2, 1) := by decide +kernel
theorem dX3_isOf_11 : decode cX3_isOf 11 = .ok (.if_icmp .ne 12, 3) := by decide +kernel
theorem dX3_isOf_14 : decode cX3_isOf 14 = .ok (.iload_n 0, 1) := by decide +kernel
theorem dX3_isOf_15 : decode cX3_isOf 15 = .ok (.iconst 4, 1) := by decide +kernel
theorem dX3_isOf_16 : decode cX3_isOf 16 = .ok (.if_icmp .ne 7, 3) := by decide +kernel
theorem dX3_isOf_19 : decode cX3_isOf 19 = .ok (.iconst 1, 1) := by decide +kernel
theorem dX3_isOf_20 : decode cX3_isOf 20 = .ok (.goto 4, 3) := by decide +kernel
theorem dX3_isOf_23 : decode cX3_isOf 23 = .ok (.iconst 0, 1) := by decide +kernel
theorem dX3_isOf_24 : decode cX3_isOf 24 = .ok (.ireturn, 1) := by decide +kernel
theorem dX3_at_0 : decode cX3_at 0 = .ok (.aload_n 0, 1) := by decide +kernel
theorem dX3_at_1 : decode cX3_at 1 = .ok (.ifnull 19, 3) := by decide +kernel
theorem dX3_at_4 : decode cX3_at 4 = .ok (.iload_n 1, 1) := by decide +kernel
theorem dX3_at_5 : decode cX3_at 5 = .ok (.ifCond .lt 15, 3) := by decide +kernel
theorem dX3_at_8 : decode cX3_at 8 = .ok (.iload_n 1, 1) := by decide +kernel
theorem dX3_at_9 : decode cX3_at 9 = .ok (.aload_n 0, 1) := by decide +kernel
theorem dX3_at_10 : decode cX3_at 10 = .ok (.arraylength, 1) := by decide +kernel
theorem dX3_at_11 : decode cX3_at 11 = .ok (.if_icmp .ge 9, 3) := by decide +kernel
theorem dX3_at_14 : decode cX3_at 14 = .ok (.aload_n 0, 1) := by decide +kernel
theorem dX3_at_15 : decode cX3_at 15 = .ok (.iload_n 1, 1) := by decide +kernel
theorem dX3_at_16 : decode cX3_at 16 = .ok (.iaload, 1) := by decide +kernel
theorem dX3_at_17 : decode cX3_at 17 = .ok (.goto 4, 3) := by decide +kernel
theorem dX3_at_20 : decode cX3_at 20 = .ok (.iconst 0, 1) := by decide +kernel
theorem dX3_at_21 : decode cX3_at 21 = .ok (.ireturn, 1) := by decide +kernel
theorem dX3_put_0 : decode cX3_put 0 = .ok (.aload_n 0, 1) := by decide +kernel
theorem dX3_put_1 : decode cX3_put 1 = .ok (.ifnull 17, 3) := by decide +kernel
theorem dX3_put_4 : decode cX3_put 4 = .ok (.iload_n 1, 1) := by decide +kernel
theorem dX3_put_5 : decode cX3_put 5 = .ok (.ifCond .lt 13, 3) := by decide +kernel
theorem dX3_put_8 : decode cX3_put 8 = .ok (.iload_n 1, 1) := by decide +kernel
theorem dX3_put_9 : decode cX3_put 9 = .ok (.aload_n 0, 1) := by decide +kernel
theorem dX3_put_10 : decode cX3_put 10 = .ok (.arraylength, 1) := by decide +kernel
theorem dX3_put_11 : decode cX3_put 11 = .ok (.if_icmp .ge 7, 3) := by decide +kernel
theorem dX3_put_14 : decode cX3_put 14 = .ok (.aload_n 0, 1) := by decide +kernel
theorem dX3_put_15 : decode cX3_put 15 = .ok (.iload_n 1, 1) := by decide +kernel
theorem dX3_put_16 : decode cX3_put 16 = .ok (.iload_n 2, 1) := by decide +kernel
theorem dX3_put_17 : decode cX3_put 17 = .ok (.iastore, 1) := by decide +kernel
theorem dX3_put_18 : decode cX3_put 18 = .ok (.return_, 1) := by decide +kernel
set_option maxRecDepth 20000 in
theorem ggX3_copy_X3_at : GoodIn wsX3_copy wsX3_at := goodIn_r _ [4] (by decide +kernel) (by decide +kernel)
set_option maxRecDepth 20000 in
theorem gX3_copy_X3_at : GoodIn wsX3_copy (va_wsS RX3 87 yX3_at wsX3_at) := goodIn_app (goodIn_of _ (by decide +kernel)) ggX3_copy_X3_at
set_option maxRecDepth 20000 in
theorem ggX3_copy_X3_put : GoodIn wsX3_copy wsX3_put := goodIn_r _ [7] (by decide +kernel) (by decide +kernel)
set_option maxRecDepth 20000 in
theorem gX3_copy_X3_put : GoodIn wsX3_copy (va_wsS RX3 66 yX3_put wsX3_put) := goodIn_app (goodIn_of _ (by decide +kernel)) ggX3_copy_X3_put
theorem dX3_copy_0 : decode cX3_copy 0 = .ok (.iconst 0, 1) := by decide +kernel
theorem dX3_copy_1 : decode cX3_copy 1 = .ok (.istore_n 2, 1) := by decide +kernel
theorem dX3_copy_2 : decode cX3_copy 2 = .ok (.aload_n 1, 1) := by decide +kernel
theorem dX3_copy_3 : decode cX3_copy 3 = .ok (.ifnull 25, 3) := by decide +kernel
theorem dX3_copy_6 : decode cX3_copy 6 = .ok (.iload_n 2, 1) := by decide +kernel
theorem dX3_copy_7 : decode cX3_copy 7 = .ok (.aload_n 1, 1) := by decide +kernel
theorem dX3_copy_8 : decode cX3_copy 8 = .ok (.arraylength, 1) := by decide +kernel
theorem dX3_copy_9 : decode cX3_copy 9 = .ok (.if_icmp .ge 19, 3) := by decide +kernel
theorem dX3_copy_12 : decode cX3_copy 12 = .ok (.aload_n 1, 1) := by decide +kernel
theorem dX3_copy_13 : decode cX3_copy 13 = .ok (.iload_n 2, 1) := by decide +kernel
theorem dX3_copy_14 : decode cX3_copy 14 = .ok (.aload_n 0, 1) := by decide +kernel
theorem dX3_copy_15 : decode cX3_copy 15 = .ok (.iload_n 2, 1) := by decide +kernel
theorem dX3_copy_16 : decode cX3_copy 16 = .ok (.invokestatic 87, 3) := by decide +kernel
theorem dX3_copy_19 : decode cX3_copy 19 = .ok (.invokestatic 66, 3) := by decide +kernel
theorem dX3_copy_22 : decode cX3_copy 22 = .ok (.iinc 2 1, 3) := by decide +kernel
theorem dX3_copy_25 : decode cX3_copy 25 = .ok (.goto (-23), 3) := by decide +kernel
theorem dX3_copy_28 : decode cX3_copy 28 = .ok (.return_, 1) := by decide +kernel
theorem dX3_sum_0 : decode cX3_sum 0 = .ok (.iconst 0, 1) := by decide +kernel
theorem dX3_sum_1 : decode cX3_sum 1 = .ok (.istore_n 1, 1) := by decide +kernel
theorem dX3_sum_2 : decode cX3_sum 2 = .ok (.iconst 0, 1) := by decide +kernel
theorem dX3_sum_3 : decode cX3_sum 3 = .ok (.istore_n 2, 1) := by decide +kernel
theorem dX3_sum_4 : decode cX3_sum 4 = .ok (.aload_n 0, 1) := by decide +kernel
theorem dX3_sum_5 : decode cX3_sum 5 = .ok (.ifnull 21, 3) := by decide +kernel
theorem dX3_sum_8 : decode cX3_sum 8 = .ok (.iload_n 2, 1) := by decide +kernel
theorem dX3_sum_9 : decode cX3_sum 9 = .ok (.aload_n 0, 1) := by decide +kernel
theorem dX3_sum_10 : decode cX3_sum 10 = .ok (.arraylength, 1) := by decide +kernel
theorem dX3_sum_11 : decode cX3_sum 11 = .ok (.if_icmp .ge 15, 3) := by decide +kernel
theorem dX3_sum_14 : decode cX3_sum 14 = .ok (.iload_n 1, 1) := by decide +kernel
theorem dX3_sum_15 : decode cX3_sum 15 = .ok (.aload_n 0, 1) := by decide +kernel
theorem dX3_sum_16 : decode cX3_sum 16 = .ok (.iload_n 2, 1) := by decide +kernel
theorem dX3_sum_17 : decode cX3_sum 17 = .ok (.iaload, 1) := by decide +kernel
theorem dX3_sum_18 : decode cX3_sum 18 = .ok (.iadd, 1) := by decide +kernel
theorem dX3_sum_19 : decode cX3_sum 19 = .ok (.istore_n 1, 1) := by decide +kernel
theorem dX3_sum_20 : decode cX3_sum 20 = .ok (.iinc 2 1, 3) := by decide +kernel
theorem dX3_sum_23 : decode cX3_sum 23 = .ok (.goto (-19), 3) := by decide +kernel
theorem dX3_sum_26 : decode cX3_sum 26 = .ok (.iload_n 1, 1) := by decide +kernel
theorem dX3_sum_27 : decode cX3_sum 27 = .ok (.ireturn, 1) := by decide +kernel
