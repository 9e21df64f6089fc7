def nestWord : Cond → Bool
  | .fieldLinkNest .. => true
  | .methodLinkNest .. => true
  | _ => false
def TB : List Cond := lw_tbl.filter goodWord
def NB : List Cond := lw_tbl.filter nestWord
theorem in_t1 {i : Nat} {w : Cond} (h : tables_1_1[i]? = some w) : w ∈ lw_tbl := List.mem_append_right _ (List.mem_append_left _ (List.mem_of_getElem? h))
theorem in_t2 {i : Nat} {w : Cond} (h : tables_1_2[i]? = some w) : w ∈ lw_tbl := List.mem_append_right _ (List.mem_append_right _ (List.mem_of_getElem? h))
theorem in_sel {q : MethodName × Nat} (h : q ∈ lw_privs) : Cond.selects q.1.cls q.1 q.1 ∈ lw_tbl := List.mem_append_left _ (List.mem_map.mpr ⟨q, h, rfl⟩)
theorem to_TB {w : Cond} (h : w ∈ lw_tbl) (g : goodWord w = true) : w ∈ TB := List.mem_filter.mpr ⟨h, g⟩
theorem to_NB {w : Cond} (h : w ∈ lw_tbl) (g : nestWord w = true) : w ∈ NB := List.mem_filter.mpr ⟨h, g⟩
theorem in_p1 {i : Nat} {q : MethodName × Nat} (h : lw_privs_1[i]? = some q) : q ∈ lw_privs := List.mem_append_left _ (List.mem_of_getElem? h)
theorem in_p2 {i : Nat} {q : MethodName × Nat} (h : lw_privs_2[i]? = some q) : q ∈ lw_privs := List.mem_append_right _ (List.mem_of_getElem? h)

theorem wi_L : Cond.initialized RL ∈ TB := to_TB (in_t1 (i := 0) rfl) rfl
theorem wi_X3 : Cond.initialized RX3 ∈ TB := to_TB (in_t1 (i := 1) rfl) rfl
theorem wi_X0 : Cond.initialized RX0 ∈ TB := to_TB (in_t1 (i := 2) rfl) rfl
theorem wi_X1 : Cond.initialized RX1 ∈ TB := to_TB (in_t1 (i := 3) rfl) rfl
theorem wi_X2 : Cond.initialized RX2 ∈ TB := to_TB (in_t1 (i := 4) rfl) rfl
theorem wi_J9 : Cond.initialized RJ9 ∈ TB := to_TB (in_t1 (i := 5) rfl) rfl
theorem wi_J6 : Cond.initialized RJ6 ∈ TB := to_TB (in_t1 (i := 6) rfl) rfl
theorem wl_L_15 : Cond.classLink RL 15 RX3 ∈ TB := to_TB (in_t1 (i := 7) rfl) rfl
theorem wn_X3 : Cond.instantiable RX3 8 ∈ TB := to_TB (in_t1 (i := 8) rfl) rfl
theorem wl_L_72 : Cond.methodLink RL 72 yX3_init ∈ TB := to_TB (in_t1 (i := 9) rfl) rfl
theorem wm_X3_init : Cond.instanceMethod yX3_init ∈ TB := to_TB (in_t1 (i := 10) rfl) rfl
theorem wc_X3_init : Cond.code yX3_init cX3_init 1 none ∈ TB := to_TB (in_t1 (i := 11) rfl) rfl
theorem wl_X3_1 : Cond.methodLink RX3 1 objectInit ∈ TB := to_TB (in_t1 (i := 12) rfl) rfl
theorem wm_obj : Cond.instanceMethod objectInit ∈ TB := to_TB (in_t1 (i := 13) rfl) rfl
theorem wc_obj : Cond.code objectInit ⟨#[0xb1]⟩ 1 none ∈ TB := to_TB (in_t1 (i := 14) rfl) rfl
theorem wl_X3_7 : Cond.classLink RX3 7 RX0 ∈ TB := to_TB (in_t1 (i := 15) rfl) rfl
theorem wn_X0 : Cond.instantiable RX0 2 ∈ TB := to_TB (in_t1 (i := 16) rfl) rfl
theorem wl_X3_9 : Cond.methodLinkNest RX3 9 yX0_init "ColdDepots" ∈ NB := to_NB (in_t1 (i := 17) rfl) rfl
theorem wm_X0_init : Cond.instanceMethod yX0_init ∈ TB := to_TB (in_t1 (i := 18) rfl) rfl
theorem wc_X0_init : Cond.code yX0_init cX0_init 1 none ∈ TB := to_TB (in_t1 (i := 19) rfl) rfl
theorem wl_X0_3 : Cond.methodLink RX0 3 objectInit ∈ TB := to_TB (in_t1 (i := 20) rfl) rfl
theorem wl_X0_9 : Cond.fieldLink RX0 9 "ColdDepots$Page" "codes" "[I" ∈ TB := to_TB (in_t1 (i := 21) rfl) rfl
theorem wl_X0_15 : Cond.fieldLink RX0 15 "ColdDepots$Page" "length" "I" ∈ TB := to_TB (in_t1 (i := 22) rfl) rfl
theorem wl_X3_41 : Cond.fieldLinkNest RX3 41 "ColdDepots$Page" "length" "I" "ColdDepots" ∈ NB := to_NB (in_t1 (i := 23) rfl) rfl
theorem w_arr : Cond.arrayClass .int ∈ TB := to_TB (in_t1 (i := 29) rfl) rfl
theorem wl_X3_16 : Cond.classLink RX3 16 RX1 ∈ TB := to_TB (in_t1 (i := 30) rfl) rfl
theorem wn_X1 : Cond.instantiable RX1 8 ∈ TB := to_TB (in_t1 (i := 31) rfl) rfl
theorem wl_X3_18 : Cond.methodLinkNest RX3 18 yX1_init "ColdDepots" ∈ NB := to_NB (in_t1 (i := 32) rfl) rfl
theorem wm_X1_init : Cond.instanceMethod yX1_init ∈ TB := to_TB (in_t1 (i := 33) rfl) rfl
theorem wc_X1_init : Cond.code yX1_init cX1_init 1 none ∈ TB := to_TB (in_t1 (i := 34) rfl) rfl
theorem wl_X1_3 : Cond.methodLink RX1 3 objectInit ∈ TB := to_TB (in_t1 (i := 35) rfl) rfl
theorem wl_X1_9 : Cond.fieldLink RX1 9 "ColdDepots$Party" "kinds" "[I" ∈ TB := to_TB (in_t1 (i := 36) rfl) rfl
theorem wl_X3_56 : Cond.fieldLinkNest RX3 56 "ColdDepots$Party" "kinds" "[I" "ColdDepots" ∈ NB := to_NB (in_t1 (i := 37) rfl) rfl
theorem wl_X1_18 : Cond.fieldLink RX1 18 "ColdDepots$Party" "size" "I" ∈ TB := to_TB (in_t1 (i := 38) rfl) rfl
theorem wl_X3_53 : Cond.fieldLinkNest RX3 53 "ColdDepots$Party" "size" "I" "ColdDepots" ∈ NB := to_NB (in_t1 (i := 39) rfl) rfl
theorem wl_X1_15 : Cond.fieldLink RX1 15 "ColdDepots$Party" "cairns" "[I" ∈ TB := to_TB (in_t1 (i := 40) rfl) rfl
theorem wl_X3_132 : Cond.fieldLinkNest RX3 132 "ColdDepots$Party" "cairns" "[I" "ColdDepots" ∈ NB := to_NB (in_t1 (i := 41) rfl) rfl
theorem wl_X1_40 : Cond.fieldLink RX1 40 "ColdDepots$Party" "alive" "I" ∈ TB := to_TB (in_t1 (i := 42) rfl) rfl
theorem wl_X3_131 : Cond.fieldLinkNest RX3 131 "ColdDepots$Party" "alive" "I" "ColdDepots" ∈ NB := to_NB (in_t1 (i := 43) rfl) rfl
theorem wl_X1_43 : Cond.fieldLink RX1 43 "ColdDepots$Party" "food" "I" ∈ TB := to_TB (in_t1 (i := 44) rfl) rfl
theorem wl_X3_143 : Cond.fieldLinkNest RX3 143 "ColdDepots$Party" "food" "I" "ColdDepots" ∈ NB := to_NB (in_t1 (i := 45) rfl) rfl
theorem wl_X1_63 : Cond.fieldLink RX1 63 "ColdDepots$Party" "pull" "I" ∈ TB := to_TB (in_t1 (i := 46) rfl) rfl
theorem wl_X1_46 : Cond.fieldLink RX1 46 "ColdDepots$Party" "eat" "I" ∈ TB := to_TB (in_t1 (i := 47) rfl) rfl
theorem wl_X1_75 : Cond.fieldLink RX1 75 "ColdDepots$Party" "diedOn" "I" ∈ TB := to_TB (in_t1 (i := 48) rfl) rfl
theorem wl_X3_150 : Cond.fieldLinkNest RX3 150 "ColdDepots$Party" "diedOn" "I" "ColdDepots" ∈ NB := to_NB (in_t1 (i := 49) rfl) rfl
theorem wl_X3_23 : Cond.classLink RX3 23 RX2 ∈ TB := to_TB (in_t1 (i := 67) rfl) rfl
theorem wn_X2 : Cond.instantiable RX2 9 ∈ TB := to_TB (in_t1 (i := 68) rfl) rfl
theorem wl_X3_25 : Cond.methodLinkNest RX3 25 yX2_init "ColdDepots" ∈ NB := to_NB (in_t1 (i := 69) rfl) rfl
theorem wm_X2_init : Cond.instanceMethod yX2_init ∈ TB := to_TB (in_t1 (i := 70) rfl) rfl
theorem wc_X2_init : Cond.code yX2_init cX2_init 1 none ∈ TB := to_TB (in_t1 (i := 71) rfl) rfl
theorem wl_X2_3 : Cond.methodLink RX2 3 objectInit ∈ TB := to_TB (in_t1 (i := 72) rfl) rfl
theorem wl_X2_27 : Cond.fieldLink RX2 27 "ColdDepots$Standing" "alive" "I" ∈ TB := to_TB (in_t1 (i := 73) rfl) rfl
theorem wl_X3_100 : Cond.fieldLinkNest RX3 100 "ColdDepots$Standing" "alive" "I" "ColdDepots" ∈ NB := to_NB (in_t1 (i := 74) rfl) rfl
theorem wl_X2_9 : Cond.fieldLink RX2 9 "ColdDepots$Standing" "cairns" "[I" ∈ TB := to_TB (in_t1 (i := 75) rfl) rfl
theorem wl_X3_77 : Cond.fieldLinkNest RX3 77 "ColdDepots$Standing" "cairns" "[I" "ColdDepots" ∈ NB := to_NB (in_t1 (i := 76) rfl) rfl
theorem wl_X2_31 : Cond.fieldLink RX2 31 "ColdDepots$Standing" "marches" "I" ∈ TB := to_TB (in_t1 (i := 77) rfl) rfl
theorem wl_X3_137 : Cond.fieldLinkNest RX3 137 "ColdDepots$Standing" "marches" "I" "ColdDepots" ∈ NB := to_NB (in_t1 (i := 78) rfl) rfl
theorem wl_X2_34 : Cond.fieldLink RX2 34 "ColdDepots$Standing" "comingsHome" "I" ∈ TB := to_TB (in_t1 (i := 79) rfl) rfl
theorem wl_X3_140 : Cond.fieldLinkNest RX3 140 "ColdDepots$Standing" "comingsHome" "I" "ColdDepots" ∈ NB := to_NB (in_t1 (i := 80) rfl) rfl
theorem wl_X2_37 : Cond.fieldLink RX2 37 "ColdDepots$Standing" "heard" "I" ∈ TB := to_TB (in_t1 (i := 81) rfl) rfl
theorem wl_X3_173 : Cond.fieldLinkNest RX3 173 "ColdDepots$Standing" "heard" "I" "ColdDepots" ∈ NB := to_NB (in_t1 (i := 82) rfl) rfl
theorem wl_X2_15 : Cond.fieldLink RX2 15 "ColdDepots$Standing" "heardMembers" "[I" ∈ TB := to_TB (in_t1 (i := 83) rfl) rfl
theorem wl_X3_223 : Cond.fieldLinkNest RX3 223 "ColdDepots$Standing" "heardMembers" "[I" "ColdDepots" ∈ NB := to_NB (in_t1 (i := 84) rfl) rfl
theorem wl_X2_18 : Cond.fieldLink RX2 18 "ColdDepots$Standing" "heardStages" "[I" ∈ TB := to_TB (in_t1 (i := 85) rfl) rfl
theorem wl_X3_220 : Cond.fieldLinkNest RX3 220 "ColdDepots$Standing" "heardStages" "[I" "ColdDepots" ∈ NB := to_NB (in_t1 (i := 86) rfl) rfl
theorem wl_X2_21 : Cond.fieldLink RX2 21 "ColdDepots$Standing" "heardFoods" "[I" ∈ TB := to_TB (in_t1 (i := 87) rfl) rfl
theorem wl_X3_226 : Cond.fieldLinkNest RX3 226 "ColdDepots$Standing" "heardFoods" "[I" "ColdDepots" ∈ NB := to_NB (in_t1 (i := 88) rfl) rfl
theorem wl_X2_24 : Cond.fieldLink RX2 24 "ColdDepots$Standing" "heardHomes" "[I" ∈ TB := to_TB (in_t1 (i := 89) rfl) rfl
theorem wl_X3_229 : Cond.fieldLinkNest RX3 229 "ColdDepots$Standing" "heardHomes" "[I" "ColdDepots" ∈ NB := to_NB (in_t1 (i := 90) rfl) rfl
theorem wl_X3_10 : Cond.fieldLink RX3 10 "ColdDepots" "page" "LColdDepots$Page;" ∈ TB := to_TB (in_t1 (i := 110) rfl) rfl
theorem wl_X3_19 : Cond.fieldLink RX3 19 "ColdDepots" "party" "LColdDepots$Party;" ∈ TB := to_TB (in_t1 (i := 111) rfl) rfl
theorem wl_X3_26 : Cond.fieldLink RX3 26 "ColdDepots" "now" "LColdDepots$Standing;" ∈ TB := to_TB (in_t1 (i := 112) rfl) rfl
theorem wl_X3_30 : Cond.fieldLink RX3 30 "ColdDepots" "kept" "LColdDepots$Standing;" ∈ TB := to_TB (in_t1 (i := 113) rfl) rfl
theorem wl_X3_33 : Cond.fieldLink RX3 33 "ColdDepots" "wintered" "[I" ∈ TB := to_TB (in_t1 (i := 114) rfl) rfl
theorem wl_X3_80 : Cond.fieldLink RX3 80 "ColdDepots" "imageKept" "Z" ∈ TB := to_TB (in_t1 (i := 115) rfl) rfl
theorem wl_X3_84 : Cond.fieldLink RX3 84 "ColdDepots" "campsRead" "I" ∈ TB := to_TB (in_t1 (i := 116) rfl) rfl
theorem wl_X3_167 : Cond.fieldLink RX3 167 "ColdDepots" "teamsDone" "I" ∈ TB := to_TB (in_t1 (i := 117) rfl) rfl
theorem wl_L_85 : Cond.methodLink RL 85 yX3_fault ∈ TB := to_TB (in_t1 (i := 135) rfl) rfl
theorem wm_X3_fault : Cond.instanceMethod yX3_fault ∈ TB := to_TB (in_t1 (i := 136) rfl) rfl
theorem we_X3_fault : Cond.selects RX3 yX3_fault yX3_fault ∈ TB := to_TB (in_t1 (i := 137) rfl) rfl
theorem wc_X3_fault : Cond.code yX3_fault cX3_fault 1 (some .int) ∈ TB := to_TB (in_t1 (i := 138) rfl) rfl
theorem wl_X3_45 : Cond.methodLinkNest RX3 45 yX0_firstWrong "ColdDepots" ∈ NB := to_NB (in_t1 (i := 139) rfl) rfl
theorem wm_X0_firstWrong : Cond.instanceMethod yX0_firstWrong ∈ TB := to_TB (in_t1 (i := 141) rfl) rfl
theorem wc_X0_firstWrong : Cond.code yX0_firstWrong cX0_firstWrong 5 (some .int) ∈ TB := to_TB (in_t1 (i := 142) rfl) rfl
theorem wl_X0_27 : Cond.methodLink RX0 27 yX0_codeAt ∈ TB := to_TB (in_t1 (i := 143) rfl) rfl
theorem wm_X0_codeAt : Cond.instanceMethod yX0_codeAt ∈ TB := to_TB (in_t1 (i := 145) rfl) rfl
theorem wc_X0_codeAt : Cond.code yX0_codeAt cX0_codeAt 2 (some .int) ∈ TB := to_TB (in_t1 (i := 146) rfl) rfl
theorem wl_X0_23 : Cond.methodLinkNest RX0 23 yX3_at "ColdDepots" ∈ NB := to_NB (in_t1 (i := 147) rfl) rfl
theorem ws_X3_at : Cond.static yX3_at ∈ TB := to_TB (in_t1 (i := 148) rfl) rfl
theorem wc_X3_at : Cond.code yX3_at cX3_at 2 (some .int) ∈ TB := to_TB (in_t1 (i := 149) rfl) rfl
theorem wl_X0_31 : Cond.methodLinkNest RX0 31 yX3_kindOf "ColdDepots" ∈ NB := to_NB (in_t1 (i := 150) rfl) rfl
theorem ws_X3_kindOf : Cond.static yX3_kindOf ∈ TB := to_TB (in_t1 (i := 151) rfl) rfl
theorem wc_X3_kindOf : Cond.code yX3_kindOf cX3_kindOf 1 (some .int) ∈ TB := to_TB (in_t1 (i := 152) rfl) rfl
theorem wl_L_89 : Cond.methodLink RL 89 yX3_camp ∈ TB := to_TB (in_t1 (i := 153) rfl) rfl
theorem wm_X3_camp : Cond.instanceMethod yX3_camp ∈ TB := to_TB (in_t1 (i := 154) rfl) rfl
theorem we_X3_camp : Cond.selects RX3 yX3_camp yX3_camp ∈ TB := to_TB (in_t1 (i := 155) rfl) rfl
theorem wc_X3_camp : Cond.code yX3_camp cX3_camp 2 (some .int) ∈ TB := to_TB (in_t1 (i := 156) rfl) rfl
theorem wl_X3_49 : Cond.methodLinkNest RX3 49 yX0_isCamp "ColdDepots" ∈ NB := to_NB (in_t1 (i := 157) rfl) rfl
theorem wm_X0_isCamp : Cond.instanceMethod yX0_isCamp ∈ TB := to_TB (in_t1 (i := 159) rfl) rfl
theorem wc_X0_isCamp : Cond.code yX0_isCamp cX0_isCamp 1 (some .boolean) ∈ TB := to_TB (in_t1 (i := 160) rfl) rfl
theorem wl_X0_34 : Cond.methodLink RX0 34 yX0_firstWrong ∈ TB := to_TB (in_t1 (i := 161) rfl) rfl
theorem wl_X3_59 : Cond.methodLinkNest RX3 59 yX0_codeAt "ColdDepots" ∈ NB := to_NB (in_t1 (i := 162) rfl) rfl
theorem wl_X3_63 : Cond.methodLink RX3 63 yX3_kindOf ∈ TB := to_TB (in_t1 (i := 163) rfl) rfl
theorem wl_X3_66 : Cond.methodLink RX3 66 yX3_put ∈ TB := to_TB (in_t1 (i := 164) rfl) rfl
theorem ws_X3_put : Cond.static yX3_put ∈ TB := to_TB (in_t1 (i := 165) rfl) rfl
theorem wc_X3_put : Cond.code yX3_put cX3_put 3 none ∈ TB := to_TB (in_t1 (i := 166) rfl) rfl
theorem wl_X3_70 : Cond.methodLinkNest RX3 70 yX1_all "ColdDepots" ∈ NB := to_NB (in_t1 (i := 167) rfl) rfl
theorem wm_X1_all : Cond.instanceMethod yX1_all ∈ TB := to_TB (in_t1 (i := 169) rfl) rfl
theorem wc_X1_all : Cond.code yX1_all cX1_all 1 (some .int) ∈ TB := to_TB (in_t1 (i := 170) rfl) rfl
theorem wl_X3_73 : Cond.methodLinkNest RX3 73 yX2_begin "ColdDepots" ∈ NB := to_NB (in_t1 (i := 171) rfl) rfl
theorem wm_X2_begin : Cond.instanceMethod yX2_begin ∈ TB := to_TB (in_t1 (i := 173) rfl) rfl
theorem wc_X2_begin : Cond.code yX2_begin cX2_begin 2 none ∈ TB := to_TB (in_t1 (i := 174) rfl) rfl
theorem wl_L_50 : Cond.methodLink RL 50 yX3_member ∈ TB := to_TB (in_t1 (i := 175) rfl) rfl
theorem wm_X3_member : Cond.instanceMethod yX3_member ∈ TB := to_TB (in_t1 (i := 176) rfl) rfl
theorem we_X3_member : Cond.selects RX3 yX3_member yX3_member ∈ TB := to_TB (in_t1 (i := 177) rfl) rfl
theorem wc_X3_member : Cond.code yX3_member cX3_member 4 (some .int) ∈ TB := to_TB (in_t1 (i := 178) rfl) rfl
theorem wl_X3_87 : Cond.methodLink RX3 87 yX3_at ∈ TB := to_TB (in_t1 (i := 179) rfl) rfl
theorem wl_X3_91 : Cond.fieldLink RX3 91 "ColdDepots" "PULLS" "[I" ∈ TB := to_TB (in_t1 (i := 180) rfl) rfl
theorem wz_PULLS : Cond.laysStatic RX3 "PULLS" "[I" ∈ lw_tbl := in_t1 (i := 181) rfl
theorem wl_X3_94 : Cond.fieldLink RX3 94 "ColdDepots" "EATS" "[I" ∈ TB := to_TB (in_t1 (i := 182) rfl) rfl
theorem wz_EATS : Cond.laysStatic RX3 "EATS" "[I" ∈ lw_tbl := in_t1 (i := 183) rfl
theorem wl_X3_97 : Cond.fieldLink RX3 97 "ColdDepots" "FEEDS" "[I" ∈ TB := to_TB (in_t1 (i := 184) rfl) rfl
theorem wz_FEEDS : Cond.laysStatic RX3 "FEEDS" "[I" ∈ lw_tbl := in_t1 (i := 185) rfl
theorem wl_L_96 : Cond.methodLink RL 96 yX3_as ∈ TB := to_TB (in_t1 (i := 186) rfl) rfl
theorem wm_X3_as : Cond.instanceMethod yX3_as ∈ TB := to_TB (in_t1 (i := 187) rfl) rfl
theorem we_X3_as : Cond.selects RX3 yX3_as yX3_as ∈ TB := to_TB (in_t1 (i := 188) rfl) rfl
theorem wc_X3_as : Cond.code yX3_as cX3_as 3 (some .int) ∈ TB := to_TB (in_t1 (i := 189) rfl) rfl
theorem wl_X3_103 : Cond.methodLink RX3 103 yX3_isOf ∈ TB := to_TB (in_t1 (i := 190) rfl) rfl
theorem ws_X3_isOf : Cond.static yX3_isOf ∈ TB := to_TB (in_t1 (i := 191) rfl) rfl
theorem wc_X3_isOf : Cond.code yX3_isOf cX3_isOf 2 (some .boolean) ∈ TB := to_TB (in_t1 (i := 192) rfl) rfl
theorem wl_L_53 : Cond.methodLink RL 53 yX3_cairn ∈ TB := to_TB (in_t1 (i := 193) rfl) rfl
theorem wm_X3_cairn : Cond.instanceMethod yX3_cairn ∈ TB := to_TB (in_t1 (i := 194) rfl) rfl
theorem we_X3_cairn : Cond.selects RX3 yX3_cairn yX3_cairn ∈ TB := to_TB (in_t1 (i := 195) rfl) rfl
theorem wc_X3_cairn : Cond.code yX3_cairn cX3_cairn 3 (some .int) ∈ TB := to_TB (in_t1 (i := 196) rfl) rfl
theorem wl_X3_107 : Cond.methodLink RX3 107 yX3_isNoCairn ∈ TB := to_TB (in_t1 (i := 197) rfl) rfl
theorem wm_X3_isNoCairn : Cond.instanceMethod yX3_isNoCairn ∈ TB := to_TB (in_t1 (i := 199) rfl) rfl
theorem wc_X3_isNoCairn : Cond.code yX3_isNoCairn cX3_isNoCairn 2 (some .boolean) ∈ TB := to_TB (in_t1 (i := 200) rfl) rfl
theorem wl_X3_110 : Cond.methodLink RX3 110 yX3_amountsAt ∈ TB := to_TB (in_t1 (i := 201) rfl) rfl
theorem wm_X3_amountsAt : Cond.instanceMethod yX3_amountsAt ∈ TB := to_TB (in_t1 (i := 203) rfl) rfl
theorem wc_X3_amountsAt : Cond.code yX3_amountsAt cX3_amountsAt 4 (some .int) ∈ TB := to_TB (in_t1 (i := 204) rfl) rfl
theorem wl_X3_217 : Cond.methodLink RX3 217 yX3_isAllSo ∈ TB := to_TB (in_t1 (i := 205) rfl) rfl
theorem wm_X3_isAllSo : Cond.instanceMethod yX3_isAllSo ∈ TB := to_TB (in_t1 (i := 207) rfl) rfl
theorem wc_X3_isAllSo : Cond.code yX3_isAllSo cX3_isAllSo 6 (some .boolean) ∈ TB := to_TB (in_t1 (i := 208) rfl) rfl
theorem wl_X3_124 : Cond.methodLinkNest RX3 124 yX1_setCairns "ColdDepots" ∈ NB := to_NB (in_t1 (i := 209) rfl) rfl
theorem wm_X1_setCairns : Cond.instanceMethod yX1_setCairns ∈ TB := to_TB (in_t1 (i := 211) rfl) rfl
theorem wc_X1_setCairns : Cond.code yX1_setCairns cX1_setCairns 2 none ∈ TB := to_TB (in_t1 (i := 212) rfl) rfl
theorem wl_X1_26 : Cond.methodLinkNest RX1 26 yX3_copy "ColdDepots" ∈ NB := to_NB (in_t1 (i := 213) rfl) rfl
theorem ws_X3_copy : Cond.static yX3_copy ∈ TB := to_TB (in_t1 (i := 214) rfl) rfl
theorem wc_X3_copy : Cond.code yX3_copy cX3_copy 3 none ∈ TB := to_TB (in_t1 (i := 215) rfl) rfl
theorem wl_X3_128 : Cond.methodLinkNest RX3 128 yX1_go "ColdDepots" ∈ NB := to_NB (in_t1 (i := 216) rfl) rfl
theorem wm_X1_go : Cond.instanceMethod yX1_go ∈ TB := to_TB (in_t1 (i := 218) rfl) rfl
theorem wc_X1_go : Cond.code yX1_go cX1_go 6 (some .boolean) ∈ TB := to_TB (in_t1 (i := 219) rfl) rfl
theorem wl_X1_30 : Cond.methodLink RX1 30 yX1_setOut ∈ TB := to_TB (in_t1 (i := 220) rfl) rfl
theorem wm_X1_setOut : Cond.instanceMethod yX1_setOut ∈ TB := to_TB (in_t1 (i := 222) rfl) rfl
theorem wc_X1_setOut : Cond.code yX1_setOut cX1_setOut 3 none ∈ TB := to_TB (in_t1 (i := 223) rfl) rfl
theorem wl_X1_56 : Cond.fieldLinkNest RX1 56 "ColdDepots" "PULLS" "[I" "ColdDepots" ∈ NB := to_NB (in_t1 (i := 224) rfl) rfl
theorem wl_X1_59 : Cond.methodLink RX1 59 yX1_together ∈ TB := to_TB (in_t1 (i := 225) rfl) rfl
theorem wm_X1_together : Cond.instanceMethod yX1_together ∈ TB := to_TB (in_t1 (i := 227) rfl) rfl
theorem wc_X1_together : Cond.code yX1_together cX1_together 5 (some .int) ∈ TB := to_TB (in_t1 (i := 228) rfl) rfl
theorem wl_X1_22 : Cond.methodLinkNest RX1 22 yX3_at "ColdDepots" ∈ NB := to_NB (in_t1 (i := 229) rfl) rfl
theorem wl_X1_66 : Cond.fieldLinkNest RX1 66 "ColdDepots" "EATS" "[I" "ColdDepots" ∈ NB := to_NB (in_t1 (i := 230) rfl) rfl
theorem wl_X1_69 : Cond.methodLink RX1 69 yJ9_min_7cf53 ∈ TB := to_TB (in_t1 (i := 231) rfl) rfl
theorem ws_J9_min_7cf53 : Cond.static yJ9_min_7cf53 ∈ TB := to_TB (in_t1 (i := 232) rfl) rfl
theorem wc_J9_min_7cf53 : Cond.code yJ9_min_7cf53 cJ9_min_7cf53 2 (some .int) ∈ TB := to_TB (in_t1 (i := 233) rfl) rfl
theorem wl_X1_34 : Cond.methodLink RX1 34 yX1_eatPonies ∈ TB := to_TB (in_t1 (i := 234) rfl) rfl
theorem wm_X1_eatPonies : Cond.instanceMethod yX1_eatPonies ∈ TB := to_TB (in_t1 (i := 236) rfl) rfl
theorem wc_X1_eatPonies : Cond.code yX1_eatPonies cX1_eatPonies 2 none ∈ TB := to_TB (in_t1 (i := 237) rfl) rfl
theorem wl_X1_78 : Cond.methodLink RX1 78 yX1_devour ∈ TB := to_TB (in_t1 (i := 238) rfl) rfl
theorem wm_X1_devour : Cond.instanceMethod yX1_devour ∈ TB := to_TB (in_t2 (i := 0) rfl) rfl
theorem wc_X1_devour : Cond.code yX1_devour cX1_devour 3 none ∈ TB := to_TB (in_t2 (i := 1) rfl) rfl
theorem wl_X1_85 : Cond.fieldLinkNest RX1 85 "ColdDepots" "FEEDS" "[I" "ColdDepots" ∈ NB := to_NB (in_t2 (i := 2) rfl) rfl
theorem wl_X1_37 : Cond.methodLink RX1 37 yX1_eatBeasts ∈ TB := to_TB (in_t2 (i := 3) rfl) rfl
theorem wm_X1_eatBeasts : Cond.instanceMethod yX1_eatBeasts ∈ TB := to_TB (in_t2 (i := 5) rfl) rfl
theorem wc_X1_eatBeasts : Cond.code yX1_eatBeasts cX1_eatBeasts 3 none ∈ TB := to_TB (in_t2 (i := 6) rfl) rfl
theorem wl_X1_81 : Cond.methodLinkNest RX1 81 yX3_isOf "ColdDepots" ∈ NB := to_NB (in_t2 (i := 7) rfl) rfl
theorem wl_X1_49 : Cond.methodLink RX1 49 yX1_dieOn ∈ TB := to_TB (in_t2 (i := 8) rfl) rfl
theorem wm_X1_dieOn : Cond.instanceMethod yX1_dieOn ∈ TB := to_TB (in_t2 (i := 10) rfl) rfl
theorem wc_X1_dieOn : Cond.code yX1_dieOn cX1_dieOn 2 none ∈ TB := to_TB (in_t2 (i := 11) rfl) rfl
theorem wl_X1_53 : Cond.methodLink RX1 53 yX1_takeUpAt ∈ TB := to_TB (in_t2 (i := 12) rfl) rfl
theorem wm_X1_takeUpAt : Cond.instanceMethod yX1_takeUpAt ∈ TB := to_TB (in_t2 (i := 14) rfl) rfl
theorem wc_X1_takeUpAt : Cond.code yX1_takeUpAt cX1_takeUpAt 3 none ∈ TB := to_TB (in_t2 (i := 15) rfl) rfl
theorem wl_X1_88 : Cond.methodLinkNest RX1 88 yX3_put "ColdDepots" ∈ NB := to_NB (in_t2 (i := 16) rfl) rfl
theorem wl_X3_113 : Cond.methodLink RX3 113 yX3_bestTrial ∈ TB := to_TB (in_t2 (i := 17) rfl) rfl
theorem wm_X3_bestTrial : Cond.instanceMethod yX3_bestTrial ∈ TB := to_TB (in_t2 (i := 19) rfl) rfl
theorem wc_X3_bestTrial : Cond.code yX3_bestTrial cX3_bestTrial 8 (some .int) ∈ TB := to_TB (in_t2 (i := 20) rfl) rfl
theorem wl_X3_187 : Cond.methodLink RX3 187 yJ6_bitCount_0f7a4 ∈ TB := to_TB (in_t2 (i := 21) rfl) rfl
theorem ws_J6_bitCount_0f7a4 : Cond.static yJ6_bitCount_0f7a4 ∈ TB := to_TB (in_t2 (i := 22) rfl) rfl
theorem wc_J6_bitCount_0f7a4 : Cond.code yJ6_bitCount_0f7a4 cJ6_bitCount_0f7a4 1 (some .int) ∈ TB := to_TB (in_t2 (i := 23) rfl) rfl
theorem wl_J6_265 : Cond.constant RJ6 265 1431655765 ∈ TB := to_TB (in_t2 (i := 24) rfl) rfl
theorem wl_J6_266 : Cond.constant RJ6 266 858993459 ∈ TB := to_TB (in_t2 (i := 25) rfl) rfl
theorem wl_J6_267 : Cond.constant RJ6 267 252645135 ∈ TB := to_TB (in_t2 (i := 26) rfl) rfl
theorem wl_X3_214 : Cond.methodLink RX3 214 yX3_mostFoodOf ∈ TB := to_TB (in_t2 (i := 27) rfl) rfl
theorem wm_X3_mostFoodOf : Cond.instanceMethod yX3_mostFoodOf ∈ TB := to_TB (in_t2 (i := 29) rfl) rfl
theorem wc_X3_mostFoodOf : Cond.code yX3_mostFoodOf cX3_mostFoodOf 2 (some .int) ∈ TB := to_TB (in_t2 (i := 30) rfl) rfl
theorem wl_X3_192 : Cond.methodLinkNest RX3 192 yX1_together "ColdDepots" ∈ NB := to_NB (in_t2 (i := 31) rfl) rfl
theorem wl_X3_209 : Cond.methodLink RX3 209 yJ9_min_7cf53 ∈ TB := to_TB (in_t2 (i := 32) rfl) rfl
theorem wl_X3_232 : Cond.methodLink RX3 232 yX3_leftAtWorst ∈ TB := to_TB (in_t2 (i := 33) rfl) rfl
theorem wm_X3_leftAtWorst : Cond.instanceMethod yX3_leftAtWorst ∈ TB := to_TB (in_t2 (i := 35) rfl) rfl
theorem wc_X3_leftAtWorst : Cond.code yX3_leftAtWorst cX3_leftAtWorst 6 (some .int) ∈ TB := to_TB (in_t2 (i := 36) rfl) rfl
theorem wl_X3_236 : Cond.methodLink RX3 236 yJ9_max_7cf53 ∈ TB := to_TB (in_t2 (i := 37) rfl) rfl
theorem ws_J9_max_7cf53 : Cond.static yJ9_max_7cf53 ∈ TB := to_TB (in_t2 (i := 38) rfl) rfl
theorem wc_J9_max_7cf53 : Cond.code yJ9_max_7cf53 cJ9_max_7cf53 2 (some .int) ∈ TB := to_TB (in_t2 (i := 39) rfl) rfl
theorem wl_L_66 : Cond.methodLink RL 66 yX3_lay ∈ TB := to_TB (in_t2 (i := 40) rfl) rfl
theorem wm_X3_lay : Cond.instanceMethod yX3_lay ∈ TB := to_TB (in_t2 (i := 41) rfl) rfl
theorem we_X3_lay : Cond.selects RX3 yX3_lay yX3_lay ∈ TB := to_TB (in_t2 (i := 42) rfl) rfl
theorem wc_X3_lay : Cond.code yX3_lay cX3_lay 4 (some .int) ∈ TB := to_TB (in_t2 (i := 43) rfl) rfl
theorem wl_L_69 : Cond.methodLink RL 69 yX3_march ∈ TB := to_TB (in_t2 (i := 44) rfl) rfl
theorem wm_X3_march : Cond.instanceMethod yX3_march ∈ TB := to_TB (in_t2 (i := 45) rfl) rfl
theorem we_X3_march : Cond.selects RX3 yX3_march yX3_march ∈ TB := to_TB (in_t2 (i := 46) rfl) rfl
theorem wc_X3_march : Cond.code yX3_march cX3_march 4 (some .int) ∈ TB := to_TB (in_t2 (i := 47) rfl) rfl
theorem wl_X3_117 : Cond.methodLink RX3 117 yX3_isNoMarch ∈ TB := to_TB (in_t2 (i := 48) rfl) rfl
theorem wm_X3_isNoMarch : Cond.instanceMethod yX3_isNoMarch ∈ TB := to_TB (in_t2 (i := 50) rfl) rfl
theorem wc_X3_isNoMarch : Cond.code yX3_isNoMarch cX3_isNoMarch 4 (some .boolean) ∈ TB := to_TB (in_t2 (i := 51) rfl) rfl
theorem wl_X3_153 : Cond.methodLink RX3 153 yX3_isNobody ∈ TB := to_TB (in_t2 (i := 52) rfl) rfl
theorem wm_X3_isNobody : Cond.instanceMethod yX3_isNobody ∈ TB := to_TB (in_t2 (i := 54) rfl) rfl
theorem wc_X3_isNobody : Cond.code yX3_isNobody cX3_isNobody 2 (some .boolean) ∈ TB := to_TB (in_t2 (i := 55) rfl) rfl
theorem wl_X3_156 : Cond.methodLink RX3 156 yX3_isNoStage ∈ TB := to_TB (in_t2 (i := 56) rfl) rfl
theorem ws_X3_isNoStage : Cond.static yX3_isNoStage ∈ TB := to_TB (in_t2 (i := 57) rfl) rfl
theorem wc_X3_isNoStage : Cond.code yX3_isNoStage cX3_isNoStage 1 (some .boolean) ∈ TB := to_TB (in_t2 (i := 58) rfl) rfl
theorem wl_X3_121 : Cond.methodLink RX3 121 yX3_anyIsDead ∈ TB := to_TB (in_t2 (i := 59) rfl) rfl
theorem wm_X3_anyIsDead : Cond.instanceMethod yX3_anyIsDead ∈ TB := to_TB (in_t2 (i := 61) rfl) rfl
theorem wc_X3_anyIsDead : Cond.code yX3_anyIsDead cX3_anyIsDead 2 (some .boolean) ∈ TB := to_TB (in_t2 (i := 62) rfl) rfl
theorem wl_X3_133 : Cond.methodLink RX3 133 yX3_copy ∈ TB := to_TB (in_t2 (i := 63) rfl) rfl
theorem wl_L_103 : Cond.methodLink RL 103 yX3_would ∈ TB := to_TB (in_t2 (i := 64) rfl) rfl
theorem wm_X3_would : Cond.instanceMethod yX3_would ∈ TB := to_TB (in_t2 (i := 65) rfl) rfl
theorem we_X3_would : Cond.selects RX3 yX3_would yX3_would ∈ TB := to_TB (in_t2 (i := 66) rfl) rfl
theorem wc_X3_would : Cond.code yX3_would cX3_would 5 (some .int) ∈ TB := to_TB (in_t2 (i := 67) rfl) rfl
theorem wl_X3_146 : Cond.methodLink RX3 146 yX3_sum ∈ TB := to_TB (in_t2 (i := 68) rfl) rfl
theorem ws_X3_sum : Cond.static yX3_sum ∈ TB := to_TB (in_t2 (i := 69) rfl) rfl
theorem wc_X3_sum : Cond.code yX3_sum cX3_sum 3 (some .int) ∈ TB := to_TB (in_t2 (i := 70) rfl) rfl
theorem wl_L_112 : Cond.methodLink RL 112 yX3_winters ∈ TB := to_TB (in_t2 (i := 71) rfl) rfl
theorem wm_X3_winters : Cond.instanceMethod yX3_winters ∈ TB := to_TB (in_t2 (i := 72) rfl) rfl
theorem we_X3_winters : Cond.selects RX3 yX3_winters yX3_winters ∈ TB := to_TB (in_t2 (i := 73) rfl) rfl
theorem wc_X3_winters : Cond.code yX3_winters cX3_winters 5 (some .int) ∈ TB := to_TB (in_t2 (i := 74) rfl) rfl
theorem wl_X3_180 : Cond.methodLink RX3 180 yX3_letCreep ∈ TB := to_TB (in_t2 (i := 75) rfl) rfl
theorem wm_X3_letCreep : Cond.instanceMethod yX3_letCreep ∈ TB := to_TB (in_t2 (i := 77) rfl) rfl
theorem wc_X3_letCreep : Cond.code yX3_letCreep cX3_letCreep 7 (some .int) ∈ TB := to_TB (in_t2 (i := 78) rfl) rfl
theorem wl_X3_239 : Cond.methodLink RX3 239 yX3_nextSeed ∈ TB := to_TB (in_t2 (i := 79) rfl) rfl
theorem ws_X3_nextSeed : Cond.static yX3_nextSeed ∈ TB := to_TB (in_t2 (i := 80) rfl) rfl
theorem wc_X3_nextSeed : Cond.code yX3_nextSeed cX3_nextSeed 1 (some .int) ∈ TB := to_TB (in_t2 (i := 81) rfl) rfl
theorem wl_X3_242 : Cond.constant RX3 242 1103515245 ∈ TB := to_TB (in_t2 (i := 82) rfl) rfl
theorem wl_X3_243 : Cond.constant RX3 243 2147483647 ∈ TB := to_TB (in_t2 (i := 83) rfl) rfl
theorem wl_X3_163 : Cond.methodLink RX3 163 yX3_farthest ∈ TB := to_TB (in_t2 (i := 84) rfl) rfl
theorem wm_X3_farthest : Cond.instanceMethod yX3_farthest ∈ TB := to_TB (in_t2 (i := 86) rfl) rfl
theorem wc_X3_farthest : Cond.code yX3_farthest cX3_farthest 4 (some .int) ∈ TB := to_TB (in_t2 (i := 87) rfl) rfl
theorem wl_X3_159 : Cond.methodLink RX3 159 yX3_leastFood ∈ TB := to_TB (in_t2 (i := 88) rfl) rfl
theorem wm_X3_leastFood : Cond.instanceMethod yX3_leastFood ∈ TB := to_TB (in_t2 (i := 90) rfl) rfl
theorem wc_X3_leastFood : Cond.code yX3_leastFood cX3_leastFood 6 (some .int) ∈ TB := to_TB (in_t2 (i := 91) rfl) rfl
theorem wl_L_73 : Cond.methodLink RL 73 yL_cell ∈ TB := to_TB (in_t2 (i := 92) rfl) rfl
theorem ws_L_cell : Cond.static yL_cell ∈ TB := to_TB (in_t2 (i := 93) rfl) rfl
theorem wc_L_cell : Cond.code yL_cell cL_cell 2 (some .int) ∈ TB := to_TB (in_t2 (i := 94) rfl) rfl
theorem wl_L_7 : Cond.constant RL 7 747796405 ∈ TB := to_TB (in_t2 (i := 95) rfl) rfl
theorem wl_L_8 : Cond.methodLink RL 8 yL_at ∈ TB := to_TB (in_t2 (i := 96) rfl) rfl
theorem ws_L_at : Cond.static yL_at ∈ TB := to_TB (in_t2 (i := 97) rfl) rfl
theorem wc_L_at : Cond.code yL_at cL_at 2 (some .int) ∈ TB := to_TB (in_t2 (i := 98) rfl) rfl
theorem wl_L_77 : Cond.methodLink RL 77 yL_campText ∈ TB := to_TB (in_t2 (i := 99) rfl) rfl
theorem ws_L_campText : Cond.static yL_campText ∈ TB := to_TB (in_t2 (i := 100) rfl) rfl
theorem wc_L_campText : Cond.code yL_campText cL_campText 7 (some .int) ∈ TB := to_TB (in_t2 (i := 101) rfl) rfl
theorem wl_L_81 : Cond.methodLink RL 81 yL_write ∈ TB := to_TB (in_t2 (i := 102) rfl) rfl
theorem ws_L_write : Cond.static yL_write ∈ TB := to_TB (in_t2 (i := 103) rfl) rfl
theorem wc_L_write : Cond.code yL_write cL_write 4 (some .boolean) ∈ TB := to_TB (in_t2 (i := 104) rfl) rfl
theorem wl_L_14 : Cond.methodLink RL 14 yX3_letter ∈ TB := to_TB (in_t2 (i := 105) rfl) rfl
theorem wm_X3_letter : Cond.instanceMethod yX3_letter ∈ TB := to_TB (in_t2 (i := 106) rfl) rfl
theorem we_X3_letter : Cond.selects RX3 yX3_letter yX3_letter ∈ TB := to_TB (in_t2 (i := 107) rfl) rfl
theorem wc_X3_letter : Cond.code yX3_letter cX3_letter 2 (some .int) ∈ TB := to_TB (in_t2 (i := 108) rfl) rfl
theorem wl_X3_37 : Cond.methodLinkNest RX3 37 yX0_add "ColdDepots" ∈ NB := to_NB (in_t2 (i := 109) rfl) rfl
theorem wm_X0_add : Cond.instanceMethod yX0_add ∈ TB := to_TB (in_t2 (i := 111) rfl) rfl
theorem wc_X0_add : Cond.code yX0_add cX0_add 2 (some .boolean) ∈ TB := to_TB (in_t2 (i := 112) rfl) rfl
theorem wl_X0_19 : Cond.methodLinkNest RX0 19 yX3_put "ColdDepots" ∈ NB := to_NB (in_t2 (i := 113) rfl) rfl
theorem wl_L_38 : Cond.methodLink RL 38 yL_march ∈ TB := to_TB (in_t2 (i := 114) rfl) rfl
theorem ws_L_march : Cond.static yL_march ∈ TB := to_TB (in_t2 (i := 115) rfl) rfl
theorem wc_L_march : Cond.code yL_march cL_march 10 none ∈ TB := to_TB (in_t2 (i := 116) rfl) rfl
theorem wl_L_27 : Cond.methodLink RL 27 yL_sum ∈ TB := to_TB (in_t2 (i := 117) rfl) rfl
theorem ws_L_sum : Cond.static yL_sum ∈ TB := to_TB (in_t2 (i := 118) rfl) rfl
theorem wc_L_sum : Cond.code yL_sum cL_sum 5 (some .int) ∈ TB := to_TB (in_t2 (i := 119) rfl) rfl
theorem wl_L_20 : Cond.methodLink RL 20 yL_in ∈ TB := to_TB (in_t2 (i := 120) rfl) rfl
theorem ws_L_in : Cond.static yL_in ∈ TB := to_TB (in_t2 (i := 121) rfl) rfl
theorem wc_L_in : Cond.code yL_in cL_in 2 (some .boolean) ∈ TB := to_TB (in_t2 (i := 122) rfl) rfl
theorem wl_L_24 : Cond.methodLink RL 24 yL_pulls ∈ TB := to_TB (in_t2 (i := 123) rfl) rfl
theorem ws_L_pulls : Cond.static yL_pulls ∈ TB := to_TB (in_t2 (i := 124) rfl) rfl
theorem wc_L_pulls : Cond.code yL_pulls cL_pulls 1 (some .int) ∈ TB := to_TB (in_t2 (i := 125) rfl) rfl
theorem wl_L_31 : Cond.methodLink RL 31 yL_feeds ∈ TB := to_TB (in_t2 (i := 126) rfl) rfl
theorem ws_L_feeds : Cond.static yL_feeds ∈ TB := to_TB (in_t2 (i := 127) rfl) rfl
theorem wc_L_feeds : Cond.code yL_feeds cL_feeds 1 (some .int) ∈ TB := to_TB (in_t2 (i := 128) rfl) rfl
theorem wl_L_62 : Cond.methodLink RL 62 yL_lying ∈ TB := to_TB (in_t2 (i := 129) rfl) rfl
theorem ws_L_lying : Cond.static yL_lying ∈ TB := to_TB (in_t2 (i := 130) rfl) rfl
theorem wc_L_lying : Cond.code yL_lying cL_lying 1 (some .int) ∈ TB := to_TB (in_t2 (i := 131) rfl) rfl
theorem wl_L_34 : Cond.methodLink RL 34 yL_over ∈ TB := to_TB (in_t2 (i := 132) rfl) rfl
theorem ws_L_over : Cond.static yL_over ∈ TB := to_TB (in_t2 (i := 133) rfl) rfl
theorem wc_L_over : Cond.code yL_over cL_over 3 none ∈ TB := to_TB (in_t2 (i := 134) rfl) rfl
theorem wl_L_92 : Cond.methodLink RL 92 yL_stands ∈ TB := to_TB (in_t2 (i := 135) rfl) rfl
theorem ws_L_stands : Cond.static yL_stands ∈ TB := to_TB (in_t2 (i := 136) rfl) rfl
theorem wc_L_stands : Cond.code yL_stands cL_stands 4 (some .boolean) ∈ TB := to_TB (in_t2 (i := 137) rfl) rfl
theorem wl_L_56 : Cond.methodLink RL 56 yX3_count ∈ TB := to_TB (in_t2 (i := 138) rfl) rfl
theorem wm_X3_count : Cond.instanceMethod yX3_count ∈ TB := to_TB (in_t2 (i := 139) rfl) rfl
theorem we_X3_count : Cond.selects RX3 yX3_count yX3_count ∈ TB := to_TB (in_t2 (i := 140) rfl) rfl
theorem wc_X3_count : Cond.code yX3_count cX3_count 2 (some .int) ∈ TB := to_TB (in_t2 (i := 141) rfl) rfl
theorem wl_L_59 : Cond.methodLink RL 59 yL_size ∈ TB := to_TB (in_t2 (i := 142) rfl) rfl
theorem ws_L_size : Cond.static yL_size ∈ TB := to_TB (in_t2 (i := 143) rfl) rfl
theorem wc_L_size : Cond.code yL_size cL_size 3 (some .int) ∈ TB := to_TB (in_t2 (i := 144) rfl) rfl
theorem wl_L_99 : Cond.methodLink RL 99 yL_does ∈ TB := to_TB (in_t2 (i := 145) rfl) rfl
theorem ws_L_does : Cond.static yL_does ∈ TB := to_TB (in_t2 (i := 146) rfl) rfl
theorem wc_L_does : Cond.code yL_does cL_does 8 (some .boolean) ∈ TB := to_TB (in_t2 (i := 147) rfl) rfl
theorem wl_L_108 : Cond.methodLink RL 108 yL_winters ∈ TB := to_TB (in_t2 (i := 148) rfl) rfl
theorem ws_L_winters : Cond.static yL_winters ∈ TB := to_TB (in_t2 (i := 149) rfl) rfl
theorem wc_L_winters : Cond.code yL_winters cL_winters 12 (some .boolean) ∈ TB := to_TB (in_t2 (i := 150) rfl) rfl
theorem wl_L_114 : Cond.constantLong RL 114 1103515245 ∈ TB := to_TB (in_t2 (i := 151) rfl) rfl
theorem wl_L_116 : Cond.constantLong RL 116 12345 ∈ TB := to_TB (in_t2 (i := 152) rfl) rfl
theorem wl_L_118 : Cond.constantLong RL 118 2147483648 ∈ TB := to_TB (in_t2 (i := 153) rfl) rfl
theorem wl_L_120 : Cond.constantLong RL 120 65536 ∈ TB := to_TB (in_t2 (i := 154) rfl) rfl
theorem wl_L_122 : Cond.constantLong RL 122 3 ∈ TB := to_TB (in_t2 (i := 155) rfl) rfl
theorem wl_L_124 : Cond.methodLink RL 124 yL_far ∈ TB := to_TB (in_t2 (i := 156) rfl) rfl
theorem ws_L_far : Cond.static yL_far ∈ TB := to_TB (in_t2 (i := 157) rfl) rfl
theorem wc_L_far : Cond.code yL_far cL_far 6 (some .int) ∈ TB := to_TB (in_t2 (i := 158) rfl) rfl
theorem wl_L_46 : Cond.methodLink RL 46 yL_need ∈ TB := to_TB (in_t2 (i := 159) rfl) rfl
theorem ws_L_need : Cond.static yL_need ∈ TB := to_TB (in_t2 (i := 160) rfl) rfl
theorem wc_L_need : Cond.code yL_need cL_need 7 (some .int) ∈ TB := to_TB (in_t2 (i := 161) rfl) rfl
theorem wl_L_42 : Cond.methodLink RL 42 yL_home ∈ TB := to_TB (in_t2 (i := 162) rfl) rfl
theorem ws_L_home : Cond.static yL_home ∈ TB := to_TB (in_t2 (i := 163) rfl) rfl
theorem wc_L_home : Cond.code yL_home cL_home 7 (some .boolean) ∈ TB := to_TB (in_t2 (i := 164) rfl) rfl
theorem wl_L_107 : Cond.constant RL 107 2147483647 ∈ TB := to_TB (in_t2 (i := 165) rfl) rfl
theorem we_X0_firstWrong : Cond.selects RX0 yX0_firstWrong yX0_firstWrong ∈ TB := to_TB (in_sel (in_p1 (i := 0) rfl)) rfl
theorem we_X0_codeAt : Cond.selects RX0 yX0_codeAt yX0_codeAt ∈ TB := to_TB (in_sel (in_p1 (i := 1) rfl)) rfl
theorem we_X0_isCamp : Cond.selects RX0 yX0_isCamp yX0_isCamp ∈ TB := to_TB (in_sel (in_p1 (i := 2) rfl)) rfl
theorem we_X1_all : Cond.selects RX1 yX1_all yX1_all ∈ TB := to_TB (in_sel (in_p1 (i := 3) rfl)) rfl
theorem we_X2_begin : Cond.selects RX2 yX2_begin yX2_begin ∈ TB := to_TB (in_sel (in_p1 (i := 4) rfl)) rfl
theorem we_X3_isNoCairn : Cond.selects RX3 yX3_isNoCairn yX3_isNoCairn ∈ TB := to_TB (in_sel (in_p1 (i := 5) rfl)) rfl
theorem we_X3_amountsAt : Cond.selects RX3 yX3_amountsAt yX3_amountsAt ∈ TB := to_TB (in_sel (in_p1 (i := 6) rfl)) rfl
theorem we_X3_isAllSo : Cond.selects RX3 yX3_isAllSo yX3_isAllSo ∈ TB := to_TB (in_sel (in_p1 (i := 7) rfl)) rfl
theorem we_X1_setCairns : Cond.selects RX1 yX1_setCairns yX1_setCairns ∈ TB := to_TB (in_sel (in_p1 (i := 8) rfl)) rfl
theorem we_X1_go : Cond.selects RX1 yX1_go yX1_go ∈ TB := to_TB (in_sel (in_p1 (i := 9) rfl)) rfl
theorem we_X1_setOut : Cond.selects RX1 yX1_setOut yX1_setOut ∈ TB := to_TB (in_sel (in_p1 (i := 10) rfl)) rfl
theorem we_X1_together : Cond.selects RX1 yX1_together yX1_together ∈ TB := to_TB (in_sel (in_p1 (i := 11) rfl)) rfl
theorem we_X1_eatPonies : Cond.selects RX1 yX1_eatPonies yX1_eatPonies ∈ TB := to_TB (in_sel (in_p1 (i := 12) rfl)) rfl
theorem we_X1_devour : Cond.selects RX1 yX1_devour yX1_devour ∈ TB := to_TB (in_sel (in_p1 (i := 13) rfl)) rfl
theorem we_X1_eatBeasts : Cond.selects RX1 yX1_eatBeasts yX1_eatBeasts ∈ TB := to_TB (in_sel (in_p1 (i := 14) rfl)) rfl
theorem we_X1_dieOn : Cond.selects RX1 yX1_dieOn yX1_dieOn ∈ TB := to_TB (in_sel (in_p1 (i := 15) rfl)) rfl
theorem we_X1_takeUpAt : Cond.selects RX1 yX1_takeUpAt yX1_takeUpAt ∈ TB := to_TB (in_sel (in_p2 (i := 0) rfl)) rfl
theorem we_X3_bestTrial : Cond.selects RX3 yX3_bestTrial yX3_bestTrial ∈ TB := to_TB (in_sel (in_p2 (i := 1) rfl)) rfl
theorem we_X3_mostFoodOf : Cond.selects RX3 yX3_mostFoodOf yX3_mostFoodOf ∈ TB := to_TB (in_sel (in_p2 (i := 2) rfl)) rfl
theorem we_X3_leftAtWorst : Cond.selects RX3 yX3_leftAtWorst yX3_leftAtWorst ∈ TB := to_TB (in_sel (in_p2 (i := 3) rfl)) rfl
theorem we_X3_isNoMarch : Cond.selects RX3 yX3_isNoMarch yX3_isNoMarch ∈ TB := to_TB (in_sel (in_p2 (i := 4) rfl)) rfl
theorem we_X3_isNobody : Cond.selects RX3 yX3_isNobody yX3_isNobody ∈ TB := to_TB (in_sel (in_p2 (i := 5) rfl)) rfl
theorem we_X3_anyIsDead : Cond.selects RX3 yX3_anyIsDead yX3_anyIsDead ∈ TB := to_TB (in_sel (in_p2 (i := 6) rfl)) rfl
theorem we_X3_letCreep : Cond.selects RX3 yX3_letCreep yX3_letCreep ∈ TB := to_TB (in_sel (in_p2 (i := 7) rfl)) rfl
theorem we_X3_farthest : Cond.selects RX3 yX3_farthest yX3_farthest ∈ TB := to_TB (in_sel (in_p2 (i := 8) rfl)) rfl
theorem we_X3_leastFood : Cond.selects RX3 yX3_leastFood yX3_leastFood ∈ TB := to_TB (in_sel (in_p2 (i := 9) rfl)) rfl
theorem we_X0_add : Cond.selects RX0 yX0_add yX0_add ∈ TB := to_TB (in_sel (in_p2 (i := 10) rfl)) rfl
theorem wf_X0_0 : u_lay RX0 TX0 0 ∈ TB := to_TB (in_t1 (i := 24) rfl) rfl
theorem wf_X0_1 : u_lay RX0 TX0 1 ∈ TB := to_TB (in_t1 (i := 26) rfl) rfl
theorem wf_X0 : ∀ w ∈ u_ws RX0 TX0 2, w ∈ TB := fun w hw => by
  obtain ⟨k, hk, rfl⟩ := List.mem_map.mp hw
  have hk := List.mem_range.mp hk
  match k, hk with
  | 0, _ => exact wf_X0_0
  | 1, _ => exact wf_X0_1
  | k + 2, hk => exact absurd hk (by omega)
theorem wf_X1_0 : u_lay RX1 TX1 0 ∈ TB := to_TB (in_t1 (i := 50) rfl) rfl
theorem wf_X1_1 : u_lay RX1 TX1 1 ∈ TB := to_TB (in_t1 (i := 52) rfl) rfl
theorem wf_X1_2 : u_lay RX1 TX1 2 ∈ TB := to_TB (in_t1 (i := 54) rfl) rfl
theorem wf_X1_3 : u_lay RX1 TX1 3 ∈ TB := to_TB (in_t1 (i := 56) rfl) rfl
theorem wf_X1_4 : u_lay RX1 TX1 4 ∈ TB := to_TB (in_t1 (i := 58) rfl) rfl
theorem wf_X1_5 : u_lay RX1 TX1 5 ∈ TB := to_TB (in_t1 (i := 60) rfl) rfl
theorem wf_X1_6 : u_lay RX1 TX1 6 ∈ TB := to_TB (in_t1 (i := 62) rfl) rfl
theorem wf_X1_7 : u_lay RX1 TX1 7 ∈ TB := to_TB (in_t1 (i := 64) rfl) rfl
theorem wf_X1 : ∀ w ∈ u_ws RX1 TX1 8, w ∈ TB := fun w hw => by
  obtain ⟨k, hk, rfl⟩ := List.mem_map.mp hw
  have hk := List.mem_range.mp hk
  match k, hk with
  | 0, _ => exact wf_X1_0
  | 1, _ => exact wf_X1_1
  | 2, _ => exact wf_X1_2
  | 3, _ => exact wf_X1_3
  | 4, _ => exact wf_X1_4
  | 5, _ => exact wf_X1_5
  | 6, _ => exact wf_X1_6
  | 7, _ => exact wf_X1_7
  | k + 8, hk => exact absurd hk (by omega)
theorem wf_X2_0 : u_lay RX2 TX2 0 ∈ TB := to_TB (in_t1 (i := 91) rfl) rfl
theorem wf_X2_1 : u_lay RX2 TX2 1 ∈ TB := to_TB (in_t1 (i := 93) rfl) rfl
theorem wf_X2_2 : u_lay RX2 TX2 2 ∈ TB := to_TB (in_t1 (i := 95) rfl) rfl
theorem wf_X2_3 : u_lay RX2 TX2 3 ∈ TB := to_TB (in_t1 (i := 97) rfl) rfl
theorem wf_X2_4 : u_lay RX2 TX2 4 ∈ TB := to_TB (in_t1 (i := 99) rfl) rfl
theorem wf_X2_5 : u_lay RX2 TX2 5 ∈ TB := to_TB (in_t1 (i := 101) rfl) rfl
theorem wf_X2_6 : u_lay RX2 TX2 6 ∈ TB := to_TB (in_t1 (i := 103) rfl) rfl
theorem wf_X2_7 : u_lay RX2 TX2 7 ∈ TB := to_TB (in_t1 (i := 105) rfl) rfl
theorem wf_X2_8 : u_lay RX2 TX2 8 ∈ TB := to_TB (in_t1 (i := 107) rfl) rfl
theorem wf_X2 : ∀ w ∈ u_ws RX2 TX2 9, w ∈ TB := fun w hw => by
  obtain ⟨k, hk, rfl⟩ := List.mem_map.mp hw
  have hk := List.mem_range.mp hk
  match k, hk with
  | 0, _ => exact wf_X2_0
  | 1, _ => exact wf_X2_1
  | 2, _ => exact wf_X2_2
  | 3, _ => exact wf_X2_3
  | 4, _ => exact wf_X2_4
  | 5, _ => exact wf_X2_5
  | 6, _ => exact wf_X2_6
  | 7, _ => exact wf_X2_7
  | 8, _ => exact wf_X2_8
  | k + 9, hk => exact absurd hk (by omega)
theorem wf_X3_0 : u_lay RX3 TX3 0 ∈ TB := to_TB (in_t1 (i := 118) rfl) rfl
theorem wf_X3_1 : u_lay RX3 TX3 1 ∈ TB := to_TB (in_t1 (i := 120) rfl) rfl
theorem wf_X3_2 : u_lay RX3 TX3 2 ∈ TB := to_TB (in_t1 (i := 122) rfl) rfl
theorem wf_X3_3 : u_lay RX3 TX3 3 ∈ TB := to_TB (in_t1 (i := 124) rfl) rfl
theorem wf_X3_4 : u_lay RX3 TX3 4 ∈ TB := to_TB (in_t1 (i := 126) rfl) rfl
theorem wf_X3_5 : u_lay RX3 TX3 5 ∈ TB := to_TB (in_t1 (i := 128) rfl) rfl
theorem wf_X3_6 : u_lay RX3 TX3 6 ∈ TB := to_TB (in_t1 (i := 130) rfl) rfl
theorem wf_X3_7 : u_lay RX3 TX3 7 ∈ TB := to_TB (in_t1 (i := 132) rfl) rfl
theorem wf_X3 : ∀ w ∈ u_ws RX3 TX3 8, w ∈ TB := fun w hw => by
  obtain ⟨k, hk, rfl⟩ := List.mem_map.mp hw
  have hk := List.mem_range.mp hk
  match k, hk with
  | 0, _ => exact wf_X3_0
  | 1, _ => exact wf_X3_1
  | 2, _ => exact wf_X3_2
  | 3, _ => exact wf_X3_3
  | 4, _ => exact wf_X3_4
  | 5, _ => exact wf_X3_5
  | 6, _ => exact wf_X3_6
  | 7, _ => exact wf_X3_7
  | k + 8, hk => exact absurd hk (by omega)
