def nestWord : Cond → Bool
  | .fieldLinkNest .. => true
  | .methodLinkNest .. => true
  | _ => false
def TB : List Cond := lw_tbl.filter goodWord
def NB : List Cond := lw_tbl.filter nestWord
theorem in_t1 {i : Nat} {w : Cond} (h : tables_1_1[i]? = some w) : w ∈ lw_tbl := List.mem_append_right _ (List.mem_append_left _ (List.mem_of_getElem? h))
theorem in_t2 {i : Nat} {w : Cond} (h : tables_1_2[i]? = some w) : w ∈ lw_tbl := List.mem_append_right _ (List.mem_append_right _ (List.mem_append_left _ (List.mem_of_getElem? h)))
theorem in_t3 {i : Nat} {w : Cond} (h : tables_1_3[i]? = some w) : w ∈ lw_tbl := List.mem_append_right _ (List.mem_append_right _ (List.mem_append_right _ (List.mem_of_getElem? h)))
theorem in_sel {q : MethodName × Nat} (h : q ∈ lw_privs) : Cond.selects q.1.cls q.1 q.1 ∈ lw_tbl := List.mem_append_left _ (List.mem_map.mpr ⟨q, h, rfl⟩)
theorem to_TB {w : Cond} (h : w ∈ lw_tbl) (g : goodWord w = true) : w ∈ TB := List.mem_filter.mpr ⟨h, g⟩
theorem to_NB {w : Cond} (h : w ∈ lw_tbl) (g : nestWord w = true) : w ∈ NB := List.mem_filter.mpr ⟨h, g⟩
theorem in_p1 {i : Nat} {q : MethodName × Nat} (h : lw_privs_1[i]? = some q) : q ∈ lw_privs := List.mem_append_left _ (List.mem_of_getElem? h)
theorem in_p2 {i : Nat} {q : MethodName × Nat} (h : lw_privs_2[i]? = some q) : q ∈ lw_privs := List.mem_append_right _ (List.mem_append_left _ (List.mem_of_getElem? h))
theorem in_p3 {i : Nat} {q : MethodName × Nat} (h : lw_privs_3[i]? = some q) : q ∈ lw_privs := List.mem_append_right _ (List.mem_append_right _ (List.mem_append_left _ (List.mem_of_getElem? h)))
theorem in_p4 {i : Nat} {q : MethodName × Nat} (h : lw_privs_4[i]? = some q) : q ∈ lw_privs := List.mem_append_right _ (List.mem_append_right _ (List.mem_append_right _ (List.mem_of_getElem? h)))

theorem wi_L : Cond.initialized RL ∈ TB := to_TB (in_t1 (i := 0) rfl) rfl
theorem wi_X3 : Cond.initialized RX3 ∈ TB := to_TB (in_t1 (i := 1) rfl) rfl
theorem wi_X0 : Cond.initialized RX0 ∈ TB := to_TB (in_t1 (i := 2) rfl) rfl
theorem wi_X1 : Cond.initialized RX1 ∈ TB := to_TB (in_t1 (i := 3) rfl) rfl
theorem wi_X2 : Cond.initialized RX2 ∈ TB := to_TB (in_t1 (i := 4) rfl) rfl
theorem wi_X4 : Cond.initialized RX4 ∈ TB := to_TB (in_t1 (i := 5) rfl) rfl
theorem wi_J9 : Cond.initialized RJ9 ∈ TB := to_TB (in_t1 (i := 6) rfl) rfl
theorem wi_J6 : Cond.initialized RJ6 ∈ TB := to_TB (in_t1 (i := 7) rfl) rfl
theorem wl_L_7 : Cond.classLink RL 7 RX3 ∈ TB := to_TB (in_t1 (i := 8) rfl) rfl
theorem wn_X3 : Cond.instantiable RX3 8 ∈ TB := to_TB (in_t1 (i := 9) rfl) rfl
theorem wl_L_9 : Cond.methodLink RL 9 yX3_init ∈ TB := to_TB (in_t1 (i := 10) rfl) rfl
theorem wm_X3_init : Cond.instanceMethod yX3_init ∈ TB := to_TB (in_t1 (i := 11) rfl) rfl
theorem wc_X3_init : Cond.code yX3_init cX3_init 1 none ∈ TB := to_TB (in_t1 (i := 12) rfl) rfl
theorem wl_X3_1 : Cond.methodLink RX3 1 objectInit ∈ TB := to_TB (in_t1 (i := 13) rfl) rfl
theorem wm_obj : Cond.instanceMethod objectInit ∈ TB := to_TB (in_t1 (i := 14) rfl) rfl
theorem wc_obj : Cond.code objectInit ⟨#[0xb1]⟩ 1 none ∈ TB := to_TB (in_t1 (i := 15) rfl) rfl
theorem wl_X3_7 : Cond.classLink RX3 7 RX0 ∈ TB := to_TB (in_t1 (i := 16) rfl) rfl
theorem wn_X0 : Cond.instantiable RX0 2 ∈ TB := to_TB (in_t1 (i := 17) rfl) rfl
theorem wl_X3_9 : Cond.methodLinkNest RX3 9 yX0_init "ColdDepots" ∈ NB := to_NB (in_t1 (i := 18) rfl) rfl
theorem wm_X0_init : Cond.instanceMethod yX0_init ∈ TB := to_TB (in_t1 (i := 19) rfl) rfl
theorem wc_X0_init : Cond.code yX0_init cX0_init 1 none ∈ TB := to_TB (in_t1 (i := 20) rfl) rfl
theorem wl_X0_3 : Cond.methodLink RX0 3 objectInit ∈ TB := to_TB (in_t1 (i := 21) rfl) rfl
theorem wl_X0_9 : Cond.fieldLink RX0 9 "ColdDepots$Page" "codes" "[I" ∈ TB := to_TB (in_t1 (i := 22) rfl) rfl
theorem wl_X0_15 : Cond.fieldLink RX0 15 "ColdDepots$Page" "length" "I" ∈ TB := to_TB (in_t1 (i := 23) rfl) rfl
theorem wl_X3_41 : Cond.fieldLinkNest RX3 41 "ColdDepots$Page" "length" "I" "ColdDepots" ∈ NB := to_NB (in_t1 (i := 24) rfl) rfl
theorem w_arr : Cond.arrayClass .int ∈ TB := to_TB (in_t1 (i := 30) rfl) rfl
theorem wl_X3_16 : Cond.classLink RX3 16 RX1 ∈ TB := to_TB (in_t1 (i := 31) rfl) rfl
theorem wn_X1 : Cond.instantiable RX1 8 ∈ TB := to_TB (in_t1 (i := 32) rfl) rfl
theorem wl_X3_18 : Cond.methodLinkNest RX3 18 yX1_init "ColdDepots" ∈ NB := to_NB (in_t1 (i := 33) rfl) rfl
theorem wm_X1_init : Cond.instanceMethod yX1_init ∈ TB := to_TB (in_t1 (i := 34) rfl) rfl
theorem wc_X1_init : Cond.code yX1_init cX1_init 1 none ∈ TB := to_TB (in_t1 (i := 35) rfl) rfl
theorem wl_X1_3 : Cond.methodLink RX1 3 objectInit ∈ TB := to_TB (in_t1 (i := 36) rfl) rfl
theorem wl_X1_9 : Cond.fieldLink RX1 9 "ColdDepots$Party" "kinds" "[I" ∈ TB := to_TB (in_t1 (i := 37) rfl) rfl
theorem wl_X3_56 : Cond.fieldLinkNest RX3 56 "ColdDepots$Party" "kinds" "[I" "ColdDepots" ∈ NB := to_NB (in_t1 (i := 38) rfl) rfl
theorem wl_X1_18 : Cond.fieldLink RX1 18 "ColdDepots$Party" "size" "I" ∈ TB := to_TB (in_t1 (i := 39) rfl) rfl
theorem wl_X3_53 : Cond.fieldLinkNest RX3 53 "ColdDepots$Party" "size" "I" "ColdDepots" ∈ NB := to_NB (in_t1 (i := 40) rfl) rfl
theorem wl_X1_15 : Cond.fieldLink RX1 15 "ColdDepots$Party" "cairns" "[I" ∈ TB := to_TB (in_t1 (i := 41) rfl) rfl
theorem wl_X3_132 : Cond.fieldLinkNest RX3 132 "ColdDepots$Party" "cairns" "[I" "ColdDepots" ∈ NB := to_NB (in_t1 (i := 42) rfl) rfl
theorem wl_X1_40 : Cond.fieldLink RX1 40 "ColdDepots$Party" "alive" "I" ∈ TB := to_TB (in_t1 (i := 43) rfl) rfl
theorem wl_X3_131 : Cond.fieldLinkNest RX3 131 "ColdDepots$Party" "alive" "I" "ColdDepots" ∈ NB := to_NB (in_t1 (i := 44) rfl) rfl
theorem wl_X1_43 : Cond.fieldLink RX1 43 "ColdDepots$Party" "food" "I" ∈ TB := to_TB (in_t1 (i := 45) rfl) rfl
theorem wl_X3_143 : Cond.fieldLinkNest RX3 143 "ColdDepots$Party" "food" "I" "ColdDepots" ∈ NB := to_NB (in_t1 (i := 46) rfl) rfl
theorem wl_X1_63 : Cond.fieldLink RX1 63 "ColdDepots$Party" "pull" "I" ∈ TB := to_TB (in_t1 (i := 47) rfl) rfl
theorem wl_X1_46 : Cond.fieldLink RX1 46 "ColdDepots$Party" "eat" "I" ∈ TB := to_TB (in_t1 (i := 48) rfl) rfl
theorem wl_X1_75 : Cond.fieldLink RX1 75 "ColdDepots$Party" "diedOn" "I" ∈ TB := to_TB (in_t1 (i := 49) rfl) rfl
theorem wl_X3_150 : Cond.fieldLinkNest RX3 150 "ColdDepots$Party" "diedOn" "I" "ColdDepots" ∈ NB := to_NB (in_t1 (i := 50) rfl) rfl
theorem wl_X3_23 : Cond.classLink RX3 23 RX2 ∈ TB := to_TB (in_t1 (i := 68) rfl) rfl
theorem wn_X2 : Cond.instantiable RX2 9 ∈ TB := to_TB (in_t1 (i := 69) rfl) rfl
theorem wl_X3_25 : Cond.methodLinkNest RX3 25 yX2_init "ColdDepots" ∈ NB := to_NB (in_t1 (i := 70) rfl) rfl
theorem wm_X2_init : Cond.instanceMethod yX2_init ∈ TB := to_TB (in_t1 (i := 71) rfl) rfl
theorem wc_X2_init : Cond.code yX2_init cX2_init 1 none ∈ TB := to_TB (in_t1 (i := 72) rfl) rfl
theorem wl_X2_3 : Cond.methodLink RX2 3 objectInit ∈ TB := to_TB (in_t1 (i := 73) rfl) rfl
theorem wl_X2_27 : Cond.fieldLink RX2 27 "ColdDepots$Standing" "alive" "I" ∈ TB := to_TB (in_t1 (i := 74) rfl) rfl
theorem wl_X3_100 : Cond.fieldLinkNest RX3 100 "ColdDepots$Standing" "alive" "I" "ColdDepots" ∈ NB := to_NB (in_t1 (i := 75) rfl) rfl
theorem wl_X2_9 : Cond.fieldLink RX2 9 "ColdDepots$Standing" "cairns" "[I" ∈ TB := to_TB (in_t1 (i := 76) rfl) rfl
theorem wl_X3_77 : Cond.fieldLinkNest RX3 77 "ColdDepots$Standing" "cairns" "[I" "ColdDepots" ∈ NB := to_NB (in_t1 (i := 77) rfl) rfl
theorem wl_X2_31 : Cond.fieldLink RX2 31 "ColdDepots$Standing" "marches" "I" ∈ TB := to_TB (in_t1 (i := 78) rfl) rfl
theorem wl_X3_137 : Cond.fieldLinkNest RX3 137 "ColdDepots$Standing" "marches" "I" "ColdDepots" ∈ NB := to_NB (in_t1 (i := 79) rfl) rfl
theorem wl_X2_34 : Cond.fieldLink RX2 34 "ColdDepots$Standing" "comingsHome" "I" ∈ TB := to_TB (in_t1 (i := 80) rfl) rfl
theorem wl_X3_140 : Cond.fieldLinkNest RX3 140 "ColdDepots$Standing" "comingsHome" "I" "ColdDepots" ∈ NB := to_NB (in_t1 (i := 81) rfl) rfl
theorem wl_X2_37 : Cond.fieldLink RX2 37 "ColdDepots$Standing" "heard" "I" ∈ TB := to_TB (in_t1 (i := 82) rfl) rfl
theorem wl_X3_173 : Cond.fieldLinkNest RX3 173 "ColdDepots$Standing" "heard" "I" "ColdDepots" ∈ NB := to_NB (in_t1 (i := 83) rfl) rfl
theorem wl_X2_15 : Cond.fieldLink RX2 15 "ColdDepots$Standing" "heardMembers" "[I" ∈ TB := to_TB (in_t1 (i := 84) rfl) rfl
theorem wl_X3_223 : Cond.fieldLinkNest RX3 223 "ColdDepots$Standing" "heardMembers" "[I" "ColdDepots" ∈ NB := to_NB (in_t1 (i := 85) rfl) rfl
theorem wl_X2_18 : Cond.fieldLink RX2 18 "ColdDepots$Standing" "heardStages" "[I" ∈ TB := to_TB (in_t1 (i := 86) rfl) rfl
theorem wl_X3_220 : Cond.fieldLinkNest RX3 220 "ColdDepots$Standing" "heardStages" "[I" "ColdDepots" ∈ NB := to_NB (in_t1 (i := 87) rfl) rfl
theorem wl_X2_21 : Cond.fieldLink RX2 21 "ColdDepots$Standing" "heardFoods" "[I" ∈ TB := to_TB (in_t1 (i := 88) rfl) rfl
theorem wl_X3_226 : Cond.fieldLinkNest RX3 226 "ColdDepots$Standing" "heardFoods" "[I" "ColdDepots" ∈ NB := to_NB (in_t1 (i := 89) rfl) rfl
theorem wl_X2_24 : Cond.fieldLink RX2 24 "ColdDepots$Standing" "heardHomes" "[I" ∈ TB := to_TB (in_t1 (i := 90) rfl) rfl
theorem wl_X3_229 : Cond.fieldLinkNest RX3 229 "ColdDepots$Standing" "heardHomes" "[I" "ColdDepots" ∈ NB := to_NB (in_t1 (i := 91) rfl) rfl
theorem wl_X3_10 : Cond.fieldLink RX3 10 "ColdDepots" "page" "LColdDepots$Page;" ∈ TB := to_TB (in_t1 (i := 111) rfl) rfl
theorem wl_X3_19 : Cond.fieldLink RX3 19 "ColdDepots" "party" "LColdDepots$Party;" ∈ TB := to_TB (in_t1 (i := 112) rfl) rfl
theorem wl_X3_26 : Cond.fieldLink RX3 26 "ColdDepots" "now" "LColdDepots$Standing;" ∈ TB := to_TB (in_t1 (i := 113) rfl) rfl
theorem wl_X3_30 : Cond.fieldLink RX3 30 "ColdDepots" "kept" "LColdDepots$Standing;" ∈ TB := to_TB (in_t1 (i := 114) rfl) rfl
theorem wl_X3_33 : Cond.fieldLink RX3 33 "ColdDepots" "wintered" "[I" ∈ TB := to_TB (in_t1 (i := 115) rfl) rfl
theorem wl_X3_80 : Cond.fieldLink RX3 80 "ColdDepots" "imageKept" "Z" ∈ TB := to_TB (in_t1 (i := 116) rfl) rfl
theorem wl_X3_84 : Cond.fieldLink RX3 84 "ColdDepots" "campsRead" "I" ∈ TB := to_TB (in_t1 (i := 117) rfl) rfl
theorem wl_X3_167 : Cond.fieldLink RX3 167 "ColdDepots" "teamsDone" "I" ∈ TB := to_TB (in_t1 (i := 118) rfl) rfl
theorem wl_L_13 : Cond.methodLink RL 13 yX3_letter ∈ TB := to_TB (in_t1 (i := 136) rfl) rfl
theorem wm_X3_letter : Cond.instanceMethod yX3_letter ∈ TB := to_TB (in_t1 (i := 137) rfl) rfl
theorem we_X3_letter : Cond.selects RX3 yX3_letter yX3_letter ∈ TB := to_TB (in_t1 (i := 138) rfl) rfl
theorem wc_X3_letter : Cond.code yX3_letter cX3_letter 2 (some .int) ∈ TB := to_TB (in_t1 (i := 139) rfl) rfl
theorem wl_X3_37 : Cond.methodLinkNest RX3 37 yX0_add "ColdDepots" ∈ NB := to_NB (in_t1 (i := 140) rfl) rfl
theorem wm_X0_add : Cond.instanceMethod yX0_add ∈ TB := to_TB (in_t1 (i := 142) rfl) rfl
theorem wc_X0_add : Cond.code yX0_add cX0_add 2 (some .boolean) ∈ TB := to_TB (in_t1 (i := 143) rfl) rfl
theorem wl_X0_19 : Cond.methodLinkNest RX0 19 yX3_put "ColdDepots" ∈ NB := to_NB (in_t1 (i := 144) rfl) rfl
theorem ws_X3_put : Cond.static yX3_put ∈ TB := to_TB (in_t1 (i := 145) rfl) rfl
theorem wc_X3_put : Cond.code yX3_put cX3_put 3 none ∈ TB := to_TB (in_t1 (i := 146) rfl) rfl
theorem wl_L_18 : Cond.methodLink RL 18 yX3_blank ∈ TB := to_TB (in_t1 (i := 147) rfl) rfl
theorem wm_X3_blank : Cond.instanceMethod yX3_blank ∈ TB := to_TB (in_t1 (i := 148) rfl) rfl
theorem we_X3_blank : Cond.selects RX3 yX3_blank yX3_blank ∈ TB := to_TB (in_t1 (i := 149) rfl) rfl
theorem wc_X3_blank : Cond.code yX3_blank cX3_blank 2 (some .int) ∈ TB := to_TB (in_t1 (i := 150) rfl) rfl
theorem wl_L_23 : Cond.methodLink RL 23 yX3_fault ∈ TB := to_TB (in_t1 (i := 151) rfl) rfl
theorem wm_X3_fault : Cond.instanceMethod yX3_fault ∈ TB := to_TB (in_t1 (i := 152) rfl) rfl
theorem we_X3_fault : Cond.selects RX3 yX3_fault yX3_fault ∈ TB := to_TB (in_t1 (i := 153) rfl) rfl
theorem wc_X3_fault : Cond.code yX3_fault cX3_fault 1 (some .int) ∈ TB := to_TB (in_t1 (i := 154) rfl) rfl
theorem wl_X3_45 : Cond.methodLinkNest RX3 45 yX0_firstWrong "ColdDepots" ∈ NB := to_NB (in_t1 (i := 155) rfl) rfl
theorem wm_X0_firstWrong : Cond.instanceMethod yX0_firstWrong ∈ TB := to_TB (in_t1 (i := 157) rfl) rfl
theorem wc_X0_firstWrong : Cond.code yX0_firstWrong cX0_firstWrong 5 (some .int) ∈ TB := to_TB (in_t1 (i := 158) rfl) rfl
theorem wl_X0_27 : Cond.methodLink RX0 27 yX0_codeAt ∈ TB := to_TB (in_t1 (i := 159) rfl) rfl
theorem wm_X0_codeAt : Cond.instanceMethod yX0_codeAt ∈ TB := to_TB (in_t1 (i := 161) rfl) rfl
theorem wc_X0_codeAt : Cond.code yX0_codeAt cX0_codeAt 2 (some .int) ∈ TB := to_TB (in_t1 (i := 162) rfl) rfl
theorem wl_X0_23 : Cond.methodLinkNest RX0 23 yX3_at "ColdDepots" ∈ NB := to_NB (in_t1 (i := 163) rfl) rfl
theorem ws_X3_at : Cond.static yX3_at ∈ TB := to_TB (in_t1 (i := 164) rfl) rfl
theorem wc_X3_at : Cond.code yX3_at cX3_at 2 (some .int) ∈ TB := to_TB (in_t1 (i := 165) rfl) rfl
theorem wl_X0_31 : Cond.methodLinkNest RX0 31 yX3_kindOf "ColdDepots" ∈ NB := to_NB (in_t1 (i := 166) rfl) rfl
theorem ws_X3_kindOf : Cond.static yX3_kindOf ∈ TB := to_TB (in_t1 (i := 167) rfl) rfl
theorem wc_X3_kindOf : Cond.code yX3_kindOf cX3_kindOf 1 (some .int) ∈ TB := to_TB (in_t1 (i := 168) rfl) rfl
theorem wl_L_27 : Cond.methodLink RL 27 yX3_camp ∈ TB := to_TB (in_t1 (i := 169) rfl) rfl
theorem wm_X3_camp : Cond.instanceMethod yX3_camp ∈ TB := to_TB (in_t1 (i := 170) rfl) rfl
theorem we_X3_camp : Cond.selects RX3 yX3_camp yX3_camp ∈ TB := to_TB (in_t1 (i := 171) rfl) rfl
theorem wc_X3_camp : Cond.code yX3_camp cX3_camp 2 (some .int) ∈ TB := to_TB (in_t1 (i := 172) rfl) rfl
theorem wl_X3_49 : Cond.methodLinkNest RX3 49 yX0_isCamp "ColdDepots" ∈ NB := to_NB (in_t1 (i := 173) rfl) rfl
theorem wm_X0_isCamp : Cond.instanceMethod yX0_isCamp ∈ TB := to_TB (in_t1 (i := 175) rfl) rfl
theorem wc_X0_isCamp : Cond.code yX0_isCamp cX0_isCamp 1 (some .boolean) ∈ TB := to_TB (in_t1 (i := 176) rfl) rfl
theorem wl_X0_34 : Cond.methodLink RX0 34 yX0_firstWrong ∈ TB := to_TB (in_t1 (i := 177) rfl) rfl
theorem wl_X3_59 : Cond.methodLinkNest RX3 59 yX0_codeAt "ColdDepots" ∈ NB := to_NB (in_t1 (i := 178) rfl) rfl
theorem wl_X3_63 : Cond.methodLink RX3 63 yX3_kindOf ∈ TB := to_TB (in_t1 (i := 179) rfl) rfl
theorem wl_X3_66 : Cond.methodLink RX3 66 yX3_put ∈ TB := to_TB (in_t1 (i := 180) rfl) rfl
theorem wl_X3_70 : Cond.methodLinkNest RX3 70 yX1_all "ColdDepots" ∈ NB := to_NB (in_t1 (i := 181) rfl) rfl
theorem wm_X1_all : Cond.instanceMethod yX1_all ∈ TB := to_TB (in_t1 (i := 183) rfl) rfl
theorem wc_X1_all : Cond.code yX1_all cX1_all 1 (some .int) ∈ TB := to_TB (in_t1 (i := 184) rfl) rfl
theorem wl_X3_73 : Cond.methodLinkNest RX3 73 yX2_begin "ColdDepots" ∈ NB := to_NB (in_t1 (i := 185) rfl) rfl
theorem wm_X2_begin : Cond.instanceMethod yX2_begin ∈ TB := to_TB (in_t1 (i := 187) rfl) rfl
theorem wc_X2_begin : Cond.code yX2_begin cX2_begin 2 none ∈ TB := to_TB (in_t1 (i := 188) rfl) rfl
theorem wl_L_31 : Cond.methodLink RL 31 yX3_member ∈ TB := to_TB (in_t1 (i := 189) rfl) rfl
theorem wm_X3_member : Cond.instanceMethod yX3_member ∈ TB := to_TB (in_t1 (i := 190) rfl) rfl
theorem we_X3_member : Cond.selects RX3 yX3_member yX3_member ∈ TB := to_TB (in_t1 (i := 191) rfl) rfl
theorem wc_X3_member : Cond.code yX3_member cX3_member 4 (some .int) ∈ TB := to_TB (in_t1 (i := 192) rfl) rfl
theorem wl_X3_87 : Cond.methodLink RX3 87 yX3_at ∈ TB := to_TB (in_t1 (i := 193) rfl) rfl
theorem wl_X3_91 : Cond.fieldLink RX3 91 "ColdDepots" "PULLS" "[I" ∈ TB := to_TB (in_t1 (i := 194) rfl) rfl
theorem wz_PULLS : Cond.laysStatic RX3 "PULLS" "[I" ∈ lw_tbl := in_t1 (i := 195) rfl
theorem wl_X3_94 : Cond.fieldLink RX3 94 "ColdDepots" "EATS" "[I" ∈ TB := to_TB (in_t1 (i := 196) rfl) rfl
theorem wz_EATS : Cond.laysStatic RX3 "EATS" "[I" ∈ lw_tbl := in_t1 (i := 197) rfl
theorem wl_X3_97 : Cond.fieldLink RX3 97 "ColdDepots" "FEEDS" "[I" ∈ TB := to_TB (in_t1 (i := 198) rfl) rfl
theorem wz_FEEDS : Cond.laysStatic RX3 "FEEDS" "[I" ∈ lw_tbl := in_t1 (i := 199) rfl
theorem wl_L_36 : Cond.methodLink RL 36 yX3_as ∈ TB := to_TB (in_t1 (i := 200) rfl) rfl
theorem wm_X3_as : Cond.instanceMethod yX3_as ∈ TB := to_TB (in_t1 (i := 201) rfl) rfl
theorem we_X3_as : Cond.selects RX3 yX3_as yX3_as ∈ TB := to_TB (in_t1 (i := 202) rfl) rfl
theorem wc_X3_as : Cond.code yX3_as cX3_as 3 (some .int) ∈ TB := to_TB (in_t1 (i := 203) rfl) rfl
theorem wl_X3_103 : Cond.methodLink RX3 103 yX3_isOf ∈ TB := to_TB (in_t1 (i := 204) rfl) rfl
theorem ws_X3_isOf : Cond.static yX3_isOf ∈ TB := to_TB (in_t1 (i := 205) rfl) rfl
theorem wc_X3_isOf : Cond.code yX3_isOf cX3_isOf 2 (some .boolean) ∈ TB := to_TB (in_t1 (i := 206) rfl) rfl
theorem wl_L_40 : Cond.methodLink RL 40 yX3_cairn ∈ TB := to_TB (in_t1 (i := 207) rfl) rfl
theorem wm_X3_cairn : Cond.instanceMethod yX3_cairn ∈ TB := to_TB (in_t1 (i := 208) rfl) rfl
theorem we_X3_cairn : Cond.selects RX3 yX3_cairn yX3_cairn ∈ TB := to_TB (in_t1 (i := 209) rfl) rfl
theorem wc_X3_cairn : Cond.code yX3_cairn cX3_cairn 3 (some .int) ∈ TB := to_TB (in_t1 (i := 210) rfl) rfl
theorem wl_X3_107 : Cond.methodLink RX3 107 yX3_isNoCairn ∈ TB := to_TB (in_t1 (i := 211) rfl) rfl
theorem wm_X3_isNoCairn : Cond.instanceMethod yX3_isNoCairn ∈ TB := to_TB (in_t1 (i := 213) rfl) rfl
theorem wc_X3_isNoCairn : Cond.code yX3_isNoCairn cX3_isNoCairn 2 (some .boolean) ∈ TB := to_TB (in_t1 (i := 214) rfl) rfl
theorem wl_X3_110 : Cond.methodLink RX3 110 yX3_amountsAt ∈ TB := to_TB (in_t1 (i := 215) rfl) rfl
theorem wm_X3_amountsAt : Cond.instanceMethod yX3_amountsAt ∈ TB := to_TB (in_t1 (i := 217) rfl) rfl
theorem wc_X3_amountsAt : Cond.code yX3_amountsAt cX3_amountsAt 4 (some .int) ∈ TB := to_TB (in_t1 (i := 218) rfl) rfl
theorem wl_X3_217 : Cond.methodLink RX3 217 yX3_isAllSo ∈ TB := to_TB (in_t1 (i := 219) rfl) rfl
theorem wm_X3_isAllSo : Cond.instanceMethod yX3_isAllSo ∈ TB := to_TB (in_t1 (i := 221) rfl) rfl
theorem wc_X3_isAllSo : Cond.code yX3_isAllSo cX3_isAllSo 6 (some .boolean) ∈ TB := to_TB (in_t1 (i := 222) rfl) rfl
theorem wl_X3_124 : Cond.methodLinkNest RX3 124 yX1_setCairns "ColdDepots" ∈ NB := to_NB (in_t1 (i := 223) rfl) rfl
theorem wm_X1_setCairns : Cond.instanceMethod yX1_setCairns ∈ TB := to_TB (in_t1 (i := 225) rfl) rfl
theorem wc_X1_setCairns : Cond.code yX1_setCairns cX1_setCairns 2 none ∈ TB := to_TB (in_t1 (i := 226) rfl) rfl
theorem wl_X1_26 : Cond.methodLinkNest RX1 26 yX3_copy "ColdDepots" ∈ NB := to_NB (in_t1 (i := 227) rfl) rfl
theorem ws_X3_copy : Cond.static yX3_copy ∈ TB := to_TB (in_t1 (i := 228) rfl) rfl
theorem wc_X3_copy : Cond.code yX3_copy cX3_copy 3 none ∈ TB := to_TB (in_t1 (i := 229) rfl) rfl
theorem wl_X3_128 : Cond.methodLinkNest RX3 128 yX1_go "ColdDepots" ∈ NB := to_NB (in_t1 (i := 230) rfl) rfl
theorem wm_X1_go : Cond.instanceMethod yX1_go ∈ TB := to_TB (in_t1 (i := 232) rfl) rfl
theorem wc_X1_go : Cond.code yX1_go cX1_go 6 (some .boolean) ∈ TB := to_TB (in_t1 (i := 233) rfl) rfl
theorem wl_X1_30 : Cond.methodLink RX1 30 yX1_setOut ∈ TB := to_TB (in_t1 (i := 234) rfl) rfl
theorem wm_X1_setOut : Cond.instanceMethod yX1_setOut ∈ TB := to_TB (in_t1 (i := 236) rfl) rfl
theorem wc_X1_setOut : Cond.code yX1_setOut cX1_setOut 3 none ∈ TB := to_TB (in_t1 (i := 237) rfl) rfl
theorem wl_X1_56 : Cond.fieldLinkNest RX1 56 "ColdDepots" "PULLS" "[I" "ColdDepots" ∈ NB := to_NB (in_t1 (i := 238) rfl) rfl
theorem wl_X1_59 : Cond.methodLink RX1 59 yX1_together ∈ TB := to_TB (in_t1 (i := 239) rfl) rfl
theorem wm_X1_together : Cond.instanceMethod yX1_together ∈ TB := to_TB (in_t2 (i := 1) rfl) rfl
theorem wc_X1_together : Cond.code yX1_together cX1_together 5 (some .int) ∈ TB := to_TB (in_t2 (i := 2) rfl) rfl
theorem wl_X1_22 : Cond.methodLinkNest RX1 22 yX3_at "ColdDepots" ∈ NB := to_NB (in_t2 (i := 3) rfl) rfl
theorem wl_X1_66 : Cond.fieldLinkNest RX1 66 "ColdDepots" "EATS" "[I" "ColdDepots" ∈ NB := to_NB (in_t2 (i := 4) rfl) rfl
theorem wl_X1_69 : Cond.methodLink RX1 69 yJ9_min_7cf53 ∈ TB := to_TB (in_t2 (i := 5) rfl) rfl
theorem ws_J9_min_7cf53 : Cond.static yJ9_min_7cf53 ∈ TB := to_TB (in_t2 (i := 6) rfl) rfl
theorem wc_J9_min_7cf53 : Cond.code yJ9_min_7cf53 cJ9_min_7cf53 2 (some .int) ∈ TB := to_TB (in_t2 (i := 7) rfl) rfl
theorem wl_X1_34 : Cond.methodLink RX1 34 yX1_eatPonies ∈ TB := to_TB (in_t2 (i := 8) rfl) rfl
theorem wm_X1_eatPonies : Cond.instanceMethod yX1_eatPonies ∈ TB := to_TB (in_t2 (i := 10) rfl) rfl
theorem wc_X1_eatPonies : Cond.code yX1_eatPonies cX1_eatPonies 2 none ∈ TB := to_TB (in_t2 (i := 11) rfl) rfl
theorem wl_X1_78 : Cond.methodLink RX1 78 yX1_devour ∈ TB := to_TB (in_t2 (i := 12) rfl) rfl
theorem wm_X1_devour : Cond.instanceMethod yX1_devour ∈ TB := to_TB (in_t2 (i := 14) rfl) rfl
theorem wc_X1_devour : Cond.code yX1_devour cX1_devour 3 none ∈ TB := to_TB (in_t2 (i := 15) rfl) rfl
theorem wl_X1_85 : Cond.fieldLinkNest RX1 85 "ColdDepots" "FEEDS" "[I" "ColdDepots" ∈ NB := to_NB (in_t2 (i := 16) rfl) rfl
theorem wl_X1_37 : Cond.methodLink RX1 37 yX1_eatBeasts ∈ TB := to_TB (in_t2 (i := 17) rfl) rfl
theorem wm_X1_eatBeasts : Cond.instanceMethod yX1_eatBeasts ∈ TB := to_TB (in_t2 (i := 19) rfl) rfl
theorem wc_X1_eatBeasts : Cond.code yX1_eatBeasts cX1_eatBeasts 3 none ∈ TB := to_TB (in_t2 (i := 20) rfl) rfl
theorem wl_X1_81 : Cond.methodLinkNest RX1 81 yX3_isOf "ColdDepots" ∈ NB := to_NB (in_t2 (i := 21) rfl) rfl
theorem wl_X1_49 : Cond.methodLink RX1 49 yX1_dieOn ∈ TB := to_TB (in_t2 (i := 22) rfl) rfl
theorem wm_X1_dieOn : Cond.instanceMethod yX1_dieOn ∈ TB := to_TB (in_t2 (i := 24) rfl) rfl
theorem wc_X1_dieOn : Cond.code yX1_dieOn cX1_dieOn 2 none ∈ TB := to_TB (in_t2 (i := 25) rfl) rfl
theorem wl_X1_53 : Cond.methodLink RX1 53 yX1_takeUpAt ∈ TB := to_TB (in_t2 (i := 26) rfl) rfl
theorem wm_X1_takeUpAt : Cond.instanceMethod yX1_takeUpAt ∈ TB := to_TB (in_t2 (i := 28) rfl) rfl
theorem wc_X1_takeUpAt : Cond.code yX1_takeUpAt cX1_takeUpAt 3 none ∈ TB := to_TB (in_t2 (i := 29) rfl) rfl
theorem wl_X1_88 : Cond.methodLinkNest RX1 88 yX3_put "ColdDepots" ∈ NB := to_NB (in_t2 (i := 30) rfl) rfl
theorem wl_X3_113 : Cond.methodLink RX3 113 yX3_bestTrial ∈ TB := to_TB (in_t2 (i := 31) rfl) rfl
theorem wm_X3_bestTrial : Cond.instanceMethod yX3_bestTrial ∈ TB := to_TB (in_t2 (i := 33) rfl) rfl
theorem wc_X3_bestTrial : Cond.code yX3_bestTrial cX3_bestTrial 8 (some .int) ∈ TB := to_TB (in_t2 (i := 34) rfl) rfl
theorem wl_X3_187 : Cond.methodLink RX3 187 yJ6_bitCount_0f7a4 ∈ TB := to_TB (in_t2 (i := 35) rfl) rfl
theorem ws_J6_bitCount_0f7a4 : Cond.static yJ6_bitCount_0f7a4 ∈ TB := to_TB (in_t2 (i := 36) rfl) rfl
theorem wc_J6_bitCount_0f7a4 : Cond.code yJ6_bitCount_0f7a4 cJ6_bitCount_0f7a4 1 (some .int) ∈ TB := to_TB (in_t2 (i := 37) rfl) rfl
theorem wl_J6_265 : Cond.constant RJ6 265 1431655765 ∈ TB := to_TB (in_t2 (i := 38) rfl) rfl
theorem wl_J6_266 : Cond.constant RJ6 266 858993459 ∈ TB := to_TB (in_t2 (i := 39) rfl) rfl
theorem wl_J6_267 : Cond.constant RJ6 267 252645135 ∈ TB := to_TB (in_t2 (i := 40) rfl) rfl
theorem wl_X3_214 : Cond.methodLink RX3 214 yX3_mostFoodOf ∈ TB := to_TB (in_t2 (i := 41) rfl) rfl
theorem wm_X3_mostFoodOf : Cond.instanceMethod yX3_mostFoodOf ∈ TB := to_TB (in_t2 (i := 43) rfl) rfl
theorem wc_X3_mostFoodOf : Cond.code yX3_mostFoodOf cX3_mostFoodOf 2 (some .int) ∈ TB := to_TB (in_t2 (i := 44) rfl) rfl
theorem wl_X3_192 : Cond.methodLinkNest RX3 192 yX1_together "ColdDepots" ∈ NB := to_NB (in_t2 (i := 45) rfl) rfl
theorem wl_X3_209 : Cond.methodLink RX3 209 yJ9_min_7cf53 ∈ TB := to_TB (in_t2 (i := 46) rfl) rfl
theorem wl_X3_232 : Cond.methodLink RX3 232 yX3_leftAtWorst ∈ TB := to_TB (in_t2 (i := 47) rfl) rfl
theorem wm_X3_leftAtWorst : Cond.instanceMethod yX3_leftAtWorst ∈ TB := to_TB (in_t2 (i := 49) rfl) rfl
theorem wc_X3_leftAtWorst : Cond.code yX3_leftAtWorst cX3_leftAtWorst 6 (some .int) ∈ TB := to_TB (in_t2 (i := 50) rfl) rfl
theorem wl_X3_236 : Cond.methodLink RX3 236 yJ9_max_7cf53 ∈ TB := to_TB (in_t2 (i := 51) rfl) rfl
theorem ws_J9_max_7cf53 : Cond.static yJ9_max_7cf53 ∈ TB := to_TB (in_t2 (i := 52) rfl) rfl
theorem wc_J9_max_7cf53 : Cond.code yJ9_max_7cf53 cJ9_max_7cf53 2 (some .int) ∈ TB := to_TB (in_t2 (i := 53) rfl) rfl
theorem wl_L_44 : Cond.methodLink RL 44 yX3_lay ∈ TB := to_TB (in_t2 (i := 54) rfl) rfl
theorem wm_X3_lay : Cond.instanceMethod yX3_lay ∈ TB := to_TB (in_t2 (i := 55) rfl) rfl
theorem we_X3_lay : Cond.selects RX3 yX3_lay yX3_lay ∈ TB := to_TB (in_t2 (i := 56) rfl) rfl
theorem wc_X3_lay : Cond.code yX3_lay cX3_lay 4 (some .int) ∈ TB := to_TB (in_t2 (i := 57) rfl) rfl
theorem wl_L_48 : Cond.methodLink RL 48 yX3_march ∈ TB := to_TB (in_t2 (i := 58) rfl) rfl
theorem wm_X3_march : Cond.instanceMethod yX3_march ∈ TB := to_TB (in_t2 (i := 59) rfl) rfl
theorem we_X3_march : Cond.selects RX3 yX3_march yX3_march ∈ TB := to_TB (in_t2 (i := 60) rfl) rfl
theorem wc_X3_march : Cond.code yX3_march cX3_march 4 (some .int) ∈ TB := to_TB (in_t2 (i := 61) rfl) rfl
theorem wl_X3_117 : Cond.methodLink RX3 117 yX3_isNoMarch ∈ TB := to_TB (in_t2 (i := 62) rfl) rfl
theorem wm_X3_isNoMarch : Cond.instanceMethod yX3_isNoMarch ∈ TB := to_TB (in_t2 (i := 64) rfl) rfl
theorem wc_X3_isNoMarch : Cond.code yX3_isNoMarch cX3_isNoMarch 4 (some .boolean) ∈ TB := to_TB (in_t2 (i := 65) rfl) rfl
theorem wl_X3_153 : Cond.methodLink RX3 153 yX3_isNobody ∈ TB := to_TB (in_t2 (i := 66) rfl) rfl
theorem wm_X3_isNobody : Cond.instanceMethod yX3_isNobody ∈ TB := to_TB (in_t2 (i := 68) rfl) rfl
theorem wc_X3_isNobody : Cond.code yX3_isNobody cX3_isNobody 2 (some .boolean) ∈ TB := to_TB (in_t2 (i := 69) rfl) rfl
theorem wl_X3_156 : Cond.methodLink RX3 156 yX3_isNoStage ∈ TB := to_TB (in_t2 (i := 70) rfl) rfl
theorem ws_X3_isNoStage : Cond.static yX3_isNoStage ∈ TB := to_TB (in_t2 (i := 71) rfl) rfl
theorem wc_X3_isNoStage : Cond.code yX3_isNoStage cX3_isNoStage 1 (some .boolean) ∈ TB := to_TB (in_t2 (i := 72) rfl) rfl
theorem wl_X3_121 : Cond.methodLink RX3 121 yX3_anyIsDead ∈ TB := to_TB (in_t2 (i := 73) rfl) rfl
theorem wm_X3_anyIsDead : Cond.instanceMethod yX3_anyIsDead ∈ TB := to_TB (in_t2 (i := 75) rfl) rfl
theorem wc_X3_anyIsDead : Cond.code yX3_anyIsDead cX3_anyIsDead 2 (some .boolean) ∈ TB := to_TB (in_t2 (i := 76) rfl) rfl
theorem wl_X3_133 : Cond.methodLink RX3 133 yX3_copy ∈ TB := to_TB (in_t2 (i := 77) rfl) rfl
theorem wl_L_53 : Cond.methodLink RL 53 yX3_would ∈ TB := to_TB (in_t2 (i := 78) rfl) rfl
theorem wm_X3_would : Cond.instanceMethod yX3_would ∈ TB := to_TB (in_t2 (i := 79) rfl) rfl
theorem we_X3_would : Cond.selects RX3 yX3_would yX3_would ∈ TB := to_TB (in_t2 (i := 80) rfl) rfl
theorem wc_X3_would : Cond.code yX3_would cX3_would 5 (some .int) ∈ TB := to_TB (in_t2 (i := 81) rfl) rfl
theorem wl_X3_146 : Cond.methodLink RX3 146 yX3_sum ∈ TB := to_TB (in_t2 (i := 82) rfl) rfl
theorem ws_X3_sum : Cond.static yX3_sum ∈ TB := to_TB (in_t2 (i := 83) rfl) rfl
theorem wc_X3_sum : Cond.code yX3_sum cX3_sum 3 (some .int) ∈ TB := to_TB (in_t2 (i := 84) rfl) rfl
theorem wl_L_58 : Cond.methodLink RL 58 yX3_need ∈ TB := to_TB (in_t2 (i := 85) rfl) rfl
theorem wm_X3_need : Cond.instanceMethod yX3_need ∈ TB := to_TB (in_t2 (i := 86) rfl) rfl
theorem we_X3_need : Cond.selects RX3 yX3_need yX3_need ∈ TB := to_TB (in_t2 (i := 87) rfl) rfl
theorem wc_X3_need : Cond.code yX3_need cX3_need 3 (some .int) ∈ TB := to_TB (in_t2 (i := 88) rfl) rfl
theorem wl_X3_159 : Cond.methodLink RX3 159 yX3_leastFood ∈ TB := to_TB (in_t2 (i := 89) rfl) rfl
theorem wm_X3_leastFood : Cond.instanceMethod yX3_leastFood ∈ TB := to_TB (in_t2 (i := 91) rfl) rfl
theorem wc_X3_leastFood : Cond.code yX3_leastFood cX3_leastFood 6 (some .int) ∈ TB := to_TB (in_t2 (i := 92) rfl) rfl
theorem wl_L_62 : Cond.methodLink RL 62 yX3_far ∈ TB := to_TB (in_t2 (i := 93) rfl) rfl
theorem wm_X3_far : Cond.instanceMethod yX3_far ∈ TB := to_TB (in_t2 (i := 94) rfl) rfl
theorem we_X3_far : Cond.selects RX3 yX3_far yX3_far ∈ TB := to_TB (in_t2 (i := 95) rfl) rfl
theorem wc_X3_far : Cond.code yX3_far cX3_far 2 (some .int) ∈ TB := to_TB (in_t2 (i := 96) rfl) rfl
theorem wl_X3_163 : Cond.methodLink RX3 163 yX3_farthest ∈ TB := to_TB (in_t2 (i := 97) rfl) rfl
theorem wm_X3_farthest : Cond.instanceMethod yX3_farthest ∈ TB := to_TB (in_t2 (i := 99) rfl) rfl
theorem wc_X3_farthest : Cond.code yX3_farthest cX3_farthest 4 (some .int) ∈ TB := to_TB (in_t2 (i := 100) rfl) rfl
theorem wl_L_66 : Cond.methodLink RL 66 yX3_team ∈ TB := to_TB (in_t2 (i := 101) rfl) rfl
theorem wm_X3_team : Cond.instanceMethod yX3_team ∈ TB := to_TB (in_t2 (i := 102) rfl) rfl
theorem we_X3_team : Cond.selects RX3 yX3_team yX3_team ∈ TB := to_TB (in_t2 (i := 103) rfl) rfl
theorem wc_X3_team : Cond.code yX3_team cX3_team 2 (some .int) ∈ TB := to_TB (in_t2 (i := 104) rfl) rfl
theorem wl_X3_170 : Cond.methodLink RX3 170 yX3_fewest ∈ TB := to_TB (in_t2 (i := 105) rfl) rfl
theorem wm_X3_fewest : Cond.instanceMethod yX3_fewest ∈ TB := to_TB (in_t2 (i := 107) rfl) rfl
theorem wc_X3_fewest : Cond.code yX3_fewest cX3_fewest 6 (some .int) ∈ TB := to_TB (in_t2 (i := 108) rfl) rfl
theorem wl_L_70 : Cond.methodLink RL 70 yX3_hear ∈ TB := to_TB (in_t2 (i := 109) rfl) rfl
theorem wm_X3_hear : Cond.instanceMethod yX3_hear ∈ TB := to_TB (in_t2 (i := 110) rfl) rfl
theorem we_X3_hear : Cond.selects RX3 yX3_hear yX3_hear ∈ TB := to_TB (in_t2 (i := 111) rfl) rfl
theorem wc_X3_hear : Cond.code yX3_hear cX3_hear 5 (some .int) ∈ TB := to_TB (in_t2 (i := 112) rfl) rfl
theorem wl_X3_176 : Cond.methodLinkNest RX3 176 yX2_note "ColdDepots" ∈ NB := to_NB (in_t2 (i := 113) rfl) rfl
theorem wm_X2_note : Cond.instanceMethod yX2_note ∈ TB := to_TB (in_t2 (i := 115) rfl) rfl
theorem wc_X2_note : Cond.code yX2_note cX2_note 5 none ∈ TB := to_TB (in_t2 (i := 116) rfl) rfl
theorem wl_X2_40 : Cond.methodLinkNest RX2 40 yX3_put "ColdDepots" ∈ NB := to_NB (in_t2 (i := 117) rfl) rfl
theorem wl_L_75 : Cond.methodLink RL 75 yX3_forget ∈ TB := to_TB (in_t2 (i := 118) rfl) rfl
theorem wm_X3_forget : Cond.instanceMethod yX3_forget ∈ TB := to_TB (in_t2 (i := 119) rfl) rfl
theorem we_X3_forget : Cond.selects RX3 yX3_forget yX3_forget ∈ TB := to_TB (in_t2 (i := 120) rfl) rfl
theorem wc_X3_forget : Cond.code yX3_forget cX3_forget 2 (some .int) ∈ TB := to_TB (in_t2 (i := 121) rfl) rfl
theorem wl_L_79 : Cond.methodLink RL 79 yX3_winters ∈ TB := to_TB (in_t2 (i := 122) rfl) rfl
theorem wm_X3_winters : Cond.instanceMethod yX3_winters ∈ TB := to_TB (in_t2 (i := 123) rfl) rfl
theorem we_X3_winters : Cond.selects RX3 yX3_winters yX3_winters ∈ TB := to_TB (in_t2 (i := 124) rfl) rfl
theorem wc_X3_winters : Cond.code yX3_winters cX3_winters 5 (some .int) ∈ TB := to_TB (in_t2 (i := 125) rfl) rfl
theorem wl_X3_180 : Cond.methodLink RX3 180 yX3_letCreep ∈ TB := to_TB (in_t2 (i := 126) rfl) rfl
theorem wm_X3_letCreep : Cond.instanceMethod yX3_letCreep ∈ TB := to_TB (in_t2 (i := 128) rfl) rfl
theorem wc_X3_letCreep : Cond.code yX3_letCreep cX3_letCreep 7 (some .int) ∈ TB := to_TB (in_t2 (i := 129) rfl) rfl
theorem wl_X3_239 : Cond.methodLink RX3 239 yX3_nextSeed ∈ TB := to_TB (in_t2 (i := 130) rfl) rfl
theorem ws_X3_nextSeed : Cond.static yX3_nextSeed ∈ TB := to_TB (in_t2 (i := 131) rfl) rfl
theorem wc_X3_nextSeed : Cond.code yX3_nextSeed cX3_nextSeed 1 (some .int) ∈ TB := to_TB (in_t2 (i := 132) rfl) rfl
theorem wl_X3_242 : Cond.constant RX3 242 1103515245 ∈ TB := to_TB (in_t2 (i := 133) rfl) rfl
theorem wl_X3_243 : Cond.constant RX3 243 2147483647 ∈ TB := to_TB (in_t2 (i := 134) rfl) rfl
theorem wl_L_83 : Cond.methodLink RL 83 yX3_image ∈ TB := to_TB (in_t2 (i := 135) rfl) rfl
theorem wm_X3_image : Cond.instanceMethod yX3_image ∈ TB := to_TB (in_t2 (i := 136) rfl) rfl
theorem we_X3_image : Cond.selects RX3 yX3_image yX3_image ∈ TB := to_TB (in_t2 (i := 137) rfl) rfl
theorem wc_X3_image : Cond.code yX3_image cX3_image 1 (some .int) ∈ TB := to_TB (in_t2 (i := 138) rfl) rfl
theorem wl_X3_183 : Cond.methodLinkNest RX3 183 yX2_takeFrom "ColdDepots" ∈ NB := to_NB (in_t2 (i := 139) rfl) rfl
theorem wm_X2_takeFrom : Cond.instanceMethod yX2_takeFrom ∈ TB := to_TB (in_t2 (i := 141) rfl) rfl
theorem wc_X2_takeFrom : Cond.code yX2_takeFrom cX2_takeFrom 2 none ∈ TB := to_TB (in_t2 (i := 142) rfl) rfl
theorem wl_X2_44 : Cond.methodLinkNest RX2 44 yX3_copy "ColdDepots" ∈ NB := to_NB (in_t2 (i := 143) rfl) rfl
theorem wl_L_87 : Cond.methodLink RL 87 yX3_restore ∈ TB := to_TB (in_t2 (i := 144) rfl) rfl
theorem wm_X3_restore : Cond.instanceMethod yX3_restore ∈ TB := to_TB (in_t2 (i := 145) rfl) rfl
theorem we_X3_restore : Cond.selects RX3 yX3_restore yX3_restore ∈ TB := to_TB (in_t2 (i := 146) rfl) rfl
theorem wc_X3_restore : Cond.code yX3_restore cX3_restore 1 (some .int) ∈ TB := to_TB (in_t2 (i := 147) rfl) rfl
theorem wl_L_91 : Cond.methodLink RL 91 yX3_count ∈ TB := to_TB (in_t2 (i := 148) rfl) rfl
theorem wm_X3_count : Cond.instanceMethod yX3_count ∈ TB := to_TB (in_t2 (i := 149) rfl) rfl
theorem we_X3_count : Cond.selects RX3 yX3_count yX3_count ∈ TB := to_TB (in_t2 (i := 150) rfl) rfl
theorem wc_X3_count : Cond.code yX3_count cX3_count 2 (some .int) ∈ TB := to_TB (in_t2 (i := 151) rfl) rfl
theorem wl_L_95 : Cond.methodLink RL 95 yX3_digest ∈ TB := to_TB (in_t2 (i := 152) rfl) rfl
theorem wm_X3_digest : Cond.instanceMethod yX3_digest ∈ TB := to_TB (in_t2 (i := 153) rfl) rfl
theorem we_X3_digest : Cond.selects RX3 yX3_digest yX3_digest ∈ TB := to_TB (in_t2 (i := 154) rfl) rfl
theorem wc_X3_digest : Cond.code yX3_digest cX3_digest 5 (some .long) ∈ TB := to_TB (in_t2 (i := 155) rfl) rfl
theorem wl_X3_195 : Cond.constantLong RX3 195 1051 ∈ TB := to_TB (in_t2 (i := 156) rfl) rfl
theorem wl_X3_197 : Cond.constantLong RX3 197 31 ∈ TB := to_TB (in_t2 (i := 157) rfl) rfl
theorem wl_X3_199 : Cond.methodLink RX3 199 yX3_member ∈ TB := to_TB (in_t2 (i := 158) rfl) rfl
theorem wl_X3_202 : Cond.methodLink RX3 202 yX3_would ∈ TB := to_TB (in_t2 (i := 159) rfl) rfl
theorem wl_X3_206 : Cond.methodLink RX3 206 yX3_count ∈ TB := to_TB (in_t2 (i := 160) rfl) rfl
theorem wl_L_10 : Cond.classLink RL 10 RX4 ∈ TB := to_TB (in_t2 (i := 161) rfl) rfl
theorem wn_X4 : Cond.instantiable RX4 28 ∈ TB := to_TB (in_t2 (i := 162) rfl) rfl
theorem wl_L_12 : Cond.methodLink RL 12 yX4_init ∈ TB := to_TB (in_t2 (i := 163) rfl) rfl
theorem wm_X4_init : Cond.instanceMethod yX4_init ∈ TB := to_TB (in_t2 (i := 164) rfl) rfl
theorem wc_X4_init : Cond.code yX4_init cX4_init 1 none ∈ TB := to_TB (in_t2 (i := 165) rfl) rfl
theorem wl_X4_1 : Cond.methodLink RX4 1 objectInit ∈ TB := to_TB (in_t2 (i := 166) rfl) rfl
theorem wl_X4_7 : Cond.fieldLink RX4 7 "ColdDepotsModel" "page" "[I" ∈ TB := to_TB (in_t2 (i := 167) rfl) rfl
theorem wl_X4_47 : Cond.fieldLink RX4 47 "ColdDepotsModel" "pageMany" "I" ∈ TB := to_TB (in_t2 (i := 168) rfl) rfl
theorem wl_X4_50 : Cond.fieldLink RX4 50 "ColdDepotsModel" "endAt" "I" ∈ TB := to_TB (in_t2 (i := 169) rfl) rfl
theorem wl_X4_69 : Cond.fieldLink RX4 69 "ColdDepotsModel" "members" "I" ∈ TB := to_TB (in_t2 (i := 170) rfl) rfl
theorem wl_X4_72 : Cond.fieldLink RX4 72 "ColdDepotsModel" "living" "I" ∈ TB := to_TB (in_t2 (i := 171) rfl) rfl
theorem wl_X4_75 : Cond.fieldLink RX4 75 "ColdDepotsModel" "marches" "I" ∈ TB := to_TB (in_t2 (i := 172) rfl) rfl
theorem wl_X4_78 : Cond.fieldLink RX4 78 "ColdDepotsModel" "cameHome" "I" ∈ TB := to_TB (in_t2 (i := 173) rfl) rfl
theorem wl_X4_84 : Cond.fieldLink RX4 84 "ColdDepotsModel" "campsRead" "I" ∈ TB := to_TB (in_t2 (i := 174) rfl) rfl
theorem wl_X4_13 : Cond.fieldLink RX4 13 "ColdDepotsModel" "kinds" "[I" ∈ TB := to_TB (in_t2 (i := 175) rfl) rfl
theorem wl_X4_16 : Cond.fieldLink RX4 16 "ColdDepotsModel" "foods" "[I" ∈ TB := to_TB (in_t2 (i := 176) rfl) rfl
theorem wl_X4_125 : Cond.fieldLink RX4 125 "ColdDepotsModel" "party" "I" ∈ TB := to_TB (in_t2 (i := 177) rfl) rfl
theorem wl_X4_128 : Cond.fieldLink RX4 128 "ColdDepotsModel" "carried" "I" ∈ TB := to_TB (in_t2 (i := 178) rfl) rfl
theorem wl_X4_152 : Cond.fieldLink RX4 152 "ColdDepotsModel" "diedOn" "I" ∈ TB := to_TB (in_t2 (i := 179) rfl) rfl
theorem wl_X4_19 : Cond.fieldLink RX4 19 "ColdDepotsModel" "left" "[I" ∈ TB := to_TB (in_t2 (i := 180) rfl) rfl
theorem wl_X4_199 : Cond.fieldLink RX4 199 "ColdDepotsModel" "teamsDone" "I" ∈ TB := to_TB (in_t2 (i := 181) rfl) rfl
theorem wl_X4_81 : Cond.fieldLink RX4 81 "ColdDepotsModel" "heardMany" "I" ∈ TB := to_TB (in_t2 (i := 182) rfl) rfl
theorem wl_X4_22 : Cond.fieldLink RX4 22 "ColdDepotsModel" "heards" "[I" ∈ TB := to_TB (in_t2 (i := 183) rfl) rfl
theorem wl_X4_25 : Cond.fieldLink RX4 25 "ColdDepotsModel" "other" "[I" ∈ TB := to_TB (in_t2 (i := 184) rfl) rfl
theorem wl_X4_207 : Cond.fieldLink RX4 207 "ColdDepotsModel" "seedNow" "I" ∈ TB := to_TB (in_t2 (i := 185) rfl) rfl
theorem wl_X4_28 : Cond.fieldLink RX4 28 "ColdDepotsModel" "then" "[I" ∈ TB := to_TB (in_t2 (i := 186) rfl) rfl
theorem wl_X4_37 : Cond.fieldLink RX4 37 "ColdDepotsModel" "keptCamp" "I" ∈ TB := to_TB (in_t2 (i := 187) rfl) rfl
theorem wl_X4_222 : Cond.fieldLink RX4 222 "ColdDepotsModel" "keptLiving" "I" ∈ TB := to_TB (in_t2 (i := 188) rfl) rfl
theorem wl_X4_225 : Cond.fieldLink RX4 225 "ColdDepotsModel" "keptMarches" "I" ∈ TB := to_TB (in_t2 (i := 189) rfl) rfl
theorem wl_X4_228 : Cond.fieldLink RX4 228 "ColdDepotsModel" "keptHome" "I" ∈ TB := to_TB (in_t2 (i := 190) rfl) rfl
theorem wl_X4_231 : Cond.fieldLink RX4 231 "ColdDepotsModel" "keptHeard" "I" ∈ TB := to_TB (in_t2 (i := 191) rfl) rfl
theorem wl_X4_31 : Cond.fieldLink RX4 31 "ColdDepotsModel" "keptFoods" "[I" ∈ TB := to_TB (in_t2 (i := 192) rfl) rfl
theorem wl_X4_34 : Cond.fieldLink RX4 34 "ColdDepotsModel" "keptHeards" "[I" ∈ TB := to_TB (in_t2 (i := 193) rfl) rfl
theorem wl_X4_239 : Cond.fieldLink RX4 239 "ColdDepotsModel" "hash" "J" ∈ TB := to_TB (in_t2 (i := 194) rfl) rfl
theorem wl_L_17 : Cond.methodLink RL 17 yX4_letter ∈ TB := to_TB (in_t3 (i := 12) rfl) rfl
theorem wm_X4_letter : Cond.instanceMethod yX4_letter ∈ TB := to_TB (in_t3 (i := 13) rfl) rfl
theorem we_X4_letter : Cond.selects RX4 yX4_letter yX4_letter ∈ TB := to_TB (in_t3 (i := 14) rfl) rfl
theorem wc_X4_letter : Cond.code yX4_letter cX4_letter 2 (some .int) ∈ TB := to_TB (in_t3 (i := 15) rfl) rfl
theorem wl_X4_41 : Cond.constantLong RX4 41 126 ∈ TB := to_TB (in_t3 (i := 16) rfl) rfl
theorem wl_X4_43 : Cond.methodLink RX4 43 yX4_in ∈ TB := to_TB (in_t3 (i := 17) rfl) rfl
theorem ws_X4_in : Cond.static yX4_in ∈ TB := to_TB (in_t3 (i := 18) rfl) rfl
theorem wc_X4_in : Cond.code yX4_in cX4_in 6 (some .boolean) ∈ TB := to_TB (in_t3 (i := 19) rfl) rfl
theorem wl_L_22 : Cond.methodLink RL 22 yX4_blank ∈ TB := to_TB (in_t3 (i := 20) rfl) rfl
theorem wm_X4_blank : Cond.instanceMethod yX4_blank ∈ TB := to_TB (in_t3 (i := 21) rfl) rfl
theorem we_X4_blank : Cond.selects RX4 yX4_blank yX4_blank ∈ TB := to_TB (in_t3 (i := 22) rfl) rfl
theorem wc_X4_blank : Cond.code yX4_blank cX4_blank 2 (some .int) ∈ TB := to_TB (in_t3 (i := 23) rfl) rfl
theorem wl_L_26 : Cond.methodLink RL 26 yX4_fault ∈ TB := to_TB (in_t3 (i := 24) rfl) rfl
theorem wm_X4_fault : Cond.instanceMethod yX4_fault ∈ TB := to_TB (in_t3 (i := 25) rfl) rfl
theorem we_X4_fault : Cond.selects RX4 yX4_fault yX4_fault ∈ TB := to_TB (in_t3 (i := 26) rfl) rfl
theorem wc_X4_fault : Cond.code yX4_fault cX4_fault 1 (some .int) ∈ TB := to_TB (in_t3 (i := 27) rfl) rfl
theorem wl_X4_65 : Cond.methodLink RX4 65 yX4_faultOf ∈ TB := to_TB (in_t3 (i := 28) rfl) rfl
theorem wm_X4_faultOf : Cond.instanceMethod yX4_faultOf ∈ TB := to_TB (in_t3 (i := 30) rfl) rfl
theorem wc_X4_faultOf : Cond.code yX4_faultOf cX4_faultOf 2 (some .int) ∈ TB := to_TB (in_t3 (i := 31) rfl) rfl
theorem wl_X4_61 : Cond.methodLink RX4 61 yX4_isGood ∈ TB := to_TB (in_t3 (i := 32) rfl) rfl
theorem wm_X4_isGood : Cond.instanceMethod yX4_isGood ∈ TB := to_TB (in_t3 (i := 34) rfl) rfl
theorem wc_X4_isGood : Cond.code yX4_isGood cX4_isGood 3 (some .boolean) ∈ TB := to_TB (in_t3 (i := 35) rfl) rfl
theorem wl_X4_53 : Cond.constantLong RX4 53 48 ∈ TB := to_TB (in_t3 (i := 36) rfl) rfl
theorem wl_X4_55 : Cond.constantLong RX4 55 57 ∈ TB := to_TB (in_t3 (i := 37) rfl) rfl
theorem wl_X4_57 : Cond.methodLink RX4 57 yX4_kindBy ∈ TB := to_TB (in_t3 (i := 38) rfl) rfl
theorem ws_X4_kindBy : Cond.static yX4_kindBy ∈ TB := to_TB (in_t3 (i := 39) rfl) rfl
theorem wc_X4_kindBy : Cond.code yX4_kindBy cX4_kindBy 1 (some .int) ∈ TB := to_TB (in_t3 (i := 40) rfl) rfl
theorem wl_L_30 : Cond.methodLink RL 30 yX4_camp ∈ TB := to_TB (in_t3 (i := 41) rfl) rfl
theorem wm_X4_camp : Cond.instanceMethod yX4_camp ∈ TB := to_TB (in_t3 (i := 42) rfl) rfl
theorem we_X4_camp : Cond.selects RX4 yX4_camp yX4_camp ∈ TB := to_TB (in_t3 (i := 43) rfl) rfl
theorem wc_X4_camp : Cond.code yX4_camp cX4_camp 2 (some .int) ∈ TB := to_TB (in_t3 (i := 44) rfl) rfl
theorem wl_L_35 : Cond.methodLink RL 35 yX4_member ∈ TB := to_TB (in_t3 (i := 45) rfl) rfl
theorem wm_X4_member : Cond.instanceMethod yX4_member ∈ TB := to_TB (in_t3 (i := 46) rfl) rfl
theorem we_X4_member : Cond.selects RX4 yX4_member yX4_member ∈ TB := to_TB (in_t3 (i := 47) rfl) rfl
theorem wc_X4_member : Cond.code yX4_member cX4_member 3 (some .int) ∈ TB := to_TB (in_t3 (i := 48) rfl) rfl
theorem wl_X4_102 : Cond.methodLink RX4 102 yX4_isMember ∈ TB := to_TB (in_t3 (i := 49) rfl) rfl
theorem wm_X4_isMember : Cond.instanceMethod yX4_isMember ∈ TB := to_TB (in_t3 (i := 51) rfl) rfl
theorem wc_X4_isMember : Cond.code yX4_isMember cX4_isMember 2 (some .boolean) ∈ TB := to_TB (in_t3 (i := 52) rfl) rfl
theorem wl_X4_105 : Cond.methodLink RX4 105 yX4_tellMember ∈ TB := to_TB (in_t3 (i := 53) rfl) rfl
theorem wm_X4_tellMember : Cond.instanceMethod yX4_tellMember ∈ TB := to_TB (in_t3 (i := 55) rfl) rfl
theorem wc_X4_tellMember : Cond.code yX4_tellMember cX4_tellMember 3 (some .int) ∈ TB := to_TB (in_t3 (i := 56) rfl) rfl
theorem wl_X4_93 : Cond.methodLink RX4 93 yX4_pullsOf ∈ TB := to_TB (in_t3 (i := 57) rfl) rfl
theorem wm_X4_pullsOf : Cond.instanceMethod yX4_pullsOf ∈ TB := to_TB (in_t3 (i := 59) rfl) rfl
theorem wc_X4_pullsOf : Cond.code yX4_pullsOf cX4_pullsOf 2 (some .int) ∈ TB := to_TB (in_t3 (i := 60) rfl) rfl
theorem wl_X4_96 : Cond.methodLink RX4 96 yX4_eatsOf ∈ TB := to_TB (in_t3 (i := 61) rfl) rfl
theorem wm_X4_eatsOf : Cond.instanceMethod yX4_eatsOf ∈ TB := to_TB (in_t3 (i := 63) rfl) rfl
theorem wc_X4_eatsOf : Cond.code yX4_eatsOf cX4_eatsOf 2 (some .int) ∈ TB := to_TB (in_t3 (i := 64) rfl) rfl
theorem wl_X4_99 : Cond.methodLink RX4 99 yX4_feedsOf ∈ TB := to_TB (in_t3 (i := 65) rfl) rfl
theorem wm_X4_feedsOf : Cond.instanceMethod yX4_feedsOf ∈ TB := to_TB (in_t3 (i := 67) rfl) rfl
theorem wc_X4_feedsOf : Cond.code yX4_feedsOf cX4_feedsOf 2 (some .int) ∈ TB := to_TB (in_t3 (i := 68) rfl) rfl
theorem wl_L_39 : Cond.methodLink RL 39 yX4_as ∈ TB := to_TB (in_t3 (i := 69) rfl) rfl
theorem wm_X4_as : Cond.instanceMethod yX4_as ∈ TB := to_TB (in_t3 (i := 70) rfl) rfl
theorem we_X4_as : Cond.selects RX4 yX4_as yX4_as ∈ TB := to_TB (in_t3 (i := 71) rfl) rfl
theorem wc_X4_as : Cond.code yX4_as cX4_as 5 (some .int) ∈ TB := to_TB (in_t3 (i := 72) rfl) rfl
theorem wl_X4_109 : Cond.constantLong RX4 109 4 ∈ TB := to_TB (in_t3 (i := 73) rfl) rfl
theorem wl_L_43 : Cond.methodLink RL 43 yX4_cairn ∈ TB := to_TB (in_t3 (i := 74) rfl) rfl
theorem wm_X4_cairn : Cond.instanceMethod yX4_cairn ∈ TB := to_TB (in_t3 (i := 75) rfl) rfl
theorem we_X4_cairn : Cond.selects RX4 yX4_cairn yX4_cairn ∈ TB := to_TB (in_t3 (i := 76) rfl) rfl
theorem wc_X4_cairn : Cond.code yX4_cairn cX4_cairn 3 (some .int) ∈ TB := to_TB (in_t3 (i := 77) rfl) rfl
theorem wl_X4_117 : Cond.methodLink RX4 117 yX4_isCairn ∈ TB := to_TB (in_t3 (i := 78) rfl) rfl
theorem wm_X4_isCairn : Cond.instanceMethod yX4_isCairn ∈ TB := to_TB (in_t3 (i := 80) rfl) rfl
theorem wc_X4_isCairn : Cond.code yX4_isCairn cX4_isCairn 2 (some .boolean) ∈ TB := to_TB (in_t3 (i := 81) rfl) rfl
theorem wl_X4_87 : Cond.methodLink RX4 87 yX4_lacks ∈ TB := to_TB (in_t3 (i := 82) rfl) rfl
theorem wm_X4_lacks : Cond.instanceMethod yX4_lacks ∈ TB := to_TB (in_t3 (i := 84) rfl) rfl
theorem wc_X4_lacks : Cond.code yX4_lacks cX4_lacks 1 (some .boolean) ∈ TB := to_TB (in_t3 (i := 85) rfl) rfl
theorem wl_X4_91 : Cond.constantLong RX4 91 5 ∈ TB := to_TB (in_t3 (i := 86) rfl) rfl
theorem wl_X4_120 : Cond.methodLink RX4 120 yX4_tellCairn ∈ TB := to_TB (in_t3 (i := 87) rfl) rfl
theorem wm_X4_tellCairn : Cond.instanceMethod yX4_tellCairn ∈ TB := to_TB (in_t3 (i := 89) rfl) rfl
theorem wc_X4_tellCairn : Cond.code yX4_tellCairn cX4_tellCairn 3 (some .int) ∈ TB := to_TB (in_t3 (i := 90) rfl) rfl
theorem wl_X4_111 : Cond.methodLink RX4 111 yX4_layOf ∈ TB := to_TB (in_t3 (i := 91) rfl) rfl
theorem wm_X4_layOf : Cond.instanceMethod yX4_layOf ∈ TB := to_TB (in_t3 (i := 93) rfl) rfl
theorem wc_X4_layOf : Cond.code yX4_layOf cX4_layOf 7 (some .int) ∈ TB := to_TB (in_t3 (i := 94) rfl) rfl
theorem wl_X4_148 : Cond.methodLink RX4 148 yX4_copy ∈ TB := to_TB (in_t3 (i := 95) rfl) rfl
theorem ws_X4_copy : Cond.static yX4_copy ∈ TB := to_TB (in_t3 (i := 96) rfl) rfl
theorem wc_X4_copy : Cond.code yX4_copy cX4_copy 3 none ∈ TB := to_TB (in_t3 (i := 97) rfl) rfl
theorem wl_X4_184 : Cond.methodLink RX4 184 yX4_comesHome ∈ TB := to_TB (in_t3 (i := 98) rfl) rfl
theorem wm_X4_comesHome : Cond.instanceMethod yX4_comesHome ∈ TB := to_TB (in_t3 (i := 100) rfl) rfl
theorem wc_X4_comesHome : Cond.code yX4_comesHome cX4_comesHome 5 (some .boolean) ∈ TB := to_TB (in_t3 (i := 101) rfl) rfl
theorem wl_X4_159 : Cond.methodLink RX4 159 yX4_goMarch ∈ TB := to_TB (in_t3 (i := 102) rfl) rfl
theorem wm_X4_goMarch : Cond.instanceMethod yX4_goMarch ∈ TB := to_TB (in_t3 (i := 104) rfl) rfl
theorem wc_X4_goMarch : Cond.code yX4_goMarch cX4_goMarch 8 none ∈ TB := to_TB (in_t3 (i := 105) rfl) rfl
theorem wl_X4_131 : Cond.methodLink RX4 131 yX4_keepPulled ∈ TB := to_TB (in_t3 (i := 106) rfl) rfl
theorem wm_X4_keepPulled : Cond.instanceMethod yX4_keepPulled ∈ TB := to_TB (in_t3 (i := 108) rfl) rfl
theorem wc_X4_keepPulled : Cond.code yX4_keepPulled cX4_keepPulled 2 none ∈ TB := to_TB (in_t3 (i := 109) rfl) rfl
theorem wl_X4_134 : Cond.methodLink RX4 134 yX4_pullOf ∈ TB := to_TB (in_t3 (i := 110) rfl) rfl
theorem wm_X4_pullOf : Cond.instanceMethod yX4_pullOf ∈ TB := to_TB (in_t3 (i := 112) rfl) rfl
theorem wc_X4_pullOf : Cond.code yX4_pullOf cX4_pullOf 4 (some .int) ∈ TB := to_TB (in_t3 (i := 113) rfl) rfl
theorem wl_X4_155 : Cond.methodLink RX4 155 yX4_goStage ∈ TB := to_TB (in_t3 (i := 114) rfl) rfl
theorem wm_X4_goStage : Cond.instanceMethod yX4_goStage ∈ TB := to_TB (in_t3 (i := 116) rfl) rfl
theorem wc_X4_goStage : Cond.code yX4_goStage cX4_goStage 6 (some .boolean) ∈ TB := to_TB (in_t3 (i := 117) rfl) rfl
theorem wl_X4_137 : Cond.methodLink RX4 137 yX4_lastOf ∈ TB := to_TB (in_t3 (i := 118) rfl) rfl
theorem wm_X4_lastOf : Cond.instanceMethod yX4_lastOf ∈ TB := to_TB (in_t3 (i := 120) rfl) rfl
theorem wc_X4_lastOf : Cond.code yX4_lastOf cX4_lastOf 6 (some .int) ∈ TB := to_TB (in_t3 (i := 121) rfl) rfl
theorem wl_X4_141 : Cond.methodLink RX4 141 yX4_eatBeast ∈ TB := to_TB (in_t3 (i := 122) rfl) rfl
theorem wm_X4_eatBeast : Cond.instanceMethod yX4_eatBeast ∈ TB := to_TB (in_t3 (i := 124) rfl) rfl
theorem wc_X4_eatBeast : Cond.code yX4_eatBeast cX4_eatBeast 2 none ∈ TB := to_TB (in_t3 (i := 125) rfl) rfl
theorem wl_X4_145 : Cond.methodLink RX4 145 yX4_eatOf ∈ TB := to_TB (in_t3 (i := 126) rfl) rfl
theorem wm_X4_eatOf : Cond.instanceMethod yX4_eatOf ∈ TB := to_TB (in_t3 (i := 128) rfl) rfl
theorem wc_X4_eatOf : Cond.code yX4_eatOf cX4_eatOf 4 (some .int) ∈ TB := to_TB (in_t3 (i := 129) rfl) rfl
theorem wl_X4_114 : Cond.methodLink RX4 114 yX4_tryOf ∈ TB := to_TB (in_t3 (i := 130) rfl) rfl
theorem wm_X4_tryOf : Cond.instanceMethod yX4_tryOf ∈ TB := to_TB (in_t3 (i := 132) rfl) rfl
theorem wc_X4_tryOf : Cond.code yX4_tryOf cX4_tryOf 9 (some .int) ∈ TB := to_TB (in_t3 (i := 133) rfl) rfl
theorem wl_L_47 : Cond.methodLink RL 47 yX4_lay ∈ TB := to_TB (in_t3 (i := 134) rfl) rfl
theorem wm_X4_lay : Cond.instanceMethod yX4_lay ∈ TB := to_TB (in_t3 (i := 135) rfl) rfl
theorem we_X4_lay : Cond.selects RX4 yX4_lay yX4_lay ∈ TB := to_TB (in_t3 (i := 136) rfl) rfl
theorem wc_X4_lay : Cond.code yX4_lay cX4_lay 4 (some .int) ∈ TB := to_TB (in_t3 (i := 137) rfl) rfl
theorem wl_X4_123 : Cond.constantLong RX4 123 9 ∈ TB := to_TB (in_t3 (i := 138) rfl) rfl
theorem wl_L_52 : Cond.methodLink RL 52 yX4_march ∈ TB := to_TB (in_t3 (i := 139) rfl) rfl
theorem wm_X4_march : Cond.instanceMethod yX4_march ∈ TB := to_TB (in_t3 (i := 140) rfl) rfl
theorem we_X4_march : Cond.selects RX4 yX4_march yX4_march ∈ TB := to_TB (in_t3 (i := 141) rfl) rfl
theorem wc_X4_march : Cond.code yX4_march cX4_march 4 (some .int) ∈ TB := to_TB (in_t3 (i := 142) rfl) rfl
theorem wl_X4_170 : Cond.methodLink RX4 170 yX4_isMarch ∈ TB := to_TB (in_t3 (i := 143) rfl) rfl
theorem wm_X4_isMarch : Cond.instanceMethod yX4_isMarch ∈ TB := to_TB (in_t3 (i := 145) rfl) rfl
theorem wc_X4_isMarch : Cond.code yX4_isMarch cX4_isMarch 4 (some .boolean) ∈ TB := to_TB (in_t3 (i := 146) rfl) rfl
theorem wl_X4_163 : Cond.methodLink RX4 163 yX4_areMembers ∈ TB := to_TB (in_t3 (i := 147) rfl) rfl
theorem wm_X4_areMembers : Cond.instanceMethod yX4_areMembers ∈ TB := to_TB (in_t3 (i := 149) rfl) rfl
theorem wc_X4_areMembers : Cond.code yX4_areMembers cX4_areMembers 2 (some .boolean) ∈ TB := to_TB (in_t3 (i := 150) rfl) rfl
theorem wl_X4_166 : Cond.constantLong RX4 166 6 ∈ TB := to_TB (in_t3 (i := 151) rfl) rfl
theorem wl_X4_168 : Cond.constantLong RX4 168 40 ∈ TB := to_TB (in_t3 (i := 152) rfl) rfl
theorem wl_L_57 : Cond.methodLink RL 57 yX4_would ∈ TB := to_TB (in_t3 (i := 153) rfl) rfl
theorem wm_X4_would : Cond.instanceMethod yX4_would ∈ TB := to_TB (in_t3 (i := 154) rfl) rfl
theorem we_X4_would : Cond.selects RX4 yX4_would yX4_would ∈ TB := to_TB (in_t3 (i := 155) rfl) rfl
theorem wc_X4_would : Cond.code yX4_would cX4_would 5 (some .int) ∈ TB := to_TB (in_t3 (i := 156) rfl) rfl
theorem wl_X4_178 : Cond.constantLong RX4 178 3 ∈ TB := to_TB (in_t3 (i := 157) rfl) rfl
theorem wl_X4_180 : Cond.methodLink RX4 180 yX4_wouldOf ∈ TB := to_TB (in_t3 (i := 158) rfl) rfl
theorem wm_X4_wouldOf : Cond.instanceMethod yX4_wouldOf ∈ TB := to_TB (in_t3 (i := 160) rfl) rfl
theorem wc_X4_wouldOf : Cond.code yX4_wouldOf cX4_wouldOf 5 (some .int) ∈ TB := to_TB (in_t3 (i := 161) rfl) rfl
theorem wl_X4_174 : Cond.methodLink RX4 174 yX4_sumOf ∈ TB := to_TB (in_t3 (i := 162) rfl) rfl
theorem ws_X4_sumOf : Cond.static yX4_sumOf ∈ TB := to_TB (in_t3 (i := 163) rfl) rfl
theorem wc_X4_sumOf : Cond.code yX4_sumOf cX4_sumOf 3 (some .int) ∈ TB := to_TB (in_t3 (i := 164) rfl) rfl
theorem wl_L_61 : Cond.methodLink RL 61 yX4_need ∈ TB := to_TB (in_t3 (i := 165) rfl) rfl
theorem wm_X4_need : Cond.instanceMethod yX4_need ∈ TB := to_TB (in_t3 (i := 166) rfl) rfl
theorem we_X4_need : Cond.selects RX4 yX4_need yX4_need ∈ TB := to_TB (in_t3 (i := 167) rfl) rfl
theorem wc_X4_need : Cond.code yX4_need cX4_need 3 (some .int) ∈ TB := to_TB (in_t3 (i := 168) rfl) rfl
theorem wl_X4_188 : Cond.methodLink RX4 188 yX4_needOf ∈ TB := to_TB (in_t3 (i := 169) rfl) rfl
theorem wm_X4_needOf : Cond.instanceMethod yX4_needOf ∈ TB := to_TB (in_t3 (i := 171) rfl) rfl
theorem wc_X4_needOf : Cond.code yX4_needOf cX4_needOf 6 (some .int) ∈ TB := to_TB (in_t3 (i := 172) rfl) rfl
theorem wl_L_65 : Cond.methodLink RL 65 yX4_far ∈ TB := to_TB (in_t3 (i := 173) rfl) rfl
theorem wm_X4_far : Cond.instanceMethod yX4_far ∈ TB := to_TB (in_t3 (i := 174) rfl) rfl
theorem we_X4_far : Cond.selects RX4 yX4_far yX4_far ∈ TB := to_TB (in_t3 (i := 175) rfl) rfl
theorem wc_X4_far : Cond.code yX4_far cX4_far 2 (some .int) ∈ TB := to_TB (in_t3 (i := 176) rfl) rfl
theorem wl_X4_192 : Cond.methodLink RX4 192 yX4_farOf ∈ TB := to_TB (in_t3 (i := 177) rfl) rfl
theorem wm_X4_farOf : Cond.instanceMethod yX4_farOf ∈ TB := to_TB (in_t3 (i := 179) rfl) rfl
theorem wc_X4_farOf : Cond.code yX4_farOf cX4_farOf 5 (some .int) ∈ TB := to_TB (in_t3 (i := 180) rfl) rfl
theorem wl_L_69 : Cond.methodLink RL 69 yX4_team ∈ TB := to_TB (in_t3 (i := 181) rfl) rfl
theorem wm_X4_team : Cond.instanceMethod yX4_team ∈ TB := to_TB (in_t3 (i := 182) rfl) rfl
theorem we_X4_team : Cond.selects RX4 yX4_team yX4_team ∈ TB := to_TB (in_t3 (i := 183) rfl) rfl
theorem wc_X4_team : Cond.code yX4_team cX4_team 2 (some .int) ∈ TB := to_TB (in_t3 (i := 184) rfl) rfl
theorem wl_X4_202 : Cond.methodLink RX4 202 yX4_teamOf ∈ TB := to_TB (in_t3 (i := 185) rfl) rfl
theorem wm_X4_teamOf : Cond.instanceMethod yX4_teamOf ∈ TB := to_TB (in_t3 (i := 187) rfl) rfl
theorem wc_X4_teamOf : Cond.code yX4_teamOf cX4_teamOf 5 (some .int) ∈ TB := to_TB (in_t3 (i := 188) rfl) rfl
theorem wl_X4_196 : Cond.methodLink RX4 196 yX4_ones ∈ TB := to_TB (in_t3 (i := 189) rfl) rfl
theorem ws_X4_ones : Cond.static yX4_ones ∈ TB := to_TB (in_t3 (i := 190) rfl) rfl
theorem wc_X4_ones : Cond.code yX4_ones cX4_ones 3 (some .int) ∈ TB := to_TB (in_t3 (i := 191) rfl) rfl
theorem wl_L_74 : Cond.methodLink RL 74 yX4_hear ∈ TB := to_TB (in_t3 (i := 192) rfl) rfl
theorem wm_X4_hear : Cond.instanceMethod yX4_hear ∈ TB := to_TB (in_t3 (i := 193) rfl) rfl
theorem we_X4_hear : Cond.selects RX4 yX4_hear yX4_hear ∈ TB := to_TB (in_t3 (i := 194) rfl) rfl
theorem wc_X4_hear : Cond.code yX4_hear cX4_hear 5 (some .int) ∈ TB := to_TB (in_t3 (i := 195) rfl) rfl
theorem wl_L_78 : Cond.methodLink RL 78 yX4_forget ∈ TB := to_TB (in_t3 (i := 196) rfl) rfl
theorem wm_X4_forget : Cond.instanceMethod yX4_forget ∈ TB := to_TB (in_t3 (i := 197) rfl) rfl
theorem we_X4_forget : Cond.selects RX4 yX4_forget yX4_forget ∈ TB := to_TB (in_t3 (i := 198) rfl) rfl
theorem wc_X4_forget : Cond.code yX4_forget cX4_forget 2 (some .int) ∈ TB := to_TB (in_t3 (i := 199) rfl) rfl
theorem wl_L_82 : Cond.methodLink RL 82 yX4_winters ∈ TB := to_TB (in_t3 (i := 200) rfl) rfl
theorem wm_X4_winters : Cond.instanceMethod yX4_winters ∈ TB := to_TB (in_t3 (i := 201) rfl) rfl
theorem we_X4_winters : Cond.selects RX4 yX4_winters yX4_winters ∈ TB := to_TB (in_t3 (i := 202) rfl) rfl
theorem wc_X4_winters : Cond.code yX4_winters cX4_winters 7 (some .int) ∈ TB := to_TB (in_t3 (i := 203) rfl) rfl
theorem wl_X4_215 : Cond.constantLong RX4 215 20 ∈ TB := to_TB (in_t3 (i := 204) rfl) rfl
theorem wl_X4_217 : Cond.constantLong RX4 217 2 ∈ TB := to_TB (in_t3 (i := 205) rfl) rfl
theorem wl_X4_219 : Cond.methodLink RX4 219 yX4_draw ∈ TB := to_TB (in_t3 (i := 206) rfl) rfl
theorem wm_X4_draw : Cond.instanceMethod yX4_draw ∈ TB := to_TB (in_t3 (i := 208) rfl) rfl
theorem wc_X4_draw : Cond.code yX4_draw cX4_draw 2 (some .int) ∈ TB := to_TB (in_t3 (i := 209) rfl) rfl
theorem wl_X4_205 : Cond.constantLong RX4 205 1103515245 ∈ TB := to_TB (in_t3 (i := 210) rfl) rfl
theorem wl_X4_210 : Cond.constantLong RX4 210 12345 ∈ TB := to_TB (in_t3 (i := 211) rfl) rfl
theorem wl_X4_212 : Cond.constantLong RX4 212 2147483647 ∈ TB := to_TB (in_t3 (i := 212) rfl) rfl
theorem wl_X4_214 : Cond.constant RX4 214 65536 ∈ TB := to_TB (in_t3 (i := 213) rfl) rfl
theorem wl_L_86 : Cond.methodLink RL 86 yX4_image ∈ TB := to_TB (in_t3 (i := 214) rfl) rfl
theorem wm_X4_image : Cond.instanceMethod yX4_image ∈ TB := to_TB (in_t3 (i := 215) rfl) rfl
theorem we_X4_image : Cond.selects RX4 yX4_image yX4_image ∈ TB := to_TB (in_t3 (i := 216) rfl) rfl
theorem wc_X4_image : Cond.code yX4_image cX4_image 1 (some .int) ∈ TB := to_TB (in_t3 (i := 217) rfl) rfl
theorem wl_L_90 : Cond.methodLink RL 90 yX4_restore ∈ TB := to_TB (in_t3 (i := 218) rfl) rfl
theorem wm_X4_restore : Cond.instanceMethod yX4_restore ∈ TB := to_TB (in_t3 (i := 219) rfl) rfl
theorem we_X4_restore : Cond.selects RX4 yX4_restore yX4_restore ∈ TB := to_TB (in_t3 (i := 220) rfl) rfl
theorem wc_X4_restore : Cond.code yX4_restore cX4_restore 1 (some .int) ∈ TB := to_TB (in_t3 (i := 221) rfl) rfl
theorem wl_L_94 : Cond.methodLink RL 94 yX4_count ∈ TB := to_TB (in_t3 (i := 222) rfl) rfl
theorem wm_X4_count : Cond.instanceMethod yX4_count ∈ TB := to_TB (in_t3 (i := 223) rfl) rfl
theorem we_X4_count : Cond.selects RX4 yX4_count yX4_count ∈ TB := to_TB (in_t3 (i := 224) rfl) rfl
theorem wc_X4_count : Cond.code yX4_count cX4_count 2 (some .int) ∈ TB := to_TB (in_t3 (i := 225) rfl) rfl
theorem wl_X4_234 : Cond.methodLink RX4 234 yX4_countOf ∈ TB := to_TB (in_t3 (i := 226) rfl) rfl
theorem wm_X4_countOf : Cond.instanceMethod yX4_countOf ∈ TB := to_TB (in_t3 (i := 228) rfl) rfl
theorem wc_X4_countOf : Cond.code yX4_countOf cX4_countOf 2 (some .int) ∈ TB := to_TB (in_t3 (i := 229) rfl) rfl
theorem wl_L_99 : Cond.methodLink RL 99 yX4_digest ∈ TB := to_TB (in_t3 (i := 230) rfl) rfl
theorem wm_X4_digest : Cond.instanceMethod yX4_digest ∈ TB := to_TB (in_t3 (i := 231) rfl) rfl
theorem we_X4_digest : Cond.selects RX4 yX4_digest yX4_digest ∈ TB := to_TB (in_t3 (i := 232) rfl) rfl
theorem wc_X4_digest : Cond.code yX4_digest cX4_digest 3 (some .long) ∈ TB := to_TB (in_t3 (i := 233) rfl) rfl
theorem wl_X4_243 : Cond.constantLong RX4 243 1051 ∈ TB := to_TB (in_t3 (i := 234) rfl) rfl
theorem wl_X4_245 : Cond.methodLink RX4 245 yX4_say ∈ TB := to_TB (in_t3 (i := 235) rfl) rfl
theorem wm_X4_say : Cond.instanceMethod yX4_say ∈ TB := to_TB (in_t3 (i := 237) rfl) rfl
theorem wc_X4_say : Cond.code yX4_say cX4_say 3 none ∈ TB := to_TB (in_t3 (i := 238) rfl) rfl
theorem wl_X4_237 : Cond.constantLong RX4 237 31 ∈ TB := to_TB (in_t3 (i := 239) rfl) rfl
theorem we_X0_add : Cond.selects RX0 yX0_add yX0_add ∈ TB := to_TB (in_sel (in_p1 (i := 0) rfl)) rfl
theorem we_X0_firstWrong : Cond.selects RX0 yX0_firstWrong yX0_firstWrong ∈ TB := to_TB (in_sel (in_p1 (i := 1) rfl)) rfl
theorem we_X0_codeAt : Cond.selects RX0 yX0_codeAt yX0_codeAt ∈ TB := to_TB (in_sel (in_p1 (i := 2) rfl)) rfl
theorem we_X0_isCamp : Cond.selects RX0 yX0_isCamp yX0_isCamp ∈ TB := to_TB (in_sel (in_p1 (i := 3) rfl)) rfl
theorem we_X1_all : Cond.selects RX1 yX1_all yX1_all ∈ TB := to_TB (in_sel (in_p1 (i := 4) rfl)) rfl
theorem we_X2_begin : Cond.selects RX2 yX2_begin yX2_begin ∈ TB := to_TB (in_sel (in_p1 (i := 5) rfl)) rfl
theorem we_X3_isNoCairn : Cond.selects RX3 yX3_isNoCairn yX3_isNoCairn ∈ TB := to_TB (in_sel (in_p1 (i := 6) rfl)) rfl
theorem we_X3_amountsAt : Cond.selects RX3 yX3_amountsAt yX3_amountsAt ∈ TB := to_TB (in_sel (in_p1 (i := 7) rfl)) rfl
theorem we_X3_isAllSo : Cond.selects RX3 yX3_isAllSo yX3_isAllSo ∈ TB := to_TB (in_sel (in_p1 (i := 8) rfl)) rfl
theorem we_X1_setCairns : Cond.selects RX1 yX1_setCairns yX1_setCairns ∈ TB := to_TB (in_sel (in_p1 (i := 9) rfl)) rfl
theorem we_X1_go : Cond.selects RX1 yX1_go yX1_go ∈ TB := to_TB (in_sel (in_p1 (i := 10) rfl)) rfl
theorem we_X1_setOut : Cond.selects RX1 yX1_setOut yX1_setOut ∈ TB := to_TB (in_sel (in_p1 (i := 11) rfl)) rfl
theorem we_X1_together : Cond.selects RX1 yX1_together yX1_together ∈ TB := to_TB (in_sel (in_p1 (i := 12) rfl)) rfl
theorem we_X1_eatPonies : Cond.selects RX1 yX1_eatPonies yX1_eatPonies ∈ TB := to_TB (in_sel (in_p1 (i := 13) rfl)) rfl
theorem we_X1_devour : Cond.selects RX1 yX1_devour yX1_devour ∈ TB := to_TB (in_sel (in_p1 (i := 14) rfl)) rfl
theorem we_X1_eatBeasts : Cond.selects RX1 yX1_eatBeasts yX1_eatBeasts ∈ TB := to_TB (in_sel (in_p1 (i := 15) rfl)) rfl
theorem we_X1_dieOn : Cond.selects RX1 yX1_dieOn yX1_dieOn ∈ TB := to_TB (in_sel (in_p2 (i := 0) rfl)) rfl
theorem we_X1_takeUpAt : Cond.selects RX1 yX1_takeUpAt yX1_takeUpAt ∈ TB := to_TB (in_sel (in_p2 (i := 1) rfl)) rfl
theorem we_X3_bestTrial : Cond.selects RX3 yX3_bestTrial yX3_bestTrial ∈ TB := to_TB (in_sel (in_p2 (i := 2) rfl)) rfl
theorem we_X3_mostFoodOf : Cond.selects RX3 yX3_mostFoodOf yX3_mostFoodOf ∈ TB := to_TB (in_sel (in_p2 (i := 3) rfl)) rfl
theorem we_X3_leftAtWorst : Cond.selects RX3 yX3_leftAtWorst yX3_leftAtWorst ∈ TB := to_TB (in_sel (in_p2 (i := 4) rfl)) rfl
theorem we_X3_isNoMarch : Cond.selects RX3 yX3_isNoMarch yX3_isNoMarch ∈ TB := to_TB (in_sel (in_p2 (i := 5) rfl)) rfl
theorem we_X3_isNobody : Cond.selects RX3 yX3_isNobody yX3_isNobody ∈ TB := to_TB (in_sel (in_p2 (i := 6) rfl)) rfl
theorem we_X3_anyIsDead : Cond.selects RX3 yX3_anyIsDead yX3_anyIsDead ∈ TB := to_TB (in_sel (in_p2 (i := 7) rfl)) rfl
theorem we_X3_leastFood : Cond.selects RX3 yX3_leastFood yX3_leastFood ∈ TB := to_TB (in_sel (in_p2 (i := 8) rfl)) rfl
theorem we_X3_farthest : Cond.selects RX3 yX3_farthest yX3_farthest ∈ TB := to_TB (in_sel (in_p2 (i := 9) rfl)) rfl
theorem we_X3_fewest : Cond.selects RX3 yX3_fewest yX3_fewest ∈ TB := to_TB (in_sel (in_p2 (i := 10) rfl)) rfl
theorem we_X2_note : Cond.selects RX2 yX2_note yX2_note ∈ TB := to_TB (in_sel (in_p2 (i := 11) rfl)) rfl
theorem we_X3_letCreep : Cond.selects RX3 yX3_letCreep yX3_letCreep ∈ TB := to_TB (in_sel (in_p2 (i := 12) rfl)) rfl
theorem we_X2_takeFrom : Cond.selects RX2 yX2_takeFrom yX2_takeFrom ∈ TB := to_TB (in_sel (in_p2 (i := 13) rfl)) rfl
theorem we_X4_faultOf : Cond.selects RX4 yX4_faultOf yX4_faultOf ∈ TB := to_TB (in_sel (in_p2 (i := 14) rfl)) rfl
theorem we_X4_isGood : Cond.selects RX4 yX4_isGood yX4_isGood ∈ TB := to_TB (in_sel (in_p2 (i := 15) rfl)) rfl
theorem we_X4_isMember : Cond.selects RX4 yX4_isMember yX4_isMember ∈ TB := to_TB (in_sel (in_p3 (i := 0) rfl)) rfl
theorem we_X4_tellMember : Cond.selects RX4 yX4_tellMember yX4_tellMember ∈ TB := to_TB (in_sel (in_p3 (i := 1) rfl)) rfl
theorem we_X4_pullsOf : Cond.selects RX4 yX4_pullsOf yX4_pullsOf ∈ TB := to_TB (in_sel (in_p3 (i := 2) rfl)) rfl
theorem we_X4_eatsOf : Cond.selects RX4 yX4_eatsOf yX4_eatsOf ∈ TB := to_TB (in_sel (in_p3 (i := 3) rfl)) rfl
theorem we_X4_feedsOf : Cond.selects RX4 yX4_feedsOf yX4_feedsOf ∈ TB := to_TB (in_sel (in_p3 (i := 4) rfl)) rfl
theorem we_X4_isCairn : Cond.selects RX4 yX4_isCairn yX4_isCairn ∈ TB := to_TB (in_sel (in_p3 (i := 5) rfl)) rfl
theorem we_X4_lacks : Cond.selects RX4 yX4_lacks yX4_lacks ∈ TB := to_TB (in_sel (in_p3 (i := 6) rfl)) rfl
theorem we_X4_tellCairn : Cond.selects RX4 yX4_tellCairn yX4_tellCairn ∈ TB := to_TB (in_sel (in_p3 (i := 7) rfl)) rfl
theorem we_X4_layOf : Cond.selects RX4 yX4_layOf yX4_layOf ∈ TB := to_TB (in_sel (in_p3 (i := 8) rfl)) rfl
theorem we_X4_comesHome : Cond.selects RX4 yX4_comesHome yX4_comesHome ∈ TB := to_TB (in_sel (in_p3 (i := 9) rfl)) rfl
theorem we_X4_goMarch : Cond.selects RX4 yX4_goMarch yX4_goMarch ∈ TB := to_TB (in_sel (in_p3 (i := 10) rfl)) rfl
theorem we_X4_keepPulled : Cond.selects RX4 yX4_keepPulled yX4_keepPulled ∈ TB := to_TB (in_sel (in_p3 (i := 11) rfl)) rfl
theorem we_X4_pullOf : Cond.selects RX4 yX4_pullOf yX4_pullOf ∈ TB := to_TB (in_sel (in_p3 (i := 12) rfl)) rfl
theorem we_X4_goStage : Cond.selects RX4 yX4_goStage yX4_goStage ∈ TB := to_TB (in_sel (in_p3 (i := 13) rfl)) rfl
theorem we_X4_lastOf : Cond.selects RX4 yX4_lastOf yX4_lastOf ∈ TB := to_TB (in_sel (in_p3 (i := 14) rfl)) rfl
theorem we_X4_eatBeast : Cond.selects RX4 yX4_eatBeast yX4_eatBeast ∈ TB := to_TB (in_sel (in_p3 (i := 15) rfl)) rfl
theorem we_X4_eatOf : Cond.selects RX4 yX4_eatOf yX4_eatOf ∈ TB := to_TB (in_sel (in_p4 (i := 0) rfl)) rfl
theorem we_X4_tryOf : Cond.selects RX4 yX4_tryOf yX4_tryOf ∈ TB := to_TB (in_sel (in_p4 (i := 1) rfl)) rfl
theorem we_X4_isMarch : Cond.selects RX4 yX4_isMarch yX4_isMarch ∈ TB := to_TB (in_sel (in_p4 (i := 2) rfl)) rfl
theorem we_X4_areMembers : Cond.selects RX4 yX4_areMembers yX4_areMembers ∈ TB := to_TB (in_sel (in_p4 (i := 3) rfl)) rfl
theorem we_X4_wouldOf : Cond.selects RX4 yX4_wouldOf yX4_wouldOf ∈ TB := to_TB (in_sel (in_p4 (i := 4) rfl)) rfl
theorem we_X4_needOf : Cond.selects RX4 yX4_needOf yX4_needOf ∈ TB := to_TB (in_sel (in_p4 (i := 5) rfl)) rfl
theorem we_X4_farOf : Cond.selects RX4 yX4_farOf yX4_farOf ∈ TB := to_TB (in_sel (in_p4 (i := 6) rfl)) rfl
theorem we_X4_teamOf : Cond.selects RX4 yX4_teamOf yX4_teamOf ∈ TB := to_TB (in_sel (in_p4 (i := 7) rfl)) rfl
theorem we_X4_draw : Cond.selects RX4 yX4_draw yX4_draw ∈ TB := to_TB (in_sel (in_p4 (i := 8) rfl)) rfl
theorem we_X4_countOf : Cond.selects RX4 yX4_countOf yX4_countOf ∈ TB := to_TB (in_sel (in_p4 (i := 9) rfl)) rfl
theorem we_X4_say : Cond.selects RX4 yX4_say yX4_say ∈ TB := to_TB (in_sel (in_p4 (i := 10) rfl)) rfl
theorem wf_X0_0 : u_lay RX0 TX0 0 ∈ TB := to_TB (in_t1 (i := 25) rfl) rfl
theorem wf_X0_1 : u_lay RX0 TX0 1 ∈ TB := to_TB (in_t1 (i := 27) rfl) rfl
theorem wf_X0 : ∀ w ∈ u_ws RX0 TX0 2, w ∈ TB := fun w hw => by
  obtain ⟨k, hk, rfl⟩ := List.mem_map.mp hw
  have hk := List.mem_range.mp hk
  match k, hk with
  | 0, _ => exact wf_X0_0
  | 1, _ => exact wf_X0_1
  | k + 2, hk => exact absurd hk (by omega)
theorem wf_X1_0 : u_lay RX1 TX1 0 ∈ TB := to_TB (in_t1 (i := 51) rfl) rfl
theorem wf_X1_1 : u_lay RX1 TX1 1 ∈ TB := to_TB (in_t1 (i := 53) rfl) rfl
theorem wf_X1_2 : u_lay RX1 TX1 2 ∈ TB := to_TB (in_t1 (i := 55) rfl) rfl
theorem wf_X1_3 : u_lay RX1 TX1 3 ∈ TB := to_TB (in_t1 (i := 57) rfl) rfl
theorem wf_X1_4 : u_lay RX1 TX1 4 ∈ TB := to_TB (in_t1 (i := 59) rfl) rfl
theorem wf_X1_5 : u_lay RX1 TX1 5 ∈ TB := to_TB (in_t1 (i := 61) rfl) rfl
theorem wf_X1_6 : u_lay RX1 TX1 6 ∈ TB := to_TB (in_t1 (i := 63) rfl) rfl
theorem wf_X1_7 : u_lay RX1 TX1 7 ∈ TB := to_TB (in_t1 (i := 65) rfl) rfl
theorem wf_X1 : ∀ w ∈ u_ws RX1 TX1 8, w ∈ TB := fun w hw => by
  obtain ⟨k, hk, rfl⟩ := List.mem_map.mp hw
  have hk := List.mem_range.mp hk
  match k, hk with
  | 0, _ => exact wf_X1_0
  | 1, _ => exact wf_X1_1
  | 2, _ => exact wf_X1_2
  | 3, _ => exact wf_X1_3
  | 4, _ => exact wf_X1_4
  | 5, _ => exact wf_X1_5
  | 6, _ => exact wf_X1_6
  | 7, _ => exact wf_X1_7
  | k + 8, hk => exact absurd hk (by omega)
theorem wf_X2_0 : u_lay RX2 TX2 0 ∈ TB := to_TB (in_t1 (i := 92) rfl) rfl
theorem wf_X2_1 : u_lay RX2 TX2 1 ∈ TB := to_TB (in_t1 (i := 94) rfl) rfl
theorem wf_X2_2 : u_lay RX2 TX2 2 ∈ TB := to_TB (in_t1 (i := 96) rfl) rfl
theorem wf_X2_3 : u_lay RX2 TX2 3 ∈ TB := to_TB (in_t1 (i := 98) rfl) rfl
theorem wf_X2_4 : u_lay RX2 TX2 4 ∈ TB := to_TB (in_t1 (i := 100) rfl) rfl
theorem wf_X2_5 : u_lay RX2 TX2 5 ∈ TB := to_TB (in_t1 (i := 102) rfl) rfl
theorem wf_X2_6 : u_lay RX2 TX2 6 ∈ TB := to_TB (in_t1 (i := 104) rfl) rfl
theorem wf_X2_7 : u_lay RX2 TX2 7 ∈ TB := to_TB (in_t1 (i := 106) rfl) rfl
theorem wf_X2_8 : u_lay RX2 TX2 8 ∈ TB := to_TB (in_t1 (i := 108) rfl) rfl
theorem wf_X2 : ∀ w ∈ u_ws RX2 TX2 9, w ∈ TB := fun w hw => by
  obtain ⟨k, hk, rfl⟩ := List.mem_map.mp hw
  have hk := List.mem_range.mp hk
  match k, hk with
  | 0, _ => exact wf_X2_0
  | 1, _ => exact wf_X2_1
  | 2, _ => exact wf_X2_2
  | 3, _ => exact wf_X2_3
  | 4, _ => exact wf_X2_4
  | 5, _ => exact wf_X2_5
  | 6, _ => exact wf_X2_6
  | 7, _ => exact wf_X2_7
  | 8, _ => exact wf_X2_8
  | k + 9, hk => exact absurd hk (by omega)
theorem wf_X3_0 : u_lay RX3 TX3 0 ∈ TB := to_TB (in_t1 (i := 119) rfl) rfl
theorem wf_X3_1 : u_lay RX3 TX3 1 ∈ TB := to_TB (in_t1 (i := 121) rfl) rfl
theorem wf_X3_2 : u_lay RX3 TX3 2 ∈ TB := to_TB (in_t1 (i := 123) rfl) rfl
theorem wf_X3_3 : u_lay RX3 TX3 3 ∈ TB := to_TB (in_t1 (i := 125) rfl) rfl
theorem wf_X3_4 : u_lay RX3 TX3 4 ∈ TB := to_TB (in_t1 (i := 127) rfl) rfl
theorem wf_X3_5 : u_lay RX3 TX3 5 ∈ TB := to_TB (in_t1 (i := 129) rfl) rfl
theorem wf_X3_6 : u_lay RX3 TX3 6 ∈ TB := to_TB (in_t1 (i := 131) rfl) rfl
theorem wf_X3_7 : u_lay RX3 TX3 7 ∈ TB := to_TB (in_t1 (i := 133) rfl) rfl
theorem wf_X3 : ∀ w ∈ u_ws RX3 TX3 8, w ∈ TB := fun w hw => by
  obtain ⟨k, hk, rfl⟩ := List.mem_map.mp hw
  have hk := List.mem_range.mp hk
  match k, hk with
  | 0, _ => exact wf_X3_0
  | 1, _ => exact wf_X3_1
  | 2, _ => exact wf_X3_2
  | 3, _ => exact wf_X3_3
  | 4, _ => exact wf_X3_4
  | 5, _ => exact wf_X3_5
  | 6, _ => exact wf_X3_6
  | 7, _ => exact wf_X3_7
  | k + 8, hk => exact absurd hk (by omega)
theorem wf_X4_0 : u_lay RX4 TX4 0 ∈ TB := to_TB (in_t2 (i := 195) rfl) rfl
theorem wf_X4_1 : u_lay RX4 TX4 1 ∈ TB := to_TB (in_t2 (i := 197) rfl) rfl
theorem wf_X4_2 : u_lay RX4 TX4 2 ∈ TB := to_TB (in_t2 (i := 199) rfl) rfl
theorem wf_X4_3 : u_lay RX4 TX4 3 ∈ TB := to_TB (in_t2 (i := 201) rfl) rfl
theorem wf_X4_4 : u_lay RX4 TX4 4 ∈ TB := to_TB (in_t2 (i := 203) rfl) rfl
theorem wf_X4_5 : u_lay RX4 TX4 5 ∈ TB := to_TB (in_t2 (i := 205) rfl) rfl
theorem wf_X4_6 : u_lay RX4 TX4 6 ∈ TB := to_TB (in_t2 (i := 207) rfl) rfl
theorem wf_X4_7 : u_lay RX4 TX4 7 ∈ TB := to_TB (in_t2 (i := 209) rfl) rfl
theorem wf_X4_8 : u_lay RX4 TX4 8 ∈ TB := to_TB (in_t2 (i := 211) rfl) rfl
theorem wf_X4_9 : u_lay RX4 TX4 9 ∈ TB := to_TB (in_t2 (i := 213) rfl) rfl
theorem wf_X4_10 : u_lay RX4 TX4 10 ∈ TB := to_TB (in_t2 (i := 215) rfl) rfl
theorem wf_X4_11 : u_lay RX4 TX4 11 ∈ TB := to_TB (in_t2 (i := 217) rfl) rfl
theorem wf_X4_12 : u_lay RX4 TX4 12 ∈ TB := to_TB (in_t2 (i := 219) rfl) rfl
theorem wf_X4_13 : u_lay RX4 TX4 13 ∈ TB := to_TB (in_t2 (i := 221) rfl) rfl
theorem wf_X4_14 : u_lay RX4 TX4 14 ∈ TB := to_TB (in_t2 (i := 223) rfl) rfl
theorem wf_X4_15 : u_lay RX4 TX4 15 ∈ TB := to_TB (in_t2 (i := 225) rfl) rfl
theorem wf_X4_16 : u_lay RX4 TX4 16 ∈ TB := to_TB (in_t2 (i := 227) rfl) rfl
theorem wf_X4_17 : u_lay RX4 TX4 17 ∈ TB := to_TB (in_t2 (i := 229) rfl) rfl
theorem wf_X4_18 : u_lay RX4 TX4 18 ∈ TB := to_TB (in_t2 (i := 231) rfl) rfl
theorem wf_X4_19 : u_lay RX4 TX4 19 ∈ TB := to_TB (in_t2 (i := 233) rfl) rfl
theorem wf_X4_20 : u_lay RX4 TX4 20 ∈ TB := to_TB (in_t2 (i := 235) rfl) rfl
theorem wf_X4_21 : u_lay RX4 TX4 21 ∈ TB := to_TB (in_t2 (i := 237) rfl) rfl
theorem wf_X4_22 : u_lay RX4 TX4 22 ∈ TB := to_TB (in_t2 (i := 239) rfl) rfl
theorem wf_X4_23 : u_lay RX4 TX4 23 ∈ TB := to_TB (in_t3 (i := 1) rfl) rfl
theorem wf_X4_24 : u_lay RX4 TX4 24 ∈ TB := to_TB (in_t3 (i := 3) rfl) rfl
theorem wf_X4_25 : u_lay RX4 TX4 25 ∈ TB := to_TB (in_t3 (i := 5) rfl) rfl
theorem wf_X4_26 : u_lay RX4 TX4 26 ∈ TB := to_TB (in_t3 (i := 7) rfl) rfl
theorem wf_X4_27 : u_lay RX4 TX4 27 ∈ TB := to_TB (in_t3 (i := 9) rfl) rfl
theorem wf_X4 : ∀ w ∈ u_ws RX4 TX4 28, w ∈ TB := fun w hw => by
  obtain ⟨k, hk, rfl⟩ := List.mem_map.mp hw
  have hk := List.mem_range.mp hk
  match k, hk with
  | 0, _ => exact wf_X4_0
  | 1, _ => exact wf_X4_1
  | 2, _ => exact wf_X4_2
  | 3, _ => exact wf_X4_3
  | 4, _ => exact wf_X4_4
  | 5, _ => exact wf_X4_5
  | 6, _ => exact wf_X4_6
  | 7, _ => exact wf_X4_7
  | 8, _ => exact wf_X4_8
  | 9, _ => exact wf_X4_9
  | 10, _ => exact wf_X4_10
  | 11, _ => exact wf_X4_11
  | 12, _ => exact wf_X4_12
  | 13, _ => exact wf_X4_13
  | 14, _ => exact wf_X4_14
  | 15, _ => exact wf_X4_15
  | 16, _ => exact wf_X4_16
  | 17, _ => exact wf_X4_17
  | 18, _ => exact wf_X4_18
  | 19, _ => exact wf_X4_19
  | 20, _ => exact wf_X4_20
  | 21, _ => exact wf_X4_21
  | 22, _ => exact wf_X4_22
  | 23, _ => exact wf_X4_23
  | 24, _ => exact wf_X4_24
  | 25, _ => exact wf_X4_25
  | 26, _ => exact wf_X4_26
  | 27, _ => exact wf_X4_27
  | k + 28, hk => exact absurd hk (by omega)
