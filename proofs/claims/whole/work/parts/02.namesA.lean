/-! ===== BEGIN words of one list among another's, by their places ===== -/
theorem goodIn_r {big : List Cond} (ws : List Cond) (ps : List Nat) (hp : ws = ps.filterMap (fun i => big[i]?)) (h : ws.all goodWord = true) : GoodIn big ws := by
  intro w hw
  have h1 := List.all_eq_true.mp h w hw
  rw [hp] at hw
  obtain ⟨i, -, hi⟩ := List.mem_filterMap.mp hw
  have hm : w ∈ big := by first | exact List.mem_of_getElem? hi | exact List.getElem?_mem hi
  exact ⟨hm, good_of_word h1⟩
theorem goodIn_app {big a b : List Cond} (ha : GoodIn big a) (hb : GoodIn big b) : GoodIn big (a ++ b) := fun w h => (List.mem_append.mp h).elim (ha w) (hb w)
theorem goodIn_ca {big a b : List Cond} {c : Cond} (ha : GoodIn big (c :: a)) (hb : GoodIn big b) : GoodIn big (c :: (a ++ b)) := fun w h => (List.mem_cons.mp h).elim (fun e => ha w (List.mem_cons.mpr (Or.inl e))) (fun h => (List.mem_append.mp h).elim (fun h => ha w (List.mem_cons.mpr (Or.inr h))) (hb w))
theorem goodIn_sub {big ws : List Cond} (hm : ∀ w ∈ ws, w ∈ big) (h : ws.all goodWord = true) : GoodIn big ws := fun w hw => ⟨hm w hw, good_of_word (List.all_eq_true.mp h w hw)⟩
/-! ===== END ===== -/

/-! ===== BEGIN printed: names, fields, word lists, decode rows ===== -/
def RX0 : String := "ColdDepots$Page"
def TX0 : u_T := fun k => match k with
  | 0 => ("ColdDepots$Page", "codes", "[I", true)
  | _ => ("ColdDepots$Page", "length", "I", false)
def tyX0 : Nat → FieldType := fun k => match k with
  | 0 => .array .int
  | _ => .int
abbrev wsX00 : List Cond := u_ws RX0 TX0 2
theorem nmX0 : ∀ a, a < 2 → ∀ b, b < 2 → a ≠ b → (TX0 a).2.1 ≠ (TX0 b).2.1 := by decide +kernel
theorem tyX0_ok : ∀ k, k < 2 → parseFieldDescriptor (TX0 k).2.2.1 = some (tyX0 k) := by decide +kernel
abbrev cX0_init : ByteArray := prog_2_method_1_code
def yX0_init : MethodName := ⟨RX0, "<init>", "()V"⟩
abbrev cX0_add : ByteArray := prog_2_method_2_code
def yX0_add : MethodName := ⟨RX0, "add", "(I)Z"⟩
abbrev cX0_codeAt : ByteArray := prog_2_method_3_code
def yX0_codeAt : MethodName := ⟨RX0, "codeAt", "(I)I"⟩
abbrev cX0_firstWrong : ByteArray := prog_2_method_4_code
def yX0_firstWrong : MethodName := ⟨RX0, "firstWrong", "()I"⟩
abbrev cX0_isCamp : ByteArray := prog_2_method_5_code
def yX0_isCamp : MethodName := ⟨RX0, "isCamp", "()Z"⟩
def RX1 : String := "ColdDepots$Party"
def TX1 : u_T := fun k => match k with
  | 0 => ("ColdDepots$Party", "kinds", "[I", true)
  | 1 => ("ColdDepots$Party", "size", "I", false)
  | 2 => ("ColdDepots$Party", "cairns", "[I", true)
  | 3 => ("ColdDepots$Party", "alive", "I", false)
  | 4 => ("ColdDepots$Party", "food", "I", false)
  | 5 => ("ColdDepots$Party", "pull", "I", false)
  | 6 => ("ColdDepots$Party", "eat", "I", false)
  | _ => ("ColdDepots$Party", "diedOn", "I", false)
def tyX1 : Nat → FieldType := fun k => match k with
  | 0 => .array .int
  | 1 => .int
  | 2 => .array .int
  | 3 => .int
  | 4 => .int
  | 5 => .int
  | 6 => .int
  | _ => .int
abbrev wsX10 : List Cond := u_ws RX1 TX1 8
theorem nmX1 : ∀ a, a < 8 → ∀ b, b < 8 → a ≠ b → (TX1 a).2.1 ≠ (TX1 b).2.1 := by decide +kernel
theorem tyX1_ok : ∀ k, k < 8 → parseFieldDescriptor (TX1 k).2.2.1 = some (tyX1 k) := by decide +kernel
abbrev cX1_init : ByteArray := prog_3_method_1_code
def yX1_init : MethodName := ⟨RX1, "<init>", "()V"⟩
abbrev cX1_all : ByteArray := prog_3_method_2_code
def yX1_all : MethodName := ⟨RX1, "all", "()I"⟩
abbrev cX1_together : ByteArray := prog_3_method_3_code
def yX1_together : MethodName := ⟨RX1, "together", "(I[I)I"⟩
abbrev cX1_setCairns : ByteArray := prog_3_method_4_code
def yX1_setCairns : MethodName := ⟨RX1, "setCairns", "([I)V"⟩
abbrev cX1_go : ByteArray := prog_3_method_5_code
def yX1_go : MethodName := ⟨RX1, "go", "(III)Z"⟩
abbrev cX1_setOut : ByteArray := prog_3_method_6_code
def yX1_setOut : MethodName := ⟨RX1, "setOut", "(II)V"⟩
abbrev cX1_eatPonies : ByteArray := prog_3_method_7_code
def yX1_eatPonies : MethodName := ⟨RX1, "eatPonies", "()V"⟩
abbrev cX1_eatBeasts : ByteArray := prog_3_method_8_code
def yX1_eatBeasts : MethodName := ⟨RX1, "eatBeasts", "()V"⟩
abbrev cX1_devour : ByteArray := prog_3_method_9_code
def yX1_devour : MethodName := ⟨RX1, "devour", "(I)V"⟩
abbrev cX1_dieOn : ByteArray := prog_3_method_10_code
def yX1_dieOn : MethodName := ⟨RX1, "dieOn", "(I)V"⟩
abbrev cX1_takeUpAt : ByteArray := prog_3_method_11_code
def yX1_takeUpAt : MethodName := ⟨RX1, "takeUpAt", "(I)V"⟩
def RX2 : String := "ColdDepots$Standing"
def TX2 : u_T := fun k => match k with
  | 0 => ("ColdDepots$Standing", "alive", "I", false)
  | 1 => ("ColdDepots$Standing", "cairns", "[I", true)
  | 2 => ("ColdDepots$Standing", "marches", "I", false)
  | 3 => ("ColdDepots$Standing", "comingsHome", "I", false)
  | 4 => ("ColdDepots$Standing", "heard", "I", false)
  | 5 => ("ColdDepots$Standing", "heardMembers", "[I", true)
  | 6 => ("ColdDepots$Standing", "heardStages", "[I", true)
  | 7 => ("ColdDepots$Standing", "heardFoods", "[I", true)
  | _ => ("ColdDepots$Standing", "heardHomes", "[I", true)
def tyX2 : Nat → FieldType := fun k => match k with
  | 0 => .int
  | 1 => .array .int
  | 2 => .int
  | 3 => .int
  | 4 => .int
  | 5 => .array .int
  | 6 => .array .int
  | 7 => .array .int
  | _ => .array .int
abbrev wsX20 : List Cond := u_ws RX2 TX2 9
theorem nmX2 : ∀ a, a < 9 → ∀ b, b < 9 → a ≠ b → (TX2 a).2.1 ≠ (TX2 b).2.1 := by decide +kernel
theorem tyX2_ok : ∀ k, k < 9 → parseFieldDescriptor (TX2 k).2.2.1 = some (tyX2 k) := by decide +kernel
abbrev cX2_init : ByteArray := prog_4_method_1_code
def yX2_init : MethodName := ⟨RX2, "<init>", "()V"⟩
abbrev cX2_begin : ByteArray := prog_4_method_2_code
def yX2_begin : MethodName := ⟨RX2, "begin", "(I)V"⟩
abbrev cX2_note : ByteArray := prog_4_method_3_code
def yX2_note : MethodName := ⟨RX2, "note", "(IIIZ)V"⟩
abbrev cX2_takeFrom : ByteArray := prog_4_method_4_code
def yX2_takeFrom : MethodName := ⟨RX2, "takeFrom", "(LColdDepots$Standing;)V"⟩
def RX3 : String := "ColdDepots"
def TX3 : u_T := fun k => match k with
  | 0 => ("ColdDepots", "page", "LColdDepots$Page;", true)
  | 1 => ("ColdDepots", "party", "LColdDepots$Party;", true)
  | 2 => ("ColdDepots", "now", "LColdDepots$Standing;", true)
  | 3 => ("ColdDepots", "kept", "LColdDepots$Standing;", true)
  | 4 => ("ColdDepots", "wintered", "[I", true)
  | 5 => ("ColdDepots", "imageKept", "Z", false)
  | 6 => ("ColdDepots", "campsRead", "I", false)
  | _ => ("ColdDepots", "teamsDone", "I", false)
def tyX3 : Nat → FieldType := fun k => match k with
  | 0 => .object "ColdDepots$Page"
  | 1 => .object "ColdDepots$Party"
  | 2 => .object "ColdDepots$Standing"
  | 3 => .object "ColdDepots$Standing"
  | 4 => .array .int
  | 5 => .boolean
  | 6 => .int
  | _ => .int
abbrev wsX30 : List Cond := u_ws RX3 TX3 8
theorem nmX3 : ∀ a, a < 8 → ∀ b, b < 8 → a ≠ b → (TX3 a).2.1 ≠ (TX3 b).2.1 := by decide +kernel
theorem tyX3_ok : ∀ k, k < 8 → parseFieldDescriptor (TX3 k).2.2.1 = some (tyX3 k) := by decide +kernel
abbrev cX3_init : ByteArray := prog_1_method_1_code
def yX3_init : MethodName := ⟨RX3, "<init>", "()V"⟩
abbrev cX3_letter : ByteArray := prog_1_method_2_code
def yX3_letter : MethodName := ⟨RX3, "letter", "(I)I"⟩
abbrev cX3_blank : ByteArray := prog_1_method_3_code
def yX3_blank : MethodName := ⟨RX3, "blank", "()I"⟩
abbrev cX3_fault : ByteArray := prog_1_method_4_code
def yX3_fault : MethodName := ⟨RX3, "fault", "()I"⟩
abbrev cX3_camp : ByteArray := prog_1_method_5_code
def yX3_camp : MethodName := ⟨RX3, "camp", "()I"⟩
abbrev cX3_member : ByteArray := prog_1_method_6_code
def yX3_member : MethodName := ⟨RX3, "member", "(II)I"⟩
abbrev cX3_as : ByteArray := prog_1_method_7_code
def yX3_as : MethodName := ⟨RX3, "as", "(II)I"⟩
abbrev cX3_cairn : ByteArray := prog_1_method_8_code
def yX3_cairn : MethodName := ⟨RX3, "cairn", "(II)I"⟩
abbrev cX3_lay : ByteArray := prog_1_method_9_code
def yX3_lay : MethodName := ⟨RX3, "lay", "(II)I"⟩
abbrev cX3_march : ByteArray := prog_1_method_10_code
def yX3_march : MethodName := ⟨RX3, "march", "(III)I"⟩
abbrev cX3_would : ByteArray := prog_1_method_11_code
def yX3_would : MethodName := ⟨RX3, "would", "(IIII)I"⟩
abbrev cX3_need : ByteArray := prog_1_method_12_code
def yX3_need : MethodName := ⟨RX3, "need", "(II)I"⟩
abbrev cX3_far : ByteArray := prog_1_method_13_code
def yX3_far : MethodName := ⟨RX3, "far", "(I)I"⟩
abbrev cX3_team : ByteArray := prog_1_method_14_code
def yX3_team : MethodName := ⟨RX3, "team", "(I)I"⟩
abbrev cX3_hear : ByteArray := prog_1_method_15_code
def yX3_hear : MethodName := ⟨RX3, "hear", "(IIIZ)I"⟩
abbrev cX3_forget : ByteArray := prog_1_method_16_code
def yX3_forget : MethodName := ⟨RX3, "forget", "()I"⟩
abbrev cX3_winters : ByteArray := prog_1_method_17_code
def yX3_winters : MethodName := ⟨RX3, "winters", "(III)I"⟩
abbrev cX3_image : ByteArray := prog_1_method_18_code
def yX3_image : MethodName := ⟨RX3, "image", "()I"⟩
abbrev cX3_restore : ByteArray := prog_1_method_19_code
def yX3_restore : MethodName := ⟨RX3, "restore", "()I"⟩
abbrev cX3_count : ByteArray := prog_1_method_20_code
def yX3_count : MethodName := ⟨RX3, "count", "(I)I"⟩
abbrev cX3_digest : ByteArray := prog_1_method_21_code
def yX3_digest : MethodName := ⟨RX3, "digest", "()J"⟩
abbrev cX3_isNoCairn : ByteArray := prog_1_method_22_code
def yX3_isNoCairn : MethodName := ⟨RX3, "isNoCairn", "(I)Z"⟩
abbrev cX3_isNobody : ByteArray := prog_1_method_23_code
def yX3_isNobody : MethodName := ⟨RX3, "isNobody", "(I)Z"⟩
abbrev cX3_isNoMarch : ByteArray := prog_1_method_24_code
def yX3_isNoMarch : MethodName := ⟨RX3, "isNoMarch", "(III)Z"⟩
abbrev cX3_anyIsDead : ByteArray := prog_1_method_25_code
def yX3_anyIsDead : MethodName := ⟨RX3, "anyIsDead", "(I)Z"⟩
abbrev cX3_isNoStage : ByteArray := prog_1_method_26_code
def yX3_isNoStage : MethodName := ⟨RX3, "isNoStage", "(I)Z"⟩
abbrev cX3_mostFoodOf : ByteArray := prog_1_method_27_code
def yX3_mostFoodOf : MethodName := ⟨RX3, "mostFoodOf", "(I)I"⟩
abbrev cX3_leastFood : ByteArray := prog_1_method_28_code
def yX3_leastFood : MethodName := ⟨RX3, "leastFood", "(II[I)I"⟩
abbrev cX3_farthest : ByteArray := prog_1_method_29_code
def yX3_farthest : MethodName := ⟨RX3, "farthest", "(I[I)I"⟩
abbrev cX3_fewest : ByteArray := prog_1_method_30_code
def yX3_fewest : MethodName := ⟨RX3, "fewest", "(I)I"⟩
abbrev cX3_amountsAt : ByteArray := prog_1_method_31_code
def yX3_amountsAt : MethodName := ⟨RX3, "amountsAt", "(I)I"⟩
abbrev cX3_isAllSo : ByteArray := prog_1_method_32_code
def yX3_isAllSo : MethodName := ⟨RX3, "isAllSo", "(II)Z"⟩
abbrev cX3_bestTrial : ByteArray := prog_1_method_33_code
def yX3_bestTrial : MethodName := ⟨RX3, "bestTrial", "(II)I"⟩
abbrev cX3_leftAtWorst : ByteArray := prog_1_method_34_code
def yX3_leftAtWorst : MethodName := ⟨RX3, "leftAtWorst", "(III)I"⟩
abbrev cX3_letCreep : ByteArray := prog_1_method_35_code
def yX3_letCreep : MethodName := ⟨RX3, "letCreep", "(II)I"⟩
abbrev cX3_nextSeed : ByteArray := prog_1_method_36_code
def yX3_nextSeed : MethodName := ⟨RX3, "nextSeed", "(I)I"⟩
abbrev cX3_kindOf : ByteArray := prog_1_method_37_code
def yX3_kindOf : MethodName := ⟨RX3, "kindOf", "(I)I"⟩
abbrev cX3_isOf : ByteArray := prog_1_method_38_code
def yX3_isOf : MethodName := ⟨RX3, "isOf", "(II)Z"⟩
abbrev cX3_at : ByteArray := prog_1_method_39_code
def yX3_at : MethodName := ⟨RX3, "at", "([II)I"⟩
abbrev cX3_put : ByteArray := prog_1_method_40_code
def yX3_put : MethodName := ⟨RX3, "put", "([III)V"⟩
abbrev cX3_copy : ByteArray := prog_1_method_41_code
def yX3_copy : MethodName := ⟨RX3, "copy", "([I[I)V"⟩
abbrev cX3_sum : ByteArray := prog_1_method_42_code
def yX3_sum : MethodName := ⟨RX3, "sum", "([I)I"⟩
def RX4 : String := "ColdDepotsModel"
def TX4 : u_T := fun k => match k with
  | 0 => ("ColdDepotsModel", "page", "[I", true)
  | 1 => ("ColdDepotsModel", "pageMany", "I", false)
  | 2 => ("ColdDepotsModel", "endAt", "I", false)
  | 3 => ("ColdDepotsModel", "members", "I", false)
  | 4 => ("ColdDepotsModel", "living", "I", false)
  | 5 => ("ColdDepotsModel", "marches", "I", false)
  | 6 => ("ColdDepotsModel", "cameHome", "I", false)
  | 7 => ("ColdDepotsModel", "campsRead", "I", false)
  | 8 => ("ColdDepotsModel", "kinds", "[I", true)
  | 9 => ("ColdDepotsModel", "foods", "[I", true)
  | 10 => ("ColdDepotsModel", "party", "I", false)
  | 11 => ("ColdDepotsModel", "carried", "I", false)
  | 12 => ("ColdDepotsModel", "diedOn", "I", false)
  | 13 => ("ColdDepotsModel", "left", "[I", true)
  | 14 => ("ColdDepotsModel", "teamsDone", "I", false)
  | 15 => ("ColdDepotsModel", "heardMany", "I", false)
  | 16 => ("ColdDepotsModel", "heards", "[I", true)
  | 17 => ("ColdDepotsModel", "other", "[I", true)
  | 18 => ("ColdDepotsModel", "seedNow", "I", false)
  | 19 => ("ColdDepotsModel", "then", "[I", true)
  | 20 => ("ColdDepotsModel", "keptCamp", "I", false)
  | 21 => ("ColdDepotsModel", "keptLiving", "I", false)
  | 22 => ("ColdDepotsModel", "keptMarches", "I", false)
  | 23 => ("ColdDepotsModel", "keptHome", "I", false)
  | 24 => ("ColdDepotsModel", "keptHeard", "I", false)
  | 25 => ("ColdDepotsModel", "keptFoods", "[I", true)
  | 26 => ("ColdDepotsModel", "keptHeards", "[I", true)
  | _ => ("ColdDepotsModel", "hash", "J", false)
def tyX4 : Nat → FieldType := fun k => match k with
  | 0 => .array .int
  | 1 => .int
  | 2 => .int
  | 3 => .int
  | 4 => .int
  | 5 => .int
  | 6 => .int
  | 7 => .int
  | 8 => .array .int
  | 9 => .array .int
  | 10 => .int
  | 11 => .int
  | 12 => .int
  | 13 => .array .int
  | 14 => .int
  | 15 => .int
  | 16 => .array .int
  | 17 => .array .int
  | 18 => .int
  | 19 => .array .int
  | 20 => .int
  | 21 => .int
  | 22 => .int
  | 23 => .int
  | 24 => .int
  | 25 => .array .int
  | 26 => .array .int
  | _ => .long
abbrev wsX40 : List Cond := u_ws RX4 TX4 28
theorem nmX4 : ∀ a, a < 28 → ∀ b, b < 28 → a ≠ b → (TX4 a).2.1 ≠ (TX4 b).2.1 := by decide +kernel
theorem tyX4_ok : ∀ k, k < 28 → parseFieldDescriptor (TX4 k).2.2.1 = some (tyX4 k) := by decide +kernel
abbrev cX4_init : ByteArray := prog_6_method_1_code
def yX4_init : MethodName := ⟨RX4, "<init>", "()V"⟩
abbrev cX4_in : ByteArray := prog_6_method_2_code
def yX4_in : MethodName := ⟨RX4, "in", "(JJJ)Z"⟩
abbrev cX4_copy : ByteArray := prog_6_method_3_code
def yX4_copy : MethodName := ⟨RX4, "copy", "([I[I)V"⟩
abbrev cX4_ones : ByteArray := prog_6_method_4_code
def yX4_ones : MethodName := ⟨RX4, "ones", "(I)I"⟩
abbrev cX4_letter : ByteArray := prog_6_method_5_code
def yX4_letter : MethodName := ⟨RX4, "letter", "(I)I"⟩
abbrev cX4_blank : ByteArray := prog_6_method_6_code
def yX4_blank : MethodName := ⟨RX4, "blank", "()I"⟩
abbrev cX4_kindBy : ByteArray := prog_6_method_7_code
def yX4_kindBy : MethodName := ⟨RX4, "kindBy", "(I)I"⟩
abbrev cX4_isGood : ByteArray := prog_6_method_8_code
def yX4_isGood : MethodName := ⟨RX4, "isGood", "(I)Z"⟩
abbrev cX4_faultOf : ByteArray := prog_6_method_9_code
def yX4_faultOf : MethodName := ⟨RX4, "faultOf", "()I"⟩
abbrev cX4_fault : ByteArray := prog_6_method_10_code
def yX4_fault : MethodName := ⟨RX4, "fault", "()I"⟩
abbrev cX4_camp : ByteArray := prog_6_method_11_code
def yX4_camp : MethodName := ⟨RX4, "camp", "()I"⟩
abbrev cX4_lacks : ByteArray := prog_6_method_12_code
def yX4_lacks : MethodName := ⟨RX4, "lacks", "()Z"⟩
abbrev cX4_isMember : ByteArray := prog_6_method_13_code
def yX4_isMember : MethodName := ⟨RX4, "isMember", "(I)Z"⟩
abbrev cX4_isCairn : ByteArray := prog_6_method_14_code
def yX4_isCairn : MethodName := ⟨RX4, "isCairn", "(I)Z"⟩
abbrev cX4_areMembers : ByteArray := prog_6_method_15_code
def yX4_areMembers : MethodName := ⟨RX4, "areMembers", "(I)Z"⟩
abbrev cX4_pullsOf : ByteArray := prog_6_method_16_code
def yX4_pullsOf : MethodName := ⟨RX4, "pullsOf", "(I)I"⟩
abbrev cX4_eatsOf : ByteArray := prog_6_method_17_code
def yX4_eatsOf : MethodName := ⟨RX4, "eatsOf", "(I)I"⟩
abbrev cX4_feedsOf : ByteArray := prog_6_method_18_code
def yX4_feedsOf : MethodName := ⟨RX4, "feedsOf", "(I)I"⟩
abbrev cX4_pullOf : ByteArray := prog_6_method_19_code
def yX4_pullOf : MethodName := ⟨RX4, "pullOf", "(I)I"⟩
abbrev cX4_eatOf : ByteArray := prog_6_method_20_code
def yX4_eatOf : MethodName := ⟨RX4, "eatOf", "(I)I"⟩
abbrev cX4_lastOf : ByteArray := prog_6_method_21_code
def yX4_lastOf : MethodName := ⟨RX4, "lastOf", "(IZ)I"⟩
abbrev cX4_tellMember : ByteArray := prog_6_method_22_code
def yX4_tellMember : MethodName := ⟨RX4, "tellMember", "(II)I"⟩
abbrev cX4_member : ByteArray := prog_6_method_23_code
def yX4_member : MethodName := ⟨RX4, "member", "(II)I"⟩
abbrev cX4_as : ByteArray := prog_6_method_24_code
def yX4_as : MethodName := ⟨RX4, "as", "(II)I"⟩
abbrev cX4_tellCairn : ByteArray := prog_6_method_25_code
def yX4_tellCairn : MethodName := ⟨RX4, "tellCairn", "(II)I"⟩
abbrev cX4_cairn : ByteArray := prog_6_method_26_code
def yX4_cairn : MethodName := ⟨RX4, "cairn", "(II)I"⟩
abbrev cX4_lay : ByteArray := prog_6_method_27_code
def yX4_lay : MethodName := ⟨RX4, "lay", "(II)I"⟩
abbrev cX4_eatBeast : ByteArray := prog_6_method_28_code
def yX4_eatBeast : MethodName := ⟨RX4, "eatBeast", "(I)V"⟩
abbrev cX4_keepPulled : ByteArray := prog_6_method_29_code
def yX4_keepPulled : MethodName := ⟨RX4, "keepPulled", "()V"⟩
abbrev cX4_goStage : ByteArray := prog_6_method_30_code
def yX4_goStage : MethodName := ⟨RX4, "goStage", "(IZ)Z"⟩
abbrev cX4_goMarch : ByteArray := prog_6_method_31_code
def yX4_goMarch : MethodName := ⟨RX4, "goMarch", "(III[I)V"⟩
abbrev cX4_comesHome : ByteArray := prog_6_method_32_code
def yX4_comesHome : MethodName := ⟨RX4, "comesHome", "(III[I)Z"⟩
abbrev cX4_sumOf : ByteArray := prog_6_method_33_code
def yX4_sumOf : MethodName := ⟨RX4, "sumOf", "([I)I"⟩
abbrev cX4_isMarch : ByteArray := prog_6_method_34_code
def yX4_isMarch : MethodName := ⟨RX4, "isMarch", "(III)Z"⟩
abbrev cX4_march : ByteArray := prog_6_method_35_code
def yX4_march : MethodName := ⟨RX4, "march", "(III)I"⟩
abbrev cX4_wouldOf : ByteArray := prog_6_method_36_code
def yX4_wouldOf : MethodName := ⟨RX4, "wouldOf", "(IIII)I"⟩
abbrev cX4_would : ByteArray := prog_6_method_37_code
def yX4_would : MethodName := ⟨RX4, "would", "(IIII)I"⟩
abbrev cX4_needOf : ByteArray := prog_6_method_38_code
def yX4_needOf : MethodName := ⟨RX4, "needOf", "(II[I)I"⟩
abbrev cX4_need : ByteArray := prog_6_method_39_code
def yX4_need : MethodName := ⟨RX4, "need", "(II)I"⟩
abbrev cX4_farOf : ByteArray := prog_6_method_40_code
def yX4_farOf : MethodName := ⟨RX4, "farOf", "(I[I)I"⟩
abbrev cX4_far : ByteArray := prog_6_method_41_code
def yX4_far : MethodName := ⟨RX4, "far", "(I)I"⟩
abbrev cX4_teamOf : ByteArray := prog_6_method_42_code
def yX4_teamOf : MethodName := ⟨RX4, "teamOf", "(I)I"⟩
abbrev cX4_team : ByteArray := prog_6_method_43_code
def yX4_team : MethodName := ⟨RX4, "team", "(I)I"⟩
abbrev cX4_hear : ByteArray := prog_6_method_44_code
def yX4_hear : MethodName := ⟨RX4, "hear", "(IIIZ)I"⟩
abbrev cX4_forget : ByteArray := prog_6_method_45_code
def yX4_forget : MethodName := ⟨RX4, "forget", "()I"⟩
abbrev cX4_layOf : ByteArray := prog_6_method_46_code
def yX4_layOf : MethodName := ⟨RX4, "layOf", "(I)I"⟩
abbrev cX4_tryOf : ByteArray := prog_6_method_47_code
def yX4_tryOf : MethodName := ⟨RX4, "tryOf", "(I)I"⟩
abbrev cX4_draw : ByteArray := prog_6_method_48_code
def yX4_draw : MethodName := ⟨RX4, "draw", "(I)I"⟩
abbrev cX4_winters : ByteArray := prog_6_method_49_code
def yX4_winters : MethodName := ⟨RX4, "winters", "(III)I"⟩
abbrev cX4_image : ByteArray := prog_6_method_50_code
def yX4_image : MethodName := ⟨RX4, "image", "()I"⟩
abbrev cX4_restore : ByteArray := prog_6_method_51_code
def yX4_restore : MethodName := ⟨RX4, "restore", "()I"⟩
abbrev cX4_countOf : ByteArray := prog_6_method_52_code
def yX4_countOf : MethodName := ⟨RX4, "countOf", "(I)I"⟩
abbrev cX4_count : ByteArray := prog_6_method_53_code
def yX4_count : MethodName := ⟨RX4, "count", "(I)I"⟩
abbrev cX4_say : ByteArray := prog_6_method_54_code
def yX4_say : MethodName := ⟨RX4, "say", "(J)V"⟩
abbrev cX4_digest : ByteArray := prog_6_method_55_code
def yX4_digest : MethodName := ⟨RX4, "digest", "()J"⟩
def RJ6 : String := "java/lang/Integer"
def TJ6 : u_T := fun k => match k with
  | _ => ("", "", "", false)
def tyJ6 : Nat → FieldType := fun k => match k with
  | _ => .int
abbrev wsJ60 : List Cond := u_ws RJ6 TJ6 0
theorem nmJ6 : ∀ a, a < 0 → ∀ b, b < 0 → a ≠ b → (TJ6 a).2.1 ≠ (TJ6 b).2.1 := by decide +kernel
theorem tyJ6_ok : ∀ k, k < 0 → parseFieldDescriptor (TJ6 k).2.2.1 = some (tyJ6 k) := by decide +kernel
abbrev cJ6_bitCount_0f7a4 : ByteArray := prog_7_method_49_code
def yJ6_bitCount_0f7a4 : MethodName := ⟨RJ6, "bitCount", "(I)I"⟩
def RJ9 : String := "java/lang/Math"
def TJ9 : u_T := fun k => match k with
  | _ => ("", "", "", false)
def tyJ9 : Nat → FieldType := fun k => match k with
  | _ => .int
abbrev wsJ90 : List Cond := u_ws RJ9 TJ9 0
theorem nmJ9 : ∀ a, a < 0 → ∀ b, b < 0 → a ≠ b → (TJ9 a).2.1 ≠ (TJ9 b).2.1 := by decide +kernel
theorem tyJ9_ok : ∀ k, k < 0 → parseFieldDescriptor (TJ9 k).2.2.1 = some (tyJ9 k) := by decide +kernel
abbrev cJ9_max_7cf53 : ByteArray := prog_8_method_65_code
def yJ9_max_7cf53 : MethodName := ⟨RJ9, "max", "(II)I"⟩
abbrev cJ9_min_7cf53 : ByteArray := prog_8_method_69_code
def yJ9_min_7cf53 : MethodName := ⟨RJ9, "min", "(II)I"⟩
def RL : String := "ColdDepotsLaw"
abbrev cL_law : ByteArray := code
def yL_law : MethodName := ⟨RL, "law", "([I)Z"⟩
def wsX0_init : List Cond := .code yX0_init cX0_init 1 none :: ([.methodLink RX0 3 objectInit, .instanceMethod objectInit, .code objectInit ⟨#[0xb1]⟩ 1 none, .arrayClass .int, .fieldLink RX0 9 "ColdDepots$Page" "codes" "[I"] ++ wsX00)
def wsX3_put : List Cond := .code yX3_put cX3_put 3 none :: ([])
def wsX0_add : List Cond := .code yX0_add cX0_add 2 (some .boolean) :: ([.fieldLink RX0 15 "ColdDepots$Page" "length" "I", .fieldLink RX0 9 "ColdDepots$Page" "codes" "[I", .static yX3_put, .initialized RX3, .code yX3_put cX3_put 3 none] ++ wsX00)
def wsX3_at : List Cond := .code yX3_at cX3_at 2 (some .int) :: ([])
def wsX0_codeAt : List Cond := .code yX0_codeAt cX0_codeAt 2 (some .int) :: ([.fieldLink RX0 9 "ColdDepots$Page" "codes" "[I", .static yX3_at, .initialized RX3, .code yX3_at cX3_at 2 (some .int)] ++ wsX00)
def wsX3_kindOf : List Cond := .code yX3_kindOf cX3_kindOf 1 (some .int) :: ([])
def wsX0_firstWrong : List Cond := .code yX0_firstWrong cX0_firstWrong 5 (some .int) :: ([.fieldLink RX0 15 "ColdDepots$Page" "length" "I", .methodLink RX0 27 yX0_codeAt, .instanceMethod yX0_codeAt, .selects RX0 yX0_codeAt yX0_codeAt, .initialized RX0, .code yX0_codeAt cX0_codeAt 2 (some .int), .fieldLink RX0 9 "ColdDepots$Page" "codes" "[I", .static yX3_at, .initialized RX3, .code yX3_at cX3_at 2 (some .int), .static yX3_kindOf, .code yX3_kindOf cX3_kindOf 1 (some .int)] ++ wsX00)
def wsX0_isCamp : List Cond := .code yX0_isCamp cX0_isCamp 1 (some .boolean) :: ([.fieldLink RX0 15 "ColdDepots$Page" "length" "I", .methodLink RX0 34 yX0_firstWrong, .instanceMethod yX0_firstWrong, .selects RX0 yX0_firstWrong yX0_firstWrong, .initialized RX0, .code yX0_firstWrong cX0_firstWrong 5 (some .int), .methodLink RX0 27 yX0_codeAt, .instanceMethod yX0_codeAt, .selects RX0 yX0_codeAt yX0_codeAt, .code yX0_codeAt cX0_codeAt 2 (some .int), .fieldLink RX0 9 "ColdDepots$Page" "codes" "[I", .static yX3_at, .initialized RX3, .code yX3_at cX3_at 2 (some .int), .static yX3_kindOf, .code yX3_kindOf cX3_kindOf 1 (some .int)] ++ wsX00)
def wsX1_init : List Cond := .code yX1_init cX1_init 1 none :: ([.methodLink RX1 3 objectInit, .instanceMethod objectInit, .code objectInit ⟨#[0xb1]⟩ 1 none, .arrayClass .int, .fieldLink RX1 9 "ColdDepots$Party" "kinds" "[I", .fieldLink RX1 15 "ColdDepots$Party" "cairns" "[I"] ++ wsX10)
def wsX1_all : List Cond := .code yX1_all cX1_all 1 (some .int) :: ([.fieldLink RX1 18 "ColdDepots$Party" "size" "I"] ++ wsX10)
def wsX1_together : List Cond := .code yX1_together cX1_together 5 (some .int) :: ([.fieldLink RX1 18 "ColdDepots$Party" "size" "I", .fieldLink RX1 9 "ColdDepots$Party" "kinds" "[I", .static yX3_at, .initialized RX3, .code yX3_at cX3_at 2 (some .int)] ++ wsX10)
def wsX3_copy : List Cond := .code yX3_copy cX3_copy 3 none :: ([.methodLink RX3 87 yX3_at, .static yX3_at, .initialized RX3, .code yX3_at cX3_at 2 (some .int), .methodLink RX3 66 yX3_put, .static yX3_put, .code yX3_put cX3_put 3 none])
def wsX1_setCairns : List Cond := .code yX1_setCairns cX1_setCairns 2 none :: ([.fieldLink RX1 15 "ColdDepots$Party" "cairns" "[I", .static yX3_copy, .initialized RX3, .code yX3_copy cX3_copy 3 none, .methodLink RX3 87 yX3_at, .static yX3_at, .code yX3_at cX3_at 2 (some .int), .methodLink RX3 66 yX3_put, .static yX3_put, .code yX3_put cX3_put 3 none] ++ wsX10)
def wsX1_setOut : List Cond := .code yX1_setOut cX1_setOut 3 none :: ([.fieldLink RX1 40 "ColdDepots$Party" "alive" "I", .fieldLink RX1 63 "ColdDepots$Party" "pull" "I", .fieldLink RX1 46 "ColdDepots$Party" "eat" "I", .methodLink RX1 69 Lib.Math.min.name, .static Lib.Math.min.name, .initialized "java/lang/Math", .code Lib.Math.min.name Lib.Math.min.code 2 (some .int), .fieldLink RX1 43 "ColdDepots$Party" "food" "I", .fieldLink RX1 75 "ColdDepots$Party" "diedOn" "I", .methodLink RX1 59 yX1_together, .instanceMethod yX1_together, .selects RX1 yX1_together yX1_together, .initialized RX1, .code yX1_together cX1_together 5 (some .int), .fieldLink RX1 18 "ColdDepots$Party" "size" "I", .fieldLink RX1 9 "ColdDepots$Party" "kinds" "[I", .static yX3_at, .initialized RX3, .code yX3_at cX3_at 2 (some .int)] ++ wsX10)
def wsX1_devour : List Cond := .code yX1_devour cX1_devour 3 none :: ([.fieldLink RX1 40 "ColdDepots$Party" "alive" "I", .fieldLink RX1 9 "ColdDepots$Party" "kinds" "[I", .fieldLink RX1 63 "ColdDepots$Party" "pull" "I", .fieldLink RX1 46 "ColdDepots$Party" "eat" "I", .fieldLink RX1 43 "ColdDepots$Party" "food" "I", .methodLink RX1 69 Lib.Math.min.name, .static Lib.Math.min.name, .initialized "java/lang/Math", .code Lib.Math.min.name Lib.Math.min.code 2 (some .int), .static yX3_at, .initialized RX3, .code yX3_at cX3_at 2 (some .int)] ++ wsX10)
def wsX1_eatPonies : List Cond := .code yX1_eatPonies cX1_eatPonies 2 none :: ([.fieldLink RX1 18 "ColdDepots$Party" "size" "I", .fieldLink RX1 9 "ColdDepots$Party" "kinds" "[I", .static yX3_at, .initialized RX3, .code yX3_at cX3_at 2 (some .int), .methodLink RX1 78 yX1_devour, .instanceMethod yX1_devour, .selects RX1 yX1_devour yX1_devour, .initialized RX1, .code yX1_devour cX1_devour 3 none, .fieldLink RX1 40 "ColdDepots$Party" "alive" "I", .fieldLink RX1 63 "ColdDepots$Party" "pull" "I", .fieldLink RX1 46 "ColdDepots$Party" "eat" "I", .fieldLink RX1 43 "ColdDepots$Party" "food" "I", .methodLink RX1 69 Lib.Math.min.name, .static Lib.Math.min.name, .initialized "java/lang/Math", .code Lib.Math.min.name Lib.Math.min.code 2 (some .int)] ++ wsX10)
def wsX3_isOf : List Cond := .code yX3_isOf cX3_isOf 2 (some .boolean) :: ([])
def wsX1_eatBeasts : List Cond := .code yX1_eatBeasts cX1_eatBeasts 3 none :: ([.fieldLink RX1 18 "ColdDepots$Party" "size" "I", .fieldLink RX1 43 "ColdDepots$Party" "food" "I", .fieldLink RX1 46 "ColdDepots$Party" "eat" "I", .fieldLink RX1 9 "ColdDepots$Party" "kinds" "[I", .static yX3_at, .initialized RX3, .code yX3_at cX3_at 2 (some .int), .static yX3_isOf, .code yX3_isOf cX3_isOf 2 (some .boolean), .methodLink RX1 78 yX1_devour, .instanceMethod yX1_devour, .selects RX1 yX1_devour yX1_devour, .initialized RX1, .code yX1_devour cX1_devour 3 none, .fieldLink RX1 40 "ColdDepots$Party" "alive" "I", .fieldLink RX1 63 "ColdDepots$Party" "pull" "I", .methodLink RX1 69 Lib.Math.min.name, .static Lib.Math.min.name, .initialized "java/lang/Math", .code Lib.Math.min.name Lib.Math.min.code 2 (some .int)] ++ wsX10)
def wsX1_dieOn : List Cond := .code yX1_dieOn cX1_dieOn 2 none :: ([.fieldLink RX1 40 "ColdDepots$Party" "alive" "I", .fieldLink RX1 43 "ColdDepots$Party" "food" "I", .fieldLink RX1 75 "ColdDepots$Party" "diedOn" "I"] ++ wsX10)
def wsX1_takeUpAt : List Cond := .code yX1_takeUpAt cX1_takeUpAt 3 none :: ([.fieldLink RX1 15 "ColdDepots$Party" "cairns" "[I", .fieldLink RX1 63 "ColdDepots$Party" "pull" "I", .fieldLink RX1 43 "ColdDepots$Party" "food" "I", .methodLink RX1 69 Lib.Math.min.name, .static Lib.Math.min.name, .initialized "java/lang/Math", .code Lib.Math.min.name Lib.Math.min.code 2 (some .int), .static yX3_at, .initialized RX3, .code yX3_at cX3_at 2 (some .int), .static yX3_put, .code yX3_put cX3_put 3 none] ++ wsX10)
def wsX1_go_r1 : List Cond := [Cond.fieldLink RX1 40 "ColdDepots$Party" "alive" "I", Cond.fieldLink RX1 43 "ColdDepots$Party" "food" "I", Cond.fieldLink RX1 46 "ColdDepots$Party" "eat" "I", Cond.methodLink RX1 30 yX1_setOut, Cond.instanceMethod yX1_setOut, Cond.selects RX1 yX1_setOut yX1_setOut, Cond.initialized RX1, Cond.code yX1_setOut cX1_setOut 3 none, Cond.fieldLink RX1 63 "ColdDepots$Party" "pull" "I", Cond.methodLink RX1 69 Lib.Math.min.name, Cond.static Lib.Math.min.name, Cond.initialized "java/lang/Math", Cond.code Lib.Math.min.name Lib.Math.min.code 2 (some .int), Cond.fieldLink RX1 75 "ColdDepots$Party" "diedOn" "I", Cond.methodLink RX1 59 yX1_together, Cond.instanceMethod yX1_together, Cond.selects RX1 yX1_together yX1_together, Cond.code yX1_together cX1_together 5 (some .int), Cond.fieldLink RX1 18 "ColdDepots$Party" "size" "I", Cond.fieldLink RX1 9 "ColdDepots$Party" "kinds" "[I", Cond.static yX3_at, Cond.initialized RX3, Cond.code yX3_at cX3_at 2 (some .int), Cond.methodLink RX1 34 yX1_eatPonies]
def wsX1_go_r2 : List Cond := [Cond.instanceMethod yX1_eatPonies, Cond.selects RX1 yX1_eatPonies yX1_eatPonies, Cond.code yX1_eatPonies cX1_eatPonies 2 none, Cond.methodLink RX1 78 yX1_devour, Cond.instanceMethod yX1_devour, Cond.selects RX1 yX1_devour yX1_devour, Cond.code yX1_devour cX1_devour 3 none, Cond.methodLink RX1 37 yX1_eatBeasts, Cond.instanceMethod yX1_eatBeasts, Cond.selects RX1 yX1_eatBeasts yX1_eatBeasts, Cond.code yX1_eatBeasts cX1_eatBeasts 3 none, Cond.static yX3_isOf, Cond.code yX3_isOf cX3_isOf 2 (some .boolean), Cond.methodLink RX1 49 yX1_dieOn, Cond.instanceMethod yX1_dieOn, Cond.selects RX1 yX1_dieOn yX1_dieOn, Cond.code yX1_dieOn cX1_dieOn 2 none, Cond.methodLink RX1 53 yX1_takeUpAt, Cond.instanceMethod yX1_takeUpAt, Cond.selects RX1 yX1_takeUpAt yX1_takeUpAt, Cond.code yX1_takeUpAt cX1_takeUpAt 3 none, Cond.fieldLink RX1 15 "ColdDepots$Party" "cairns" "[I", Cond.static yX3_put, Cond.code yX3_put cX3_put 3 none]
def wsX1_go : List Cond := .code yX1_go cX1_go 6 (some .boolean) :: ((wsX1_go_r1 ++ wsX1_go_r2) ++ wsX10)
def wsX2_init : List Cond := .code yX2_init cX2_init 1 none :: ([.methodLink RX2 3 objectInit, .instanceMethod objectInit, .code objectInit ⟨#[0xb1]⟩ 1 none, .arrayClass .int, .fieldLink RX2 9 "ColdDepots$Standing" "cairns" "[I", .fieldLink RX2 15 "ColdDepots$Standing" "heardMembers" "[I", .fieldLink RX2 18 "ColdDepots$Standing" "heardStages" "[I", .fieldLink RX2 21 "ColdDepots$Standing" "heardFoods" "[I", .fieldLink RX2 24 "ColdDepots$Standing" "heardHomes" "[I"] ++ wsX20)
def wsX2_begin : List Cond := .code yX2_begin cX2_begin 2 none :: ([.fieldLink RX2 27 "ColdDepots$Standing" "alive" "I", .fieldLink RX2 31 "ColdDepots$Standing" "marches" "I", .fieldLink RX2 34 "ColdDepots$Standing" "comingsHome" "I", .fieldLink RX2 37 "ColdDepots$Standing" "heard" "I"] ++ wsX20)
def wsX2_note : List Cond := .code yX2_note cX2_note 5 none :: ([.fieldLink RX2 15 "ColdDepots$Standing" "heardMembers" "[I", .fieldLink RX2 37 "ColdDepots$Standing" "heard" "I", .fieldLink RX2 18 "ColdDepots$Standing" "heardStages" "[I", .fieldLink RX2 21 "ColdDepots$Standing" "heardFoods" "[I", .fieldLink RX2 24 "ColdDepots$Standing" "heardHomes" "[I", .static yX3_put, .initialized RX3, .code yX3_put cX3_put 3 none] ++ wsX20)
def wsX2_takeFrom : List Cond := .code yX2_takeFrom cX2_takeFrom 2 none :: ([.fieldLink RX2 27 "ColdDepots$Standing" "alive" "I", .fieldLink RX2 31 "ColdDepots$Standing" "marches" "I", .fieldLink RX2 34 "ColdDepots$Standing" "comingsHome" "I", .fieldLink RX2 37 "ColdDepots$Standing" "heard" "I", .fieldLink RX2 9 "ColdDepots$Standing" "cairns" "[I", .fieldLink RX2 15 "ColdDepots$Standing" "heardMembers" "[I", .fieldLink RX2 18 "ColdDepots$Standing" "heardStages" "[I", .fieldLink RX2 21 "ColdDepots$Standing" "heardFoods" "[I", .fieldLink RX2 24 "ColdDepots$Standing" "heardHomes" "[I", .static yX3_copy, .initialized RX3, .code yX3_copy cX3_copy 3 none, .methodLink RX3 87 yX3_at, .static yX3_at, .code yX3_at cX3_at 2 (some .int), .methodLink RX3 66 yX3_put, .static yX3_put, .code yX3_put cX3_put 3 none] ++ wsX20)
def wsX3_init_r1 : List Cond := [Cond.methodLink RX3 1 objectInit, Cond.instanceMethod objectInit, Cond.code objectInit ⟨#[0xb1]⟩ 1 none, Cond.classLink RX3 7 RX0, Cond.instantiable RX0 2, Cond.initialized RX0, Cond.fieldLink RX3 10 "ColdDepots" "page" "LColdDepots$Page;", Cond.classLink RX3 16 RX1, Cond.instantiable RX1 8, Cond.initialized RX1, Cond.fieldLink RX3 19 "ColdDepots" "party" "LColdDepots$Party;", Cond.classLink RX3 23 RX2, Cond.instantiable RX2 9, Cond.initialized RX2, Cond.fieldLink RX3 26 "ColdDepots" "now" "LColdDepots$Standing;", Cond.fieldLink RX3 30 "ColdDepots" "kept" "LColdDepots$Standing;", Cond.arrayClass .int, Cond.fieldLink RX3 33 "ColdDepots" "wintered" "[I", Cond.instanceMethod yX0_init, Cond.code yX0_init cX0_init 1 none, Cond.methodLink RX0 3 objectInit, Cond.fieldLink RX0 9 "ColdDepots$Page" "codes" "[I", Cond.instanceMethod yX1_init, Cond.code yX1_init cX1_init 1 none]
def wsX3_init_r2 : List Cond := [Cond.methodLink RX1 3 objectInit, Cond.fieldLink RX1 9 "ColdDepots$Party" "kinds" "[I", Cond.fieldLink RX1 15 "ColdDepots$Party" "cairns" "[I", Cond.instanceMethod yX2_init, Cond.code yX2_init cX2_init 1 none, Cond.methodLink RX2 3 objectInit, Cond.fieldLink RX2 9 "ColdDepots$Standing" "cairns" "[I", Cond.fieldLink RX2 15 "ColdDepots$Standing" "heardMembers" "[I", Cond.fieldLink RX2 18 "ColdDepots$Standing" "heardStages" "[I", Cond.fieldLink RX2 21 "ColdDepots$Standing" "heardFoods" "[I", Cond.fieldLink RX2 24 "ColdDepots$Standing" "heardHomes" "[I"]
def wsX3_init : List Cond := .code yX3_init cX3_init 1 none :: ((wsX3_init_r1 ++ wsX3_init_r2) ++ wsX00 ++ wsX30 ++ wsX10 ++ wsX20)
def wsX3_letter : List Cond := .code yX3_letter cX3_letter 2 (some .int) :: ([.fieldLink RX3 10 "ColdDepots" "page" "LColdDepots$Page;", .instanceMethod yX0_add, .initialized RX0, .selects RX0 yX0_add yX0_add, .code yX0_add cX0_add 2 (some .boolean), .fieldLink RX0 15 "ColdDepots$Page" "length" "I", .fieldLink RX0 9 "ColdDepots$Page" "codes" "[I", .static yX3_put, .initialized RX3, .code yX3_put cX3_put 3 none] ++ wsX30 ++ wsX00)
def wsX3_blank : List Cond := .code yX3_blank cX3_blank 2 (some .int) :: ([.fieldLink RX3 10 "ColdDepots" "page" "LColdDepots$Page;"] ++ wsX30 ++ wsX00)
def wsX3_fault : List Cond := .code yX3_fault cX3_fault 1 (some .int) :: ([.fieldLink RX3 10 "ColdDepots" "page" "LColdDepots$Page;", .instanceMethod yX0_firstWrong, .initialized RX0, .selects RX0 yX0_firstWrong yX0_firstWrong, .code yX0_firstWrong cX0_firstWrong 5 (some .int), .fieldLink RX0 15 "ColdDepots$Page" "length" "I", .methodLink RX0 27 yX0_codeAt, .instanceMethod yX0_codeAt, .selects RX0 yX0_codeAt yX0_codeAt, .code yX0_codeAt cX0_codeAt 2 (some .int), .fieldLink RX0 9 "ColdDepots$Page" "codes" "[I", .static yX3_at, .initialized RX3, .code yX3_at cX3_at 2 (some .int), .static yX3_kindOf, .code yX3_kindOf cX3_kindOf 1 (some .int)] ++ wsX30 ++ wsX00)
def wsX3_camp_r1 : List Cond := [Cond.fieldLink RX3 10 "ColdDepots" "page" "LColdDepots$Page;", Cond.fieldLink RX3 19 "ColdDepots" "party" "LColdDepots$Party;", Cond.fieldLink RX3 26 "ColdDepots" "now" "LColdDepots$Standing;", Cond.fieldLink RX3 80 "ColdDepots" "imageKept" "Z", Cond.fieldLink RX3 84 "ColdDepots" "campsRead" "I", Cond.instanceMethod yX0_isCamp, Cond.initialized RX0, Cond.selects RX0 yX0_isCamp yX0_isCamp, Cond.code yX0_isCamp cX0_isCamp 1 (some .boolean), Cond.fieldLink RX0 15 "ColdDepots$Page" "length" "I", Cond.methodLink RX0 34 yX0_firstWrong, Cond.instanceMethod yX0_firstWrong, Cond.selects RX0 yX0_firstWrong yX0_firstWrong, Cond.code yX0_firstWrong cX0_firstWrong 5 (some .int), Cond.methodLink RX0 27 yX0_codeAt, Cond.instanceMethod yX0_codeAt, Cond.selects RX0 yX0_codeAt yX0_codeAt, Cond.code yX0_codeAt cX0_codeAt 2 (some .int), Cond.fieldLink RX0 9 "ColdDepots$Page" "codes" "[I", Cond.static yX3_at, Cond.initialized RX3, Cond.code yX3_at cX3_at 2 (some .int), Cond.static yX3_kindOf, Cond.code yX3_kindOf cX3_kindOf 1 (some .int)]
def wsX3_camp_r2 : List Cond := [Cond.methodLink RX3 63 yX3_kindOf, Cond.methodLink RX3 66 yX3_put, Cond.static yX3_put, Cond.code yX3_put cX3_put 3 none, Cond.instanceMethod yX1_all, Cond.initialized RX1, Cond.selects RX1 yX1_all yX1_all, Cond.code yX1_all cX1_all 1 (some .int), Cond.fieldLink RX1 18 "ColdDepots$Party" "size" "I", Cond.instanceMethod yX2_begin, Cond.initialized RX2, Cond.selects RX2 yX2_begin yX2_begin, Cond.code yX2_begin cX2_begin 2 none, Cond.fieldLink RX2 27 "ColdDepots$Standing" "alive" "I", Cond.fieldLink RX2 31 "ColdDepots$Standing" "marches" "I", Cond.fieldLink RX2 34 "ColdDepots$Standing" "comingsHome" "I", Cond.fieldLink RX2 37 "ColdDepots$Standing" "heard" "I"]
def wsX3_camp : List Cond := .code yX3_camp cX3_camp 2 (some .int) :: ((wsX3_camp_r1 ++ wsX3_camp_r2) ++ wsX30 ++ wsX00 ++ wsX10 ++ wsX20)
def wsX3_member : List Cond := .code yX3_member cX3_member 4 (some .int) :: ([.fieldLink RX3 19 "ColdDepots" "party" "LColdDepots$Party;", .fieldLink RX3 91 "ColdDepots" "PULLS" "[I", .fieldLink RX3 94 "ColdDepots" "EATS" "[I", .fieldLink RX3 97 "ColdDepots" "FEEDS" "[I", .fieldLink RX3 26 "ColdDepots" "now" "LColdDepots$Standing;", .methodLink RX3 87 yX3_at, .static yX3_at, .initialized RX3, .code yX3_at cX3_at 2 (some .int)] ++ wsX30 ++ wsX10 ++ wsX20)
def wsX3_as : List Cond := .code yX3_as cX3_as 3 (some .int) :: ([.fieldLink RX3 19 "ColdDepots" "party" "LColdDepots$Party;", .methodLink RX3 87 yX3_at, .static yX3_at, .initialized RX3, .code yX3_at cX3_at 2 (some .int), .methodLink RX3 103 yX3_isOf, .static yX3_isOf, .code yX3_isOf cX3_isOf 2 (some .boolean)] ++ wsX30 ++ wsX10)
def wsX3_isNoCairn : List Cond := .code yX3_isNoCairn cX3_isNoCairn 2 (some .boolean) :: ([.fieldLink RX3 19 "ColdDepots" "party" "LColdDepots$Party;"] ++ wsX30 ++ wsX10)
def wsX3_isAllSo_r1 : List Cond := [Cond.fieldLink RX3 26 "ColdDepots" "now" "LColdDepots$Standing;", Cond.fieldLink RX3 19 "ColdDepots" "party" "LColdDepots$Party;", Cond.instanceMethod yX1_setCairns, Cond.initialized RX1, Cond.selects RX1 yX1_setCairns yX1_setCairns, Cond.code yX1_setCairns cX1_setCairns 2 none, Cond.fieldLink RX1 15 "ColdDepots$Party" "cairns" "[I", Cond.static yX3_copy, Cond.initialized RX3, Cond.code yX3_copy cX3_copy 3 none, Cond.methodLink RX3 87 yX3_at, Cond.static yX3_at, Cond.code yX3_at cX3_at 2 (some .int), Cond.methodLink RX3 66 yX3_put, Cond.static yX3_put, Cond.code yX3_put cX3_put 3 none, Cond.instanceMethod yX1_go, Cond.selects RX1 yX1_go yX1_go, Cond.code yX1_go cX1_go 6 (some .boolean), Cond.fieldLink RX1 40 "ColdDepots$Party" "alive" "I", Cond.fieldLink RX1 43 "ColdDepots$Party" "food" "I", Cond.fieldLink RX1 46 "ColdDepots$Party" "eat" "I", Cond.methodLink RX1 30 yX1_setOut, Cond.instanceMethod yX1_setOut]
def wsX3_isAllSo_r2 : List Cond := [Cond.selects RX1 yX1_setOut yX1_setOut, Cond.code yX1_setOut cX1_setOut 3 none, Cond.fieldLink RX1 63 "ColdDepots$Party" "pull" "I", Cond.methodLink RX1 69 Lib.Math.min.name, Cond.static Lib.Math.min.name, Cond.initialized "java/lang/Math", Cond.code Lib.Math.min.name Lib.Math.min.code 2 (some .int), Cond.fieldLink RX1 75 "ColdDepots$Party" "diedOn" "I", Cond.methodLink RX1 59 yX1_together, Cond.instanceMethod yX1_together, Cond.selects RX1 yX1_together yX1_together, Cond.code yX1_together cX1_together 5 (some .int), Cond.fieldLink RX1 18 "ColdDepots$Party" "size" "I", Cond.fieldLink RX1 9 "ColdDepots$Party" "kinds" "[I", Cond.methodLink RX1 34 yX1_eatPonies, Cond.instanceMethod yX1_eatPonies, Cond.selects RX1 yX1_eatPonies yX1_eatPonies, Cond.code yX1_eatPonies cX1_eatPonies 2 none, Cond.methodLink RX1 78 yX1_devour, Cond.instanceMethod yX1_devour, Cond.selects RX1 yX1_devour yX1_devour, Cond.code yX1_devour cX1_devour 3 none, Cond.methodLink RX1 37 yX1_eatBeasts, Cond.instanceMethod yX1_eatBeasts]
def wsX3_isAllSo_r3 : List Cond := [Cond.selects RX1 yX1_eatBeasts yX1_eatBeasts, Cond.code yX1_eatBeasts cX1_eatBeasts 3 none, Cond.static yX3_isOf, Cond.code yX3_isOf cX3_isOf 2 (some .boolean), Cond.methodLink RX1 49 yX1_dieOn, Cond.instanceMethod yX1_dieOn, Cond.selects RX1 yX1_dieOn yX1_dieOn, Cond.code yX1_dieOn cX1_dieOn 2 none, Cond.methodLink RX1 53 yX1_takeUpAt, Cond.instanceMethod yX1_takeUpAt, Cond.selects RX1 yX1_takeUpAt yX1_takeUpAt, Cond.code yX1_takeUpAt cX1_takeUpAt 3 none]
def wsX3_isAllSo : List Cond := .code yX3_isAllSo cX3_isAllSo 6 (some .boolean) :: ((wsX3_isAllSo_r1 ++ (wsX3_isAllSo_r2 ++ wsX3_isAllSo_r3)) ++ wsX30 ++ wsX20 ++ wsX10)
def wsX3_amountsAt_r1 : List Cond := [Cond.methodLink RX3 217 yX3_isAllSo, Cond.instanceMethod yX3_isAllSo, Cond.selects RX3 yX3_isAllSo yX3_isAllSo, Cond.initialized RX3, Cond.code yX3_isAllSo cX3_isAllSo 6 (some .boolean), Cond.fieldLink RX3 26 "ColdDepots" "now" "LColdDepots$Standing;", Cond.fieldLink RX3 19 "ColdDepots" "party" "LColdDepots$Party;", Cond.instanceMethod yX1_setCairns, Cond.initialized RX1, Cond.selects RX1 yX1_setCairns yX1_setCairns, Cond.code yX1_setCairns cX1_setCairns 2 none, Cond.fieldLink RX1 15 "ColdDepots$Party" "cairns" "[I", Cond.static yX3_copy, Cond.code yX3_copy cX3_copy 3 none, Cond.methodLink RX3 87 yX3_at, Cond.static yX3_at, Cond.code yX3_at cX3_at 2 (some .int), Cond.methodLink RX3 66 yX3_put, Cond.static yX3_put, Cond.code yX3_put cX3_put 3 none, Cond.instanceMethod yX1_go, Cond.selects RX1 yX1_go yX1_go, Cond.code yX1_go cX1_go 6 (some .boolean), Cond.fieldLink RX1 40 "ColdDepots$Party" "alive" "I"]
def wsX3_amountsAt_r2 : List Cond := [Cond.fieldLink RX1 43 "ColdDepots$Party" "food" "I", Cond.fieldLink RX1 46 "ColdDepots$Party" "eat" "I", Cond.methodLink RX1 30 yX1_setOut, Cond.instanceMethod yX1_setOut, Cond.selects RX1 yX1_setOut yX1_setOut, Cond.code yX1_setOut cX1_setOut 3 none, Cond.fieldLink RX1 63 "ColdDepots$Party" "pull" "I", Cond.methodLink RX1 69 Lib.Math.min.name, Cond.static Lib.Math.min.name, Cond.initialized "java/lang/Math", Cond.code Lib.Math.min.name Lib.Math.min.code 2 (some .int), Cond.fieldLink RX1 75 "ColdDepots$Party" "diedOn" "I", Cond.methodLink RX1 59 yX1_together, Cond.instanceMethod yX1_together, Cond.selects RX1 yX1_together yX1_together, Cond.code yX1_together cX1_together 5 (some .int), Cond.fieldLink RX1 18 "ColdDepots$Party" "size" "I", Cond.fieldLink RX1 9 "ColdDepots$Party" "kinds" "[I", Cond.methodLink RX1 34 yX1_eatPonies, Cond.instanceMethod yX1_eatPonies, Cond.selects RX1 yX1_eatPonies yX1_eatPonies, Cond.code yX1_eatPonies cX1_eatPonies 2 none, Cond.methodLink RX1 78 yX1_devour, Cond.instanceMethod yX1_devour]
def wsX3_amountsAt_r3 : List Cond := [Cond.selects RX1 yX1_devour yX1_devour, Cond.code yX1_devour cX1_devour 3 none, Cond.methodLink RX1 37 yX1_eatBeasts, Cond.instanceMethod yX1_eatBeasts, Cond.selects RX1 yX1_eatBeasts yX1_eatBeasts, Cond.code yX1_eatBeasts cX1_eatBeasts 3 none, Cond.static yX3_isOf, Cond.code yX3_isOf cX3_isOf 2 (some .boolean), Cond.methodLink RX1 49 yX1_dieOn, Cond.instanceMethod yX1_dieOn, Cond.selects RX1 yX1_dieOn yX1_dieOn, Cond.code yX1_dieOn cX1_dieOn 2 none, Cond.methodLink RX1 53 yX1_takeUpAt, Cond.instanceMethod yX1_takeUpAt, Cond.selects RX1 yX1_takeUpAt yX1_takeUpAt, Cond.code yX1_takeUpAt cX1_takeUpAt 3 none]
def wsX3_amountsAt : List Cond := .code yX3_amountsAt cX3_amountsAt 4 (some .int) :: ((wsX3_amountsAt_r1 ++ (wsX3_amountsAt_r2 ++ wsX3_amountsAt_r3)) ++ wsX30 ++ wsX20 ++ wsX10)
def wsJ6_bitCount_0f7a4 : List Cond := .code yJ6_bitCount_0f7a4 cJ6_bitCount_0f7a4 1 (some .int) :: ([.constant RJ6 265 (1431655765), .constant RJ6 266 (858993459), .constant RJ6 267 (252645135)])
def wsX3_mostFoodOf : List Cond := .code yX3_mostFoodOf cX3_mostFoodOf 2 (some .int) :: ([.fieldLink RX3 19 "ColdDepots" "party" "LColdDepots$Party;", .fieldLink RX3 91 "ColdDepots" "PULLS" "[I", .methodLink RX3 209 Lib.Math.min.name, .static Lib.Math.min.name, .initialized "java/lang/Math", .code Lib.Math.min.name Lib.Math.min.code 2 (some .int), .instanceMethod yX1_together, .initialized RX1, .selects RX1 yX1_together yX1_together, .code yX1_together cX1_together 5 (some .int), .fieldLink RX1 18 "ColdDepots$Party" "size" "I", .fieldLink RX1 9 "ColdDepots$Party" "kinds" "[I", .static yX3_at, .initialized RX3, .code yX3_at cX3_at 2 (some .int)] ++ wsX30 ++ wsX10)
def wsX3_leftAtWorst_r1 : List Cond := [Cond.fieldLink RX3 19 "ColdDepots" "party" "LColdDepots$Party;", Cond.fieldLink RX3 26 "ColdDepots" "now" "LColdDepots$Standing;", Cond.methodLink RX3 236 Lib.Math.max.name, Cond.static Lib.Math.max.name, Cond.initialized "java/lang/Math", Cond.code Lib.Math.max.name Lib.Math.max.code 2 (some .int), Cond.instanceMethod yX1_setCairns, Cond.initialized RX1, Cond.selects RX1 yX1_setCairns yX1_setCairns, Cond.code yX1_setCairns cX1_setCairns 2 none, Cond.fieldLink RX1 15 "ColdDepots$Party" "cairns" "[I", Cond.static yX3_copy, Cond.initialized RX3, Cond.code yX3_copy cX3_copy 3 none, Cond.methodLink RX3 87 yX3_at, Cond.static yX3_at, Cond.code yX3_at cX3_at 2 (some .int), Cond.methodLink RX3 66 yX3_put, Cond.static yX3_put, Cond.code yX3_put cX3_put 3 none, Cond.instanceMethod yX1_all, Cond.selects RX1 yX1_all yX1_all, Cond.code yX1_all cX1_all 1 (some .int), Cond.fieldLink RX1 18 "ColdDepots$Party" "size" "I"]
def wsX3_leftAtWorst_r2 : List Cond := [Cond.instanceMethod yX1_go, Cond.selects RX1 yX1_go yX1_go, Cond.code yX1_go cX1_go 6 (some .boolean), Cond.fieldLink RX1 40 "ColdDepots$Party" "alive" "I", Cond.fieldLink RX1 43 "ColdDepots$Party" "food" "I", Cond.fieldLink RX1 46 "ColdDepots$Party" "eat" "I", Cond.methodLink RX1 30 yX1_setOut, Cond.instanceMethod yX1_setOut, Cond.selects RX1 yX1_setOut yX1_setOut, Cond.code yX1_setOut cX1_setOut 3 none, Cond.fieldLink RX1 63 "ColdDepots$Party" "pull" "I", Cond.methodLink RX1 69 Lib.Math.min.name, Cond.static Lib.Math.min.name, Cond.code Lib.Math.min.name Lib.Math.min.code 2 (some .int), Cond.fieldLink RX1 75 "ColdDepots$Party" "diedOn" "I", Cond.methodLink RX1 59 yX1_together, Cond.instanceMethod yX1_together, Cond.selects RX1 yX1_together yX1_together, Cond.code yX1_together cX1_together 5 (some .int), Cond.fieldLink RX1 9 "ColdDepots$Party" "kinds" "[I", Cond.methodLink RX1 34 yX1_eatPonies, Cond.instanceMethod yX1_eatPonies, Cond.selects RX1 yX1_eatPonies yX1_eatPonies, Cond.code yX1_eatPonies cX1_eatPonies 2 none]
def wsX3_leftAtWorst_r3 : List Cond := [Cond.methodLink RX1 78 yX1_devour, Cond.instanceMethod yX1_devour, Cond.selects RX1 yX1_devour yX1_devour, Cond.code yX1_devour cX1_devour 3 none, Cond.methodLink RX1 37 yX1_eatBeasts, Cond.instanceMethod yX1_eatBeasts, Cond.selects RX1 yX1_eatBeasts yX1_eatBeasts, Cond.code yX1_eatBeasts cX1_eatBeasts 3 none, Cond.static yX3_isOf, Cond.code yX3_isOf cX3_isOf 2 (some .boolean), Cond.methodLink RX1 49 yX1_dieOn, Cond.instanceMethod yX1_dieOn, Cond.selects RX1 yX1_dieOn yX1_dieOn, Cond.code yX1_dieOn cX1_dieOn 2 none, Cond.methodLink RX1 53 yX1_takeUpAt, Cond.instanceMethod yX1_takeUpAt, Cond.selects RX1 yX1_takeUpAt yX1_takeUpAt, Cond.code yX1_takeUpAt cX1_takeUpAt 3 none, Cond.methodLink RX3 187 yJ6_bitCount_0f7a4, Cond.static yJ6_bitCount_0f7a4, Cond.initialized RJ6, Cond.code yJ6_bitCount_0f7a4 cJ6_bitCount_0f7a4 1 (some .int), Cond.constant RJ6 265 (1431655765), Cond.constant RJ6 266 (858993459)]
def wsX3_leftAtWorst_r4 : List Cond := [Cond.constant RJ6 267 (252645135)]
def wsX3_leftAtWorst : List Cond := .code yX3_leftAtWorst cX3_leftAtWorst 6 (some .int) :: ((wsX3_leftAtWorst_r1 ++ (wsX3_leftAtWorst_r2 ++ (wsX3_leftAtWorst_r3 ++ wsX3_leftAtWorst_r4))) ++ wsX30 ++ wsX20 ++ wsX10)
def wsX3_bestTrial_r1 : List Cond := [Cond.fieldLink RX3 19 "ColdDepots" "party" "LColdDepots$Party;", Cond.methodLink RX3 187 yJ6_bitCount_0f7a4, Cond.static yJ6_bitCount_0f7a4, Cond.initialized RJ6, Cond.code yJ6_bitCount_0f7a4 cJ6_bitCount_0f7a4 1 (some .int), Cond.constant RJ6 265 (1431655765), Cond.constant RJ6 266 (858993459), Cond.constant RJ6 267 (252645135), Cond.instanceMethod yX1_all, Cond.initialized RX1, Cond.selects RX1 yX1_all yX1_all, Cond.code yX1_all cX1_all 1 (some .int), Cond.fieldLink RX1 18 "ColdDepots$Party" "size" "I", Cond.methodLink RX3 214 yX3_mostFoodOf, Cond.instanceMethod yX3_mostFoodOf, Cond.selects RX3 yX3_mostFoodOf yX3_mostFoodOf, Cond.initialized RX3, Cond.code yX3_mostFoodOf cX3_mostFoodOf 2 (some .int), Cond.fieldLink RX3 91 "ColdDepots" "PULLS" "[I", Cond.methodLink RX3 209 Lib.Math.min.name, Cond.static Lib.Math.min.name, Cond.initialized "java/lang/Math", Cond.code Lib.Math.min.name Lib.Math.min.code 2 (some .int), Cond.instanceMethod yX1_together]
def wsX3_bestTrial_r2 : List Cond := [Cond.selects RX1 yX1_together yX1_together, Cond.code yX1_together cX1_together 5 (some .int), Cond.fieldLink RX1 9 "ColdDepots$Party" "kinds" "[I", Cond.static yX3_at, Cond.code yX3_at cX3_at 2 (some .int), Cond.methodLink RX3 232 yX3_leftAtWorst, Cond.instanceMethod yX3_leftAtWorst, Cond.selects RX3 yX3_leftAtWorst yX3_leftAtWorst, Cond.code yX3_leftAtWorst cX3_leftAtWorst 6 (some .int), Cond.fieldLink RX3 26 "ColdDepots" "now" "LColdDepots$Standing;", Cond.methodLink RX3 236 Lib.Math.max.name, Cond.static Lib.Math.max.name, Cond.code Lib.Math.max.name Lib.Math.max.code 2 (some .int), Cond.instanceMethod yX1_setCairns, Cond.selects RX1 yX1_setCairns yX1_setCairns, Cond.code yX1_setCairns cX1_setCairns 2 none, Cond.fieldLink RX1 15 "ColdDepots$Party" "cairns" "[I", Cond.static yX3_copy, Cond.code yX3_copy cX3_copy 3 none, Cond.methodLink RX3 87 yX3_at, Cond.methodLink RX3 66 yX3_put, Cond.static yX3_put, Cond.code yX3_put cX3_put 3 none, Cond.instanceMethod yX1_go]
def wsX3_bestTrial_r3 : List Cond := [Cond.selects RX1 yX1_go yX1_go, Cond.code yX1_go cX1_go 6 (some .boolean), Cond.fieldLink RX1 40 "ColdDepots$Party" "alive" "I", Cond.fieldLink RX1 43 "ColdDepots$Party" "food" "I", Cond.fieldLink RX1 46 "ColdDepots$Party" "eat" "I", Cond.methodLink RX1 30 yX1_setOut, Cond.instanceMethod yX1_setOut, Cond.selects RX1 yX1_setOut yX1_setOut, Cond.code yX1_setOut cX1_setOut 3 none, Cond.fieldLink RX1 63 "ColdDepots$Party" "pull" "I", Cond.methodLink RX1 69 Lib.Math.min.name, Cond.fieldLink RX1 75 "ColdDepots$Party" "diedOn" "I", Cond.methodLink RX1 59 yX1_together, Cond.methodLink RX1 34 yX1_eatPonies, Cond.instanceMethod yX1_eatPonies, Cond.selects RX1 yX1_eatPonies yX1_eatPonies, Cond.code yX1_eatPonies cX1_eatPonies 2 none, Cond.methodLink RX1 78 yX1_devour, Cond.instanceMethod yX1_devour, Cond.selects RX1 yX1_devour yX1_devour, Cond.code yX1_devour cX1_devour 3 none, Cond.methodLink RX1 37 yX1_eatBeasts, Cond.instanceMethod yX1_eatBeasts, Cond.selects RX1 yX1_eatBeasts yX1_eatBeasts]
def wsX3_bestTrial_r4 : List Cond := [Cond.code yX1_eatBeasts cX1_eatBeasts 3 none, Cond.static yX3_isOf, Cond.code yX3_isOf cX3_isOf 2 (some .boolean), Cond.methodLink RX1 49 yX1_dieOn, Cond.instanceMethod yX1_dieOn, Cond.selects RX1 yX1_dieOn yX1_dieOn, Cond.code yX1_dieOn cX1_dieOn 2 none, Cond.methodLink RX1 53 yX1_takeUpAt, Cond.instanceMethod yX1_takeUpAt, Cond.selects RX1 yX1_takeUpAt yX1_takeUpAt, Cond.code yX1_takeUpAt cX1_takeUpAt 3 none]
def wsX3_bestTrial : List Cond := .code yX3_bestTrial cX3_bestTrial 8 (some .int) :: ((wsX3_bestTrial_r1 ++ (wsX3_bestTrial_r2 ++ (wsX3_bestTrial_r3 ++ wsX3_bestTrial_r4))) ++ wsX30 ++ wsX10 ++ wsX20)
def wsX3_cairn_r1 : List Cond := [Cond.fieldLink RX3 26 "ColdDepots" "now" "LColdDepots$Standing;", Cond.methodLink RX3 107 yX3_isNoCairn, Cond.instanceMethod yX3_isNoCairn, Cond.selects RX3 yX3_isNoCairn yX3_isNoCairn, Cond.initialized RX3, Cond.code yX3_isNoCairn cX3_isNoCairn 2 (some .boolean), Cond.fieldLink RX3 19 "ColdDepots" "party" "LColdDepots$Party;", Cond.methodLink RX3 87 yX3_at, Cond.static yX3_at, Cond.code yX3_at cX3_at 2 (some .int), Cond.methodLink RX3 110 yX3_amountsAt, Cond.instanceMethod yX3_amountsAt, Cond.selects RX3 yX3_amountsAt yX3_amountsAt, Cond.code yX3_amountsAt cX3_amountsAt 4 (some .int), Cond.methodLink RX3 217 yX3_isAllSo, Cond.instanceMethod yX3_isAllSo, Cond.selects RX3 yX3_isAllSo yX3_isAllSo, Cond.code yX3_isAllSo cX3_isAllSo 6 (some .boolean), Cond.instanceMethod yX1_setCairns, Cond.initialized RX1, Cond.selects RX1 yX1_setCairns yX1_setCairns, Cond.code yX1_setCairns cX1_setCairns 2 none, Cond.fieldLink RX1 15 "ColdDepots$Party" "cairns" "[I", Cond.static yX3_copy]
def wsX3_cairn_r2 : List Cond := [Cond.code yX3_copy cX3_copy 3 none, Cond.methodLink RX3 66 yX3_put, Cond.static yX3_put, Cond.code yX3_put cX3_put 3 none, Cond.instanceMethod yX1_go, Cond.selects RX1 yX1_go yX1_go, Cond.code yX1_go cX1_go 6 (some .boolean), Cond.fieldLink RX1 40 "ColdDepots$Party" "alive" "I", Cond.fieldLink RX1 43 "ColdDepots$Party" "food" "I", Cond.fieldLink RX1 46 "ColdDepots$Party" "eat" "I", Cond.methodLink RX1 30 yX1_setOut, Cond.instanceMethod yX1_setOut, Cond.selects RX1 yX1_setOut yX1_setOut, Cond.code yX1_setOut cX1_setOut 3 none, Cond.fieldLink RX1 63 "ColdDepots$Party" "pull" "I", Cond.methodLink RX1 69 Lib.Math.min.name, Cond.static Lib.Math.min.name, Cond.initialized "java/lang/Math", Cond.code Lib.Math.min.name Lib.Math.min.code 2 (some .int), Cond.fieldLink RX1 75 "ColdDepots$Party" "diedOn" "I", Cond.methodLink RX1 59 yX1_together, Cond.instanceMethod yX1_together, Cond.selects RX1 yX1_together yX1_together, Cond.code yX1_together cX1_together 5 (some .int)]
def wsX3_cairn_r3 : List Cond := [Cond.fieldLink RX1 18 "ColdDepots$Party" "size" "I", Cond.fieldLink RX1 9 "ColdDepots$Party" "kinds" "[I", Cond.methodLink RX1 34 yX1_eatPonies, Cond.instanceMethod yX1_eatPonies, Cond.selects RX1 yX1_eatPonies yX1_eatPonies, Cond.code yX1_eatPonies cX1_eatPonies 2 none, Cond.methodLink RX1 78 yX1_devour, Cond.instanceMethod yX1_devour, Cond.selects RX1 yX1_devour yX1_devour, Cond.code yX1_devour cX1_devour 3 none, Cond.methodLink RX1 37 yX1_eatBeasts, Cond.instanceMethod yX1_eatBeasts, Cond.selects RX1 yX1_eatBeasts yX1_eatBeasts, Cond.code yX1_eatBeasts cX1_eatBeasts 3 none, Cond.static yX3_isOf, Cond.code yX3_isOf cX3_isOf 2 (some .boolean), Cond.methodLink RX1 49 yX1_dieOn, Cond.instanceMethod yX1_dieOn, Cond.selects RX1 yX1_dieOn yX1_dieOn, Cond.code yX1_dieOn cX1_dieOn 2 none, Cond.methodLink RX1 53 yX1_takeUpAt, Cond.instanceMethod yX1_takeUpAt, Cond.selects RX1 yX1_takeUpAt yX1_takeUpAt, Cond.code yX1_takeUpAt cX1_takeUpAt 3 none]
def wsX3_cairn_r4 : List Cond := [Cond.methodLink RX3 113 yX3_bestTrial, Cond.instanceMethod yX3_bestTrial, Cond.selects RX3 yX3_bestTrial yX3_bestTrial, Cond.code yX3_bestTrial cX3_bestTrial 8 (some .int), Cond.methodLink RX3 187 yJ6_bitCount_0f7a4, Cond.static yJ6_bitCount_0f7a4, Cond.initialized RJ6, Cond.code yJ6_bitCount_0f7a4 cJ6_bitCount_0f7a4 1 (some .int), Cond.constant RJ6 265 (1431655765), Cond.constant RJ6 266 (858993459), Cond.constant RJ6 267 (252645135), Cond.instanceMethod yX1_all, Cond.selects RX1 yX1_all yX1_all, Cond.code yX1_all cX1_all 1 (some .int), Cond.methodLink RX3 214 yX3_mostFoodOf, Cond.instanceMethod yX3_mostFoodOf, Cond.selects RX3 yX3_mostFoodOf yX3_mostFoodOf, Cond.code yX3_mostFoodOf cX3_mostFoodOf 2 (some .int), Cond.fieldLink RX3 91 "ColdDepots" "PULLS" "[I", Cond.methodLink RX3 209 Lib.Math.min.name, Cond.methodLink RX3 232 yX3_leftAtWorst, Cond.instanceMethod yX3_leftAtWorst, Cond.selects RX3 yX3_leftAtWorst yX3_leftAtWorst, Cond.code yX3_leftAtWorst cX3_leftAtWorst 6 (some .int)]
def wsX3_cairn_r5 : List Cond := [Cond.methodLink RX3 236 Lib.Math.max.name, Cond.static Lib.Math.max.name, Cond.code Lib.Math.max.name Lib.Math.max.code 2 (some .int)]
def wsX3_cairn : List Cond := .code yX3_cairn cX3_cairn 3 (some .int) :: ((wsX3_cairn_r1 ++ (wsX3_cairn_r2 ++ (wsX3_cairn_r3 ++ (wsX3_cairn_r4 ++ wsX3_cairn_r5)))) ++ wsX30 ++ wsX20 ++ wsX10)
def wsX3_lay : List Cond := .code yX3_lay cX3_lay 4 (some .int) :: ([.fieldLink RX3 26 "ColdDepots" "now" "LColdDepots$Standing;", .methodLink RX3 107 yX3_isNoCairn, .instanceMethod yX3_isNoCairn, .selects RX3 yX3_isNoCairn yX3_isNoCairn, .initialized RX3, .code yX3_isNoCairn cX3_isNoCairn 2 (some .boolean), .fieldLink RX3 19 "ColdDepots" "party" "LColdDepots$Party;", .methodLink RX3 87 yX3_at, .static yX3_at, .code yX3_at cX3_at 2 (some .int), .methodLink RX3 66 yX3_put, .static yX3_put, .code yX3_put cX3_put 3 none] ++ wsX30 ++ wsX20 ++ wsX10)
def wsX3_isNobody : List Cond := .code yX3_isNobody cX3_isNobody 2 (some .boolean) :: ([.fieldLink RX3 19 "ColdDepots" "party" "LColdDepots$Party;", .instanceMethod yX1_all, .initialized RX1, .selects RX1 yX1_all yX1_all, .code yX1_all cX1_all 1 (some .int), .fieldLink RX1 18 "ColdDepots$Party" "size" "I"] ++ wsX30 ++ wsX10)
def wsX3_isNoStage : List Cond := .code yX3_isNoStage cX3_isNoStage 1 (some .boolean) :: ([])
def wsX3_isNoMarch : List Cond := .code yX3_isNoMarch cX3_isNoMarch 4 (some .boolean) :: ([.methodLink RX3 153 yX3_isNobody, .instanceMethod yX3_isNobody, .selects RX3 yX3_isNobody yX3_isNobody, .initialized RX3, .code yX3_isNobody cX3_isNobody 2 (some .boolean), .fieldLink RX3 19 "ColdDepots" "party" "LColdDepots$Party;", .instanceMethod yX1_all, .initialized RX1, .selects RX1 yX1_all yX1_all, .code yX1_all cX1_all 1 (some .int), .fieldLink RX1 18 "ColdDepots$Party" "size" "I", .methodLink RX3 156 yX3_isNoStage, .static yX3_isNoStage, .code yX3_isNoStage cX3_isNoStage 1 (some .boolean)] ++ wsX30 ++ wsX10)
def wsX3_anyIsDead : List Cond := .code yX3_anyIsDead cX3_anyIsDead 2 (some .boolean) :: ([.fieldLink RX3 26 "ColdDepots" "now" "LColdDepots$Standing;"] ++ wsX30 ++ wsX20)
def wsX3_march_r1 : List Cond := [Cond.fieldLink RX3 19 "ColdDepots" "party" "LColdDepots$Party;", Cond.fieldLink RX3 26 "ColdDepots" "now" "LColdDepots$Standing;", Cond.methodLink RX3 117 yX3_isNoMarch, Cond.instanceMethod yX3_isNoMarch, Cond.selects RX3 yX3_isNoMarch yX3_isNoMarch, Cond.initialized RX3, Cond.code yX3_isNoMarch cX3_isNoMarch 4 (some .boolean), Cond.methodLink RX3 153 yX3_isNobody, Cond.instanceMethod yX3_isNobody, Cond.selects RX3 yX3_isNobody yX3_isNobody, Cond.code yX3_isNobody cX3_isNobody 2 (some .boolean), Cond.instanceMethod yX1_all, Cond.initialized RX1, Cond.selects RX1 yX1_all yX1_all, Cond.code yX1_all cX1_all 1 (some .int), Cond.fieldLink RX1 18 "ColdDepots$Party" "size" "I", Cond.methodLink RX3 156 yX3_isNoStage, Cond.static yX3_isNoStage, Cond.code yX3_isNoStage cX3_isNoStage 1 (some .boolean), Cond.methodLink RX3 121 yX3_anyIsDead, Cond.instanceMethod yX3_anyIsDead, Cond.selects RX3 yX3_anyIsDead yX3_anyIsDead, Cond.code yX3_anyIsDead cX3_anyIsDead 2 (some .boolean), Cond.instanceMethod yX1_setCairns]
def wsX3_march_r2 : List Cond := [Cond.selects RX1 yX1_setCairns yX1_setCairns, Cond.code yX1_setCairns cX1_setCairns 2 none, Cond.fieldLink RX1 15 "ColdDepots$Party" "cairns" "[I", Cond.static yX3_copy, Cond.code yX3_copy cX3_copy 3 none, Cond.methodLink RX3 87 yX3_at, Cond.static yX3_at, Cond.code yX3_at cX3_at 2 (some .int), Cond.methodLink RX3 66 yX3_put, Cond.static yX3_put, Cond.code yX3_put cX3_put 3 none, Cond.instanceMethod yX1_go, Cond.selects RX1 yX1_go yX1_go, Cond.code yX1_go cX1_go 6 (some .boolean), Cond.fieldLink RX1 40 "ColdDepots$Party" "alive" "I", Cond.fieldLink RX1 43 "ColdDepots$Party" "food" "I", Cond.fieldLink RX1 46 "ColdDepots$Party" "eat" "I", Cond.methodLink RX1 30 yX1_setOut, Cond.instanceMethod yX1_setOut, Cond.selects RX1 yX1_setOut yX1_setOut, Cond.code yX1_setOut cX1_setOut 3 none, Cond.fieldLink RX1 63 "ColdDepots$Party" "pull" "I", Cond.methodLink RX1 69 Lib.Math.min.name, Cond.static Lib.Math.min.name]
def wsX3_march_r3 : List Cond := [Cond.initialized "java/lang/Math", Cond.code Lib.Math.min.name Lib.Math.min.code 2 (some .int), Cond.fieldLink RX1 75 "ColdDepots$Party" "diedOn" "I", Cond.methodLink RX1 59 yX1_together, Cond.instanceMethod yX1_together, Cond.selects RX1 yX1_together yX1_together, Cond.code yX1_together cX1_together 5 (some .int), Cond.fieldLink RX1 9 "ColdDepots$Party" "kinds" "[I", Cond.methodLink RX1 34 yX1_eatPonies, Cond.instanceMethod yX1_eatPonies, Cond.selects RX1 yX1_eatPonies yX1_eatPonies, Cond.code yX1_eatPonies cX1_eatPonies 2 none, Cond.methodLink RX1 78 yX1_devour, Cond.instanceMethod yX1_devour, Cond.selects RX1 yX1_devour yX1_devour, Cond.code yX1_devour cX1_devour 3 none, Cond.methodLink RX1 37 yX1_eatBeasts, Cond.instanceMethod yX1_eatBeasts, Cond.selects RX1 yX1_eatBeasts yX1_eatBeasts, Cond.code yX1_eatBeasts cX1_eatBeasts 3 none, Cond.static yX3_isOf, Cond.code yX3_isOf cX3_isOf 2 (some .boolean), Cond.methodLink RX1 49 yX1_dieOn, Cond.instanceMethod yX1_dieOn]
def wsX3_march_r4 : List Cond := [Cond.selects RX1 yX1_dieOn yX1_dieOn, Cond.code yX1_dieOn cX1_dieOn 2 none, Cond.methodLink RX1 53 yX1_takeUpAt, Cond.instanceMethod yX1_takeUpAt, Cond.selects RX1 yX1_takeUpAt yX1_takeUpAt, Cond.code yX1_takeUpAt cX1_takeUpAt 3 none, Cond.methodLink RX3 133 yX3_copy]
def wsX3_march : List Cond := .code yX3_march cX3_march 4 (some .int) :: ((wsX3_march_r1 ++ (wsX3_march_r2 ++ (wsX3_march_r3 ++ wsX3_march_r4))) ++ wsX30 ++ wsX20 ++ wsX10)
def wsX3_sum : List Cond := .code yX3_sum cX3_sum 3 (some .int) :: ([])
def wsX3_would_r1 : List Cond := [Cond.fieldLink RX3 19 "ColdDepots" "party" "LColdDepots$Party;", Cond.fieldLink RX3 26 "ColdDepots" "now" "LColdDepots$Standing;", Cond.methodLink RX3 117 yX3_isNoMarch, Cond.instanceMethod yX3_isNoMarch, Cond.selects RX3 yX3_isNoMarch yX3_isNoMarch, Cond.initialized RX3, Cond.code yX3_isNoMarch cX3_isNoMarch 4 (some .boolean), Cond.methodLink RX3 153 yX3_isNobody, Cond.instanceMethod yX3_isNobody, Cond.selects RX3 yX3_isNobody yX3_isNobody, Cond.code yX3_isNobody cX3_isNobody 2 (some .boolean), Cond.instanceMethod yX1_all, Cond.initialized RX1, Cond.selects RX1 yX1_all yX1_all, Cond.code yX1_all cX1_all 1 (some .int), Cond.fieldLink RX1 18 "ColdDepots$Party" "size" "I", Cond.methodLink RX3 156 yX3_isNoStage, Cond.static yX3_isNoStage, Cond.code yX3_isNoStage cX3_isNoStage 1 (some .boolean), Cond.methodLink RX3 121 yX3_anyIsDead, Cond.instanceMethod yX3_anyIsDead, Cond.selects RX3 yX3_anyIsDead yX3_anyIsDead, Cond.code yX3_anyIsDead cX3_anyIsDead 2 (some .boolean), Cond.instanceMethod yX1_setCairns]
def wsX3_would_r2 : List Cond := [Cond.selects RX1 yX1_setCairns yX1_setCairns, Cond.code yX1_setCairns cX1_setCairns 2 none, Cond.fieldLink RX1 15 "ColdDepots$Party" "cairns" "[I", Cond.static yX3_copy, Cond.code yX3_copy cX3_copy 3 none, Cond.methodLink RX3 87 yX3_at, Cond.static yX3_at, Cond.code yX3_at cX3_at 2 (some .int), Cond.methodLink RX3 66 yX3_put, Cond.static yX3_put, Cond.code yX3_put cX3_put 3 none, Cond.instanceMethod yX1_go, Cond.selects RX1 yX1_go yX1_go, Cond.code yX1_go cX1_go 6 (some .boolean), Cond.fieldLink RX1 40 "ColdDepots$Party" "alive" "I", Cond.fieldLink RX1 43 "ColdDepots$Party" "food" "I", Cond.fieldLink RX1 46 "ColdDepots$Party" "eat" "I", Cond.methodLink RX1 30 yX1_setOut, Cond.instanceMethod yX1_setOut, Cond.selects RX1 yX1_setOut yX1_setOut, Cond.code yX1_setOut cX1_setOut 3 none, Cond.fieldLink RX1 63 "ColdDepots$Party" "pull" "I", Cond.methodLink RX1 69 Lib.Math.min.name, Cond.static Lib.Math.min.name]
def wsX3_would_r3 : List Cond := [Cond.initialized "java/lang/Math", Cond.code Lib.Math.min.name Lib.Math.min.code 2 (some .int), Cond.fieldLink RX1 75 "ColdDepots$Party" "diedOn" "I", Cond.methodLink RX1 59 yX1_together, Cond.instanceMethod yX1_together, Cond.selects RX1 yX1_together yX1_together, Cond.code yX1_together cX1_together 5 (some .int), Cond.fieldLink RX1 9 "ColdDepots$Party" "kinds" "[I", Cond.methodLink RX1 34 yX1_eatPonies, Cond.instanceMethod yX1_eatPonies, Cond.selects RX1 yX1_eatPonies yX1_eatPonies, Cond.code yX1_eatPonies cX1_eatPonies 2 none, Cond.methodLink RX1 78 yX1_devour, Cond.instanceMethod yX1_devour, Cond.selects RX1 yX1_devour yX1_devour, Cond.code yX1_devour cX1_devour 3 none, Cond.methodLink RX1 37 yX1_eatBeasts, Cond.instanceMethod yX1_eatBeasts, Cond.selects RX1 yX1_eatBeasts yX1_eatBeasts, Cond.code yX1_eatBeasts cX1_eatBeasts 3 none, Cond.static yX3_isOf, Cond.code yX3_isOf cX3_isOf 2 (some .boolean), Cond.methodLink RX1 49 yX1_dieOn, Cond.instanceMethod yX1_dieOn]
def wsX3_would_r4 : List Cond := [Cond.selects RX1 yX1_dieOn yX1_dieOn, Cond.code yX1_dieOn cX1_dieOn 2 none, Cond.methodLink RX1 53 yX1_takeUpAt, Cond.instanceMethod yX1_takeUpAt, Cond.selects RX1 yX1_takeUpAt yX1_takeUpAt, Cond.code yX1_takeUpAt cX1_takeUpAt 3 none, Cond.methodLink RX3 146 yX3_sum, Cond.static yX3_sum, Cond.code yX3_sum cX3_sum 3 (some .int)]
def wsX3_would : List Cond := .code yX3_would cX3_would 5 (some .int) :: ((wsX3_would_r1 ++ (wsX3_would_r2 ++ (wsX3_would_r3 ++ wsX3_would_r4))) ++ wsX30 ++ wsX20 ++ wsX10)
def wsX3_leastFood_r1 : List Cond := [Cond.fieldLink RX3 19 "ColdDepots" "party" "LColdDepots$Party;", Cond.methodLink RX3 214 yX3_mostFoodOf, Cond.instanceMethod yX3_mostFoodOf, Cond.selects RX3 yX3_mostFoodOf yX3_mostFoodOf, Cond.initialized RX3, Cond.code yX3_mostFoodOf cX3_mostFoodOf 2 (some .int), Cond.fieldLink RX3 91 "ColdDepots" "PULLS" "[I", Cond.methodLink RX3 209 Lib.Math.min.name, Cond.static Lib.Math.min.name, Cond.initialized "java/lang/Math", Cond.code Lib.Math.min.name Lib.Math.min.code 2 (some .int), Cond.instanceMethod yX1_together, Cond.initialized RX1, Cond.selects RX1 yX1_together yX1_together, Cond.code yX1_together cX1_together 5 (some .int), Cond.fieldLink RX1 18 "ColdDepots$Party" "size" "I", Cond.fieldLink RX1 9 "ColdDepots$Party" "kinds" "[I", Cond.static yX3_at, Cond.code yX3_at cX3_at 2 (some .int), Cond.instanceMethod yX1_setCairns, Cond.selects RX1 yX1_setCairns yX1_setCairns, Cond.code yX1_setCairns cX1_setCairns 2 none, Cond.fieldLink RX1 15 "ColdDepots$Party" "cairns" "[I", Cond.static yX3_copy]
def wsX3_leastFood_r2 : List Cond := [Cond.code yX3_copy cX3_copy 3 none, Cond.methodLink RX3 87 yX3_at, Cond.methodLink RX3 66 yX3_put, Cond.static yX3_put, Cond.code yX3_put cX3_put 3 none, Cond.instanceMethod yX1_go, Cond.selects RX1 yX1_go yX1_go, Cond.code yX1_go cX1_go 6 (some .boolean), Cond.fieldLink RX1 40 "ColdDepots$Party" "alive" "I", Cond.fieldLink RX1 43 "ColdDepots$Party" "food" "I", Cond.fieldLink RX1 46 "ColdDepots$Party" "eat" "I", Cond.methodLink RX1 30 yX1_setOut, Cond.instanceMethod yX1_setOut, Cond.selects RX1 yX1_setOut yX1_setOut, Cond.code yX1_setOut cX1_setOut 3 none, Cond.fieldLink RX1 63 "ColdDepots$Party" "pull" "I", Cond.methodLink RX1 69 Lib.Math.min.name, Cond.fieldLink RX1 75 "ColdDepots$Party" "diedOn" "I", Cond.methodLink RX1 59 yX1_together, Cond.methodLink RX1 34 yX1_eatPonies, Cond.instanceMethod yX1_eatPonies, Cond.selects RX1 yX1_eatPonies yX1_eatPonies, Cond.code yX1_eatPonies cX1_eatPonies 2 none, Cond.methodLink RX1 78 yX1_devour]
def wsX3_leastFood_r3 : List Cond := [Cond.instanceMethod yX1_devour, Cond.selects RX1 yX1_devour yX1_devour, Cond.code yX1_devour cX1_devour 3 none, Cond.methodLink RX1 37 yX1_eatBeasts, Cond.instanceMethod yX1_eatBeasts, Cond.selects RX1 yX1_eatBeasts yX1_eatBeasts, Cond.code yX1_eatBeasts cX1_eatBeasts 3 none, Cond.static yX3_isOf, Cond.code yX3_isOf cX3_isOf 2 (some .boolean), Cond.methodLink RX1 49 yX1_dieOn, Cond.instanceMethod yX1_dieOn, Cond.selects RX1 yX1_dieOn yX1_dieOn, Cond.code yX1_dieOn cX1_dieOn 2 none, Cond.methodLink RX1 53 yX1_takeUpAt, Cond.instanceMethod yX1_takeUpAt, Cond.selects RX1 yX1_takeUpAt yX1_takeUpAt, Cond.code yX1_takeUpAt cX1_takeUpAt 3 none]
def wsX3_leastFood : List Cond := .code yX3_leastFood cX3_leastFood 6 (some .int) :: ((wsX3_leastFood_r1 ++ (wsX3_leastFood_r2 ++ wsX3_leastFood_r3)) ++ wsX30 ++ wsX10)
def wsX3_need_r1 : List Cond := [Cond.fieldLink RX3 26 "ColdDepots" "now" "LColdDepots$Standing;", Cond.methodLink RX3 153 yX3_isNobody, Cond.instanceMethod yX3_isNobody, Cond.selects RX3 yX3_isNobody yX3_isNobody, Cond.initialized RX3, Cond.code yX3_isNobody cX3_isNobody 2 (some .boolean), Cond.fieldLink RX3 19 "ColdDepots" "party" "LColdDepots$Party;", Cond.instanceMethod yX1_all, Cond.initialized RX1, Cond.selects RX1 yX1_all yX1_all, Cond.code yX1_all cX1_all 1 (some .int), Cond.fieldLink RX1 18 "ColdDepots$Party" "size" "I", Cond.methodLink RX3 156 yX3_isNoStage, Cond.static yX3_isNoStage, Cond.code yX3_isNoStage cX3_isNoStage 1 (some .boolean), Cond.methodLink RX3 121 yX3_anyIsDead, Cond.instanceMethod yX3_anyIsDead, Cond.selects RX3 yX3_anyIsDead yX3_anyIsDead, Cond.code yX3_anyIsDead cX3_anyIsDead 2 (some .boolean), Cond.methodLink RX3 159 yX3_leastFood, Cond.instanceMethod yX3_leastFood, Cond.selects RX3 yX3_leastFood yX3_leastFood, Cond.code yX3_leastFood cX3_leastFood 6 (some .int), Cond.methodLink RX3 214 yX3_mostFoodOf]
def wsX3_need_r2 : List Cond := [Cond.instanceMethod yX3_mostFoodOf, Cond.selects RX3 yX3_mostFoodOf yX3_mostFoodOf, Cond.code yX3_mostFoodOf cX3_mostFoodOf 2 (some .int), Cond.fieldLink RX3 91 "ColdDepots" "PULLS" "[I", Cond.methodLink RX3 209 Lib.Math.min.name, Cond.static Lib.Math.min.name, Cond.initialized "java/lang/Math", Cond.code Lib.Math.min.name Lib.Math.min.code 2 (some .int), Cond.instanceMethod yX1_together, Cond.selects RX1 yX1_together yX1_together, Cond.code yX1_together cX1_together 5 (some .int), Cond.fieldLink RX1 9 "ColdDepots$Party" "kinds" "[I", Cond.static yX3_at, Cond.code yX3_at cX3_at 2 (some .int), Cond.instanceMethod yX1_setCairns, Cond.selects RX1 yX1_setCairns yX1_setCairns, Cond.code yX1_setCairns cX1_setCairns 2 none, Cond.fieldLink RX1 15 "ColdDepots$Party" "cairns" "[I", Cond.static yX3_copy, Cond.code yX3_copy cX3_copy 3 none, Cond.methodLink RX3 87 yX3_at, Cond.methodLink RX3 66 yX3_put, Cond.static yX3_put, Cond.code yX3_put cX3_put 3 none]
def wsX3_need_r3 : List Cond := [Cond.instanceMethod yX1_go, Cond.selects RX1 yX1_go yX1_go, Cond.code yX1_go cX1_go 6 (some .boolean), Cond.fieldLink RX1 40 "ColdDepots$Party" "alive" "I", Cond.fieldLink RX1 43 "ColdDepots$Party" "food" "I", Cond.fieldLink RX1 46 "ColdDepots$Party" "eat" "I", Cond.methodLink RX1 30 yX1_setOut, Cond.instanceMethod yX1_setOut, Cond.selects RX1 yX1_setOut yX1_setOut, Cond.code yX1_setOut cX1_setOut 3 none, Cond.fieldLink RX1 63 "ColdDepots$Party" "pull" "I", Cond.methodLink RX1 69 Lib.Math.min.name, Cond.fieldLink RX1 75 "ColdDepots$Party" "diedOn" "I", Cond.methodLink RX1 59 yX1_together, Cond.methodLink RX1 34 yX1_eatPonies, Cond.instanceMethod yX1_eatPonies, Cond.selects RX1 yX1_eatPonies yX1_eatPonies, Cond.code yX1_eatPonies cX1_eatPonies 2 none, Cond.methodLink RX1 78 yX1_devour, Cond.instanceMethod yX1_devour, Cond.selects RX1 yX1_devour yX1_devour, Cond.code yX1_devour cX1_devour 3 none, Cond.methodLink RX1 37 yX1_eatBeasts, Cond.instanceMethod yX1_eatBeasts]
def wsX3_need_r4 : List Cond := [Cond.selects RX1 yX1_eatBeasts yX1_eatBeasts, Cond.code yX1_eatBeasts cX1_eatBeasts 3 none, Cond.static yX3_isOf, Cond.code yX3_isOf cX3_isOf 2 (some .boolean), Cond.methodLink RX1 49 yX1_dieOn, Cond.instanceMethod yX1_dieOn, Cond.selects RX1 yX1_dieOn yX1_dieOn, Cond.code yX1_dieOn cX1_dieOn 2 none, Cond.methodLink RX1 53 yX1_takeUpAt, Cond.instanceMethod yX1_takeUpAt, Cond.selects RX1 yX1_takeUpAt yX1_takeUpAt, Cond.code yX1_takeUpAt cX1_takeUpAt 3 none]
def wsX3_need : List Cond := .code yX3_need cX3_need 3 (some .int) :: ((wsX3_need_r1 ++ (wsX3_need_r2 ++ (wsX3_need_r3 ++ wsX3_need_r4))) ++ wsX30 ++ wsX20 ++ wsX10)
def wsX3_farthest_r1 : List Cond := [Cond.methodLink RX3 159 yX3_leastFood, Cond.instanceMethod yX3_leastFood, Cond.selects RX3 yX3_leastFood yX3_leastFood, Cond.initialized RX3, Cond.code yX3_leastFood cX3_leastFood 6 (some .int), Cond.fieldLink RX3 19 "ColdDepots" "party" "LColdDepots$Party;", Cond.methodLink RX3 214 yX3_mostFoodOf, Cond.instanceMethod yX3_mostFoodOf, Cond.selects RX3 yX3_mostFoodOf yX3_mostFoodOf, Cond.code yX3_mostFoodOf cX3_mostFoodOf 2 (some .int), Cond.fieldLink RX3 91 "ColdDepots" "PULLS" "[I", Cond.methodLink RX3 209 Lib.Math.min.name, Cond.static Lib.Math.min.name, Cond.initialized "java/lang/Math", Cond.code Lib.Math.min.name Lib.Math.min.code 2 (some .int), Cond.instanceMethod yX1_together, Cond.initialized RX1, Cond.selects RX1 yX1_together yX1_together, Cond.code yX1_together cX1_together 5 (some .int), Cond.fieldLink RX1 18 "ColdDepots$Party" "size" "I", Cond.fieldLink RX1 9 "ColdDepots$Party" "kinds" "[I", Cond.static yX3_at, Cond.code yX3_at cX3_at 2 (some .int), Cond.instanceMethod yX1_setCairns]
def wsX3_farthest_r2 : List Cond := [Cond.selects RX1 yX1_setCairns yX1_setCairns, Cond.code yX1_setCairns cX1_setCairns 2 none, Cond.fieldLink RX1 15 "ColdDepots$Party" "cairns" "[I", Cond.static yX3_copy, Cond.code yX3_copy cX3_copy 3 none, Cond.methodLink RX3 87 yX3_at, Cond.methodLink RX3 66 yX3_put, Cond.static yX3_put, Cond.code yX3_put cX3_put 3 none, Cond.instanceMethod yX1_go, Cond.selects RX1 yX1_go yX1_go, Cond.code yX1_go cX1_go 6 (some .boolean), Cond.fieldLink RX1 40 "ColdDepots$Party" "alive" "I", Cond.fieldLink RX1 43 "ColdDepots$Party" "food" "I", Cond.fieldLink RX1 46 "ColdDepots$Party" "eat" "I", Cond.methodLink RX1 30 yX1_setOut, Cond.instanceMethod yX1_setOut, Cond.selects RX1 yX1_setOut yX1_setOut, Cond.code yX1_setOut cX1_setOut 3 none, Cond.fieldLink RX1 63 "ColdDepots$Party" "pull" "I", Cond.methodLink RX1 69 Lib.Math.min.name, Cond.fieldLink RX1 75 "ColdDepots$Party" "diedOn" "I", Cond.methodLink RX1 59 yX1_together, Cond.methodLink RX1 34 yX1_eatPonies]
def wsX3_farthest_r3 : List Cond := [Cond.instanceMethod yX1_eatPonies, Cond.selects RX1 yX1_eatPonies yX1_eatPonies, Cond.code yX1_eatPonies cX1_eatPonies 2 none, Cond.methodLink RX1 78 yX1_devour, Cond.instanceMethod yX1_devour, Cond.selects RX1 yX1_devour yX1_devour, Cond.code yX1_devour cX1_devour 3 none, Cond.methodLink RX1 37 yX1_eatBeasts, Cond.instanceMethod yX1_eatBeasts, Cond.selects RX1 yX1_eatBeasts yX1_eatBeasts, Cond.code yX1_eatBeasts cX1_eatBeasts 3 none, Cond.static yX3_isOf, Cond.code yX3_isOf cX3_isOf 2 (some .boolean), Cond.methodLink RX1 49 yX1_dieOn, Cond.instanceMethod yX1_dieOn, Cond.selects RX1 yX1_dieOn yX1_dieOn, Cond.code yX1_dieOn cX1_dieOn 2 none, Cond.methodLink RX1 53 yX1_takeUpAt, Cond.instanceMethod yX1_takeUpAt, Cond.selects RX1 yX1_takeUpAt yX1_takeUpAt, Cond.code yX1_takeUpAt cX1_takeUpAt 3 none]
def wsX3_farthest : List Cond := .code yX3_farthest cX3_farthest 4 (some .int) :: ((wsX3_farthest_r1 ++ (wsX3_farthest_r2 ++ wsX3_farthest_r3)) ++ wsX30 ++ wsX10)
def wsX3_far_r1 : List Cond := [Cond.fieldLink RX3 26 "ColdDepots" "now" "LColdDepots$Standing;", Cond.methodLink RX3 153 yX3_isNobody, Cond.instanceMethod yX3_isNobody, Cond.selects RX3 yX3_isNobody yX3_isNobody, Cond.initialized RX3, Cond.code yX3_isNobody cX3_isNobody 2 (some .boolean), Cond.fieldLink RX3 19 "ColdDepots" "party" "LColdDepots$Party;", Cond.instanceMethod yX1_all, Cond.initialized RX1, Cond.selects RX1 yX1_all yX1_all, Cond.code yX1_all cX1_all 1 (some .int), Cond.fieldLink RX1 18 "ColdDepots$Party" "size" "I", Cond.methodLink RX3 121 yX3_anyIsDead, Cond.instanceMethod yX3_anyIsDead, Cond.selects RX3 yX3_anyIsDead yX3_anyIsDead, Cond.code yX3_anyIsDead cX3_anyIsDead 2 (some .boolean), Cond.methodLink RX3 163 yX3_farthest, Cond.instanceMethod yX3_farthest, Cond.selects RX3 yX3_farthest yX3_farthest, Cond.code yX3_farthest cX3_farthest 4 (some .int), Cond.methodLink RX3 159 yX3_leastFood, Cond.instanceMethod yX3_leastFood, Cond.selects RX3 yX3_leastFood yX3_leastFood, Cond.code yX3_leastFood cX3_leastFood 6 (some .int)]
def wsX3_far_r2 : List Cond := [Cond.methodLink RX3 214 yX3_mostFoodOf, Cond.instanceMethod yX3_mostFoodOf, Cond.selects RX3 yX3_mostFoodOf yX3_mostFoodOf, Cond.code yX3_mostFoodOf cX3_mostFoodOf 2 (some .int), Cond.fieldLink RX3 91 "ColdDepots" "PULLS" "[I", Cond.methodLink RX3 209 Lib.Math.min.name, Cond.static Lib.Math.min.name, Cond.initialized "java/lang/Math", Cond.code Lib.Math.min.name Lib.Math.min.code 2 (some .int), Cond.instanceMethod yX1_together, Cond.selects RX1 yX1_together yX1_together, Cond.code yX1_together cX1_together 5 (some .int), Cond.fieldLink RX1 9 "ColdDepots$Party" "kinds" "[I", Cond.static yX3_at, Cond.code yX3_at cX3_at 2 (some .int), Cond.instanceMethod yX1_setCairns, Cond.selects RX1 yX1_setCairns yX1_setCairns, Cond.code yX1_setCairns cX1_setCairns 2 none, Cond.fieldLink RX1 15 "ColdDepots$Party" "cairns" "[I", Cond.static yX3_copy, Cond.code yX3_copy cX3_copy 3 none, Cond.methodLink RX3 87 yX3_at, Cond.methodLink RX3 66 yX3_put, Cond.static yX3_put]
def wsX3_far_r3 : List Cond := [Cond.code yX3_put cX3_put 3 none, Cond.instanceMethod yX1_go, Cond.selects RX1 yX1_go yX1_go, Cond.code yX1_go cX1_go 6 (some .boolean), Cond.fieldLink RX1 40 "ColdDepots$Party" "alive" "I", Cond.fieldLink RX1 43 "ColdDepots$Party" "food" "I", Cond.fieldLink RX1 46 "ColdDepots$Party" "eat" "I", Cond.methodLink RX1 30 yX1_setOut, Cond.instanceMethod yX1_setOut, Cond.selects RX1 yX1_setOut yX1_setOut, Cond.code yX1_setOut cX1_setOut 3 none, Cond.fieldLink RX1 63 "ColdDepots$Party" "pull" "I", Cond.methodLink RX1 69 Lib.Math.min.name, Cond.fieldLink RX1 75 "ColdDepots$Party" "diedOn" "I", Cond.methodLink RX1 59 yX1_together, Cond.methodLink RX1 34 yX1_eatPonies, Cond.instanceMethod yX1_eatPonies, Cond.selects RX1 yX1_eatPonies yX1_eatPonies, Cond.code yX1_eatPonies cX1_eatPonies 2 none, Cond.methodLink RX1 78 yX1_devour, Cond.instanceMethod yX1_devour, Cond.selects RX1 yX1_devour yX1_devour, Cond.code yX1_devour cX1_devour 3 none, Cond.methodLink RX1 37 yX1_eatBeasts]
def wsX3_far_r4 : List Cond := [Cond.instanceMethod yX1_eatBeasts, Cond.selects RX1 yX1_eatBeasts yX1_eatBeasts, Cond.code yX1_eatBeasts cX1_eatBeasts 3 none, Cond.static yX3_isOf, Cond.code yX3_isOf cX3_isOf 2 (some .boolean), Cond.methodLink RX1 49 yX1_dieOn, Cond.instanceMethod yX1_dieOn, Cond.selects RX1 yX1_dieOn yX1_dieOn, Cond.code yX1_dieOn cX1_dieOn 2 none, Cond.methodLink RX1 53 yX1_takeUpAt, Cond.instanceMethod yX1_takeUpAt, Cond.selects RX1 yX1_takeUpAt yX1_takeUpAt, Cond.code yX1_takeUpAt cX1_takeUpAt 3 none]
def wsX3_far : List Cond := .code yX3_far cX3_far 2 (some .int) :: ((wsX3_far_r1 ++ (wsX3_far_r2 ++ (wsX3_far_r3 ++ wsX3_far_r4))) ++ wsX30 ++ wsX20 ++ wsX10)
def wsX3_fewest_r1 : List Cond := [Cond.fieldLink RX3 19 "ColdDepots" "party" "LColdDepots$Party;", Cond.fieldLink RX3 26 "ColdDepots" "now" "LColdDepots$Standing;", Cond.instanceMethod yX1_all, Cond.initialized RX1, Cond.selects RX1 yX1_all yX1_all, Cond.code yX1_all cX1_all 1 (some .int), Cond.fieldLink RX1 18 "ColdDepots$Party" "size" "I", Cond.methodLink RX3 121 yX3_anyIsDead, Cond.instanceMethod yX3_anyIsDead, Cond.selects RX3 yX3_anyIsDead yX3_anyIsDead, Cond.initialized RX3, Cond.code yX3_anyIsDead cX3_anyIsDead 2 (some .boolean), Cond.methodLink RX3 187 yJ6_bitCount_0f7a4, Cond.static yJ6_bitCount_0f7a4, Cond.initialized RJ6, Cond.code yJ6_bitCount_0f7a4 cJ6_bitCount_0f7a4 1 (some .int), Cond.constant RJ6 265 (1431655765), Cond.constant RJ6 266 (858993459), Cond.constant RJ6 267 (252645135), Cond.methodLink RX3 159 yX3_leastFood, Cond.instanceMethod yX3_leastFood, Cond.selects RX3 yX3_leastFood yX3_leastFood, Cond.code yX3_leastFood cX3_leastFood 6 (some .int), Cond.methodLink RX3 214 yX3_mostFoodOf]
def wsX3_fewest_r2 : List Cond := [Cond.instanceMethod yX3_mostFoodOf, Cond.selects RX3 yX3_mostFoodOf yX3_mostFoodOf, Cond.code yX3_mostFoodOf cX3_mostFoodOf 2 (some .int), Cond.fieldLink RX3 91 "ColdDepots" "PULLS" "[I", Cond.methodLink RX3 209 Lib.Math.min.name, Cond.static Lib.Math.min.name, Cond.initialized "java/lang/Math", Cond.code Lib.Math.min.name Lib.Math.min.code 2 (some .int), Cond.instanceMethod yX1_together, Cond.selects RX1 yX1_together yX1_together, Cond.code yX1_together cX1_together 5 (some .int), Cond.fieldLink RX1 9 "ColdDepots$Party" "kinds" "[I", Cond.static yX3_at, Cond.code yX3_at cX3_at 2 (some .int), Cond.instanceMethod yX1_setCairns, Cond.selects RX1 yX1_setCairns yX1_setCairns, Cond.code yX1_setCairns cX1_setCairns 2 none, Cond.fieldLink RX1 15 "ColdDepots$Party" "cairns" "[I", Cond.static yX3_copy, Cond.code yX3_copy cX3_copy 3 none, Cond.methodLink RX3 87 yX3_at, Cond.methodLink RX3 66 yX3_put, Cond.static yX3_put, Cond.code yX3_put cX3_put 3 none]
def wsX3_fewest_r3 : List Cond := [Cond.instanceMethod yX1_go, Cond.selects RX1 yX1_go yX1_go, Cond.code yX1_go cX1_go 6 (some .boolean), Cond.fieldLink RX1 40 "ColdDepots$Party" "alive" "I", Cond.fieldLink RX1 43 "ColdDepots$Party" "food" "I", Cond.fieldLink RX1 46 "ColdDepots$Party" "eat" "I", Cond.methodLink RX1 30 yX1_setOut, Cond.instanceMethod yX1_setOut, Cond.selects RX1 yX1_setOut yX1_setOut, Cond.code yX1_setOut cX1_setOut 3 none, Cond.fieldLink RX1 63 "ColdDepots$Party" "pull" "I", Cond.methodLink RX1 69 Lib.Math.min.name, Cond.fieldLink RX1 75 "ColdDepots$Party" "diedOn" "I", Cond.methodLink RX1 59 yX1_together, Cond.methodLink RX1 34 yX1_eatPonies, Cond.instanceMethod yX1_eatPonies, Cond.selects RX1 yX1_eatPonies yX1_eatPonies, Cond.code yX1_eatPonies cX1_eatPonies 2 none, Cond.methodLink RX1 78 yX1_devour, Cond.instanceMethod yX1_devour, Cond.selects RX1 yX1_devour yX1_devour, Cond.code yX1_devour cX1_devour 3 none, Cond.methodLink RX1 37 yX1_eatBeasts, Cond.instanceMethod yX1_eatBeasts]
def wsX3_fewest_r4 : List Cond := [Cond.selects RX1 yX1_eatBeasts yX1_eatBeasts, Cond.code yX1_eatBeasts cX1_eatBeasts 3 none, Cond.static yX3_isOf, Cond.code yX3_isOf cX3_isOf 2 (some .boolean), Cond.methodLink RX1 49 yX1_dieOn, Cond.instanceMethod yX1_dieOn, Cond.selects RX1 yX1_dieOn yX1_dieOn, Cond.code yX1_dieOn cX1_dieOn 2 none, Cond.methodLink RX1 53 yX1_takeUpAt, Cond.instanceMethod yX1_takeUpAt, Cond.selects RX1 yX1_takeUpAt yX1_takeUpAt, Cond.code yX1_takeUpAt cX1_takeUpAt 3 none]
def wsX3_fewest : List Cond := .code yX3_fewest cX3_fewest 6 (some .int) :: ((wsX3_fewest_r1 ++ (wsX3_fewest_r2 ++ (wsX3_fewest_r3 ++ wsX3_fewest_r4))) ++ wsX30 ++ wsX20 ++ wsX10)
def wsX3_team_r1 : List Cond := [Cond.fieldLink RX3 19 "ColdDepots" "party" "LColdDepots$Party;", Cond.fieldLink RX3 167 "ColdDepots" "teamsDone" "I", Cond.methodLink RX3 156 yX3_isNoStage, Cond.static yX3_isNoStage, Cond.initialized RX3, Cond.code yX3_isNoStage cX3_isNoStage 1 (some .boolean), Cond.methodLink RX3 170 yX3_fewest, Cond.instanceMethod yX3_fewest, Cond.selects RX3 yX3_fewest yX3_fewest, Cond.code yX3_fewest cX3_fewest 6 (some .int), Cond.fieldLink RX3 26 "ColdDepots" "now" "LColdDepots$Standing;", Cond.instanceMethod yX1_all, Cond.initialized RX1, Cond.selects RX1 yX1_all yX1_all, Cond.code yX1_all cX1_all 1 (some .int), Cond.fieldLink RX1 18 "ColdDepots$Party" "size" "I", Cond.methodLink RX3 121 yX3_anyIsDead, Cond.instanceMethod yX3_anyIsDead, Cond.selects RX3 yX3_anyIsDead yX3_anyIsDead, Cond.code yX3_anyIsDead cX3_anyIsDead 2 (some .boolean), Cond.methodLink RX3 187 yJ6_bitCount_0f7a4, Cond.static yJ6_bitCount_0f7a4, Cond.initialized RJ6, Cond.code yJ6_bitCount_0f7a4 cJ6_bitCount_0f7a4 1 (some .int)]
def wsX3_team_r2 : List Cond := [Cond.constant RJ6 265 (1431655765), Cond.constant RJ6 266 (858993459), Cond.constant RJ6 267 (252645135), Cond.methodLink RX3 159 yX3_leastFood, Cond.instanceMethod yX3_leastFood, Cond.selects RX3 yX3_leastFood yX3_leastFood, Cond.code yX3_leastFood cX3_leastFood 6 (some .int), Cond.methodLink RX3 214 yX3_mostFoodOf, Cond.instanceMethod yX3_mostFoodOf, Cond.selects RX3 yX3_mostFoodOf yX3_mostFoodOf, Cond.code yX3_mostFoodOf cX3_mostFoodOf 2 (some .int), Cond.fieldLink RX3 91 "ColdDepots" "PULLS" "[I", Cond.methodLink RX3 209 Lib.Math.min.name, Cond.static Lib.Math.min.name, Cond.initialized "java/lang/Math", Cond.code Lib.Math.min.name Lib.Math.min.code 2 (some .int), Cond.instanceMethod yX1_together, Cond.selects RX1 yX1_together yX1_together, Cond.code yX1_together cX1_together 5 (some .int), Cond.fieldLink RX1 9 "ColdDepots$Party" "kinds" "[I", Cond.static yX3_at, Cond.code yX3_at cX3_at 2 (some .int), Cond.instanceMethod yX1_setCairns, Cond.selects RX1 yX1_setCairns yX1_setCairns]
def wsX3_team_r3 : List Cond := [Cond.code yX1_setCairns cX1_setCairns 2 none, Cond.fieldLink RX1 15 "ColdDepots$Party" "cairns" "[I", Cond.static yX3_copy, Cond.code yX3_copy cX3_copy 3 none, Cond.methodLink RX3 87 yX3_at, Cond.methodLink RX3 66 yX3_put, Cond.static yX3_put, Cond.code yX3_put cX3_put 3 none, Cond.instanceMethod yX1_go, Cond.selects RX1 yX1_go yX1_go, Cond.code yX1_go cX1_go 6 (some .boolean), Cond.fieldLink RX1 40 "ColdDepots$Party" "alive" "I", Cond.fieldLink RX1 43 "ColdDepots$Party" "food" "I", Cond.fieldLink RX1 46 "ColdDepots$Party" "eat" "I", Cond.methodLink RX1 30 yX1_setOut, Cond.instanceMethod yX1_setOut, Cond.selects RX1 yX1_setOut yX1_setOut, Cond.code yX1_setOut cX1_setOut 3 none, Cond.fieldLink RX1 63 "ColdDepots$Party" "pull" "I", Cond.methodLink RX1 69 Lib.Math.min.name, Cond.fieldLink RX1 75 "ColdDepots$Party" "diedOn" "I", Cond.methodLink RX1 59 yX1_together, Cond.methodLink RX1 34 yX1_eatPonies, Cond.instanceMethod yX1_eatPonies]
def wsX3_team_r4 : List Cond := [Cond.selects RX1 yX1_eatPonies yX1_eatPonies, Cond.code yX1_eatPonies cX1_eatPonies 2 none, Cond.methodLink RX1 78 yX1_devour, Cond.instanceMethod yX1_devour, Cond.selects RX1 yX1_devour yX1_devour, Cond.code yX1_devour cX1_devour 3 none, Cond.methodLink RX1 37 yX1_eatBeasts, Cond.instanceMethod yX1_eatBeasts, Cond.selects RX1 yX1_eatBeasts yX1_eatBeasts, Cond.code yX1_eatBeasts cX1_eatBeasts 3 none, Cond.static yX3_isOf, Cond.code yX3_isOf cX3_isOf 2 (some .boolean), Cond.methodLink RX1 49 yX1_dieOn, Cond.instanceMethod yX1_dieOn, Cond.selects RX1 yX1_dieOn yX1_dieOn, Cond.code yX1_dieOn cX1_dieOn 2 none, Cond.methodLink RX1 53 yX1_takeUpAt, Cond.instanceMethod yX1_takeUpAt, Cond.selects RX1 yX1_takeUpAt yX1_takeUpAt, Cond.code yX1_takeUpAt cX1_takeUpAt 3 none]
def wsX3_team : List Cond := .code yX3_team cX3_team 2 (some .int) :: ((wsX3_team_r1 ++ (wsX3_team_r2 ++ (wsX3_team_r3 ++ wsX3_team_r4))) ++ wsX30 ++ wsX10 ++ wsX20)
def wsX3_hear_r1 : List Cond := [Cond.fieldLink RX3 26 "ColdDepots" "now" "LColdDepots$Standing;", Cond.methodLink RX3 117 yX3_isNoMarch, Cond.instanceMethod yX3_isNoMarch, Cond.selects RX3 yX3_isNoMarch yX3_isNoMarch, Cond.initialized RX3, Cond.code yX3_isNoMarch cX3_isNoMarch 4 (some .boolean), Cond.methodLink RX3 153 yX3_isNobody, Cond.instanceMethod yX3_isNobody, Cond.selects RX3 yX3_isNobody yX3_isNobody, Cond.code yX3_isNobody cX3_isNobody 2 (some .boolean), Cond.fieldLink RX3 19 "ColdDepots" "party" "LColdDepots$Party;", Cond.instanceMethod yX1_all, Cond.initialized RX1, Cond.selects RX1 yX1_all yX1_all, Cond.code yX1_all cX1_all 1 (some .int), Cond.fieldLink RX1 18 "ColdDepots$Party" "size" "I", Cond.methodLink RX3 156 yX3_isNoStage, Cond.static yX3_isNoStage, Cond.code yX3_isNoStage cX3_isNoStage 1 (some .boolean), Cond.instanceMethod yX2_note, Cond.initialized RX2, Cond.selects RX2 yX2_note yX2_note, Cond.code yX2_note cX2_note 5 none, Cond.fieldLink RX2 15 "ColdDepots$Standing" "heardMembers" "[I"]
def wsX3_hear_r2 : List Cond := [Cond.fieldLink RX2 37 "ColdDepots$Standing" "heard" "I", Cond.fieldLink RX2 18 "ColdDepots$Standing" "heardStages" "[I", Cond.fieldLink RX2 21 "ColdDepots$Standing" "heardFoods" "[I", Cond.fieldLink RX2 24 "ColdDepots$Standing" "heardHomes" "[I", Cond.static yX3_put, Cond.code yX3_put cX3_put 3 none]
def wsX3_hear : List Cond := .code yX3_hear cX3_hear 5 (some .int) :: ((wsX3_hear_r1 ++ wsX3_hear_r2) ++ wsX30 ++ wsX20 ++ wsX10)
def wsX3_forget : List Cond := .code yX3_forget cX3_forget 2 (some .int) :: ([.fieldLink RX3 26 "ColdDepots" "now" "LColdDepots$Standing;"] ++ wsX30 ++ wsX20)
def wsX3_nextSeed : List Cond := .code yX3_nextSeed cX3_nextSeed 1 (some .int) :: ([.constant RX3 242 (1103515245), .constant RX3 243 (2147483647)])
def wsX3_letCreep : List Cond := .code yX3_letCreep cX3_letCreep 7 (some .int) :: ([.fieldLink RX3 26 "ColdDepots" "now" "LColdDepots$Standing;", .fieldLink RX3 33 "ColdDepots" "wintered" "[I", .methodLink RX3 236 Lib.Math.max.name, .static Lib.Math.max.name, .initialized "java/lang/Math", .code Lib.Math.max.name Lib.Math.max.code 2 (some .int), .methodLink RX3 133 yX3_copy, .static yX3_copy, .initialized RX3, .code yX3_copy cX3_copy 3 none, .methodLink RX3 87 yX3_at, .static yX3_at, .code yX3_at cX3_at 2 (some .int), .methodLink RX3 66 yX3_put, .static yX3_put, .code yX3_put cX3_put 3 none, .methodLink RX3 239 yX3_nextSeed, .static yX3_nextSeed, .code yX3_nextSeed cX3_nextSeed 1 (some .int), .constant RX3 242 (1103515245), .constant RX3 243 (2147483647)] ++ wsX30 ++ wsX20)
def wsX3_winters_r1 : List Cond := [Cond.fieldLink RX3 19 "ColdDepots" "party" "LColdDepots$Party;", Cond.fieldLink RX3 33 "ColdDepots" "wintered" "[I", Cond.fieldLink RX3 26 "ColdDepots" "now" "LColdDepots$Standing;", Cond.methodLink RX3 180 yX3_letCreep, Cond.instanceMethod yX3_letCreep, Cond.selects RX3 yX3_letCreep yX3_letCreep, Cond.initialized RX3, Cond.code yX3_letCreep cX3_letCreep 7 (some .int), Cond.methodLink RX3 236 Lib.Math.max.name, Cond.static Lib.Math.max.name, Cond.initialized "java/lang/Math", Cond.code Lib.Math.max.name Lib.Math.max.code 2 (some .int), Cond.methodLink RX3 133 yX3_copy, Cond.static yX3_copy, Cond.code yX3_copy cX3_copy 3 none, Cond.methodLink RX3 87 yX3_at, Cond.static yX3_at, Cond.code yX3_at cX3_at 2 (some .int), Cond.methodLink RX3 66 yX3_put, Cond.static yX3_put, Cond.code yX3_put cX3_put 3 none, Cond.methodLink RX3 239 yX3_nextSeed, Cond.static yX3_nextSeed, Cond.code yX3_nextSeed cX3_nextSeed 1 (some .int)]
def wsX3_winters_r2 : List Cond := [Cond.constant RX3 242 (1103515245), Cond.constant RX3 243 (2147483647), Cond.methodLink RX3 146 yX3_sum, Cond.static yX3_sum, Cond.code yX3_sum cX3_sum 3 (some .int), Cond.methodLink RX3 163 yX3_farthest, Cond.instanceMethod yX3_farthest, Cond.selects RX3 yX3_farthest yX3_farthest, Cond.code yX3_farthest cX3_farthest 4 (some .int), Cond.methodLink RX3 159 yX3_leastFood, Cond.instanceMethod yX3_leastFood, Cond.selects RX3 yX3_leastFood yX3_leastFood, Cond.code yX3_leastFood cX3_leastFood 6 (some .int), Cond.methodLink RX3 214 yX3_mostFoodOf, Cond.instanceMethod yX3_mostFoodOf, Cond.selects RX3 yX3_mostFoodOf yX3_mostFoodOf, Cond.code yX3_mostFoodOf cX3_mostFoodOf 2 (some .int), Cond.fieldLink RX3 91 "ColdDepots" "PULLS" "[I", Cond.methodLink RX3 209 Lib.Math.min.name, Cond.static Lib.Math.min.name, Cond.code Lib.Math.min.name Lib.Math.min.code 2 (some .int), Cond.instanceMethod yX1_together, Cond.initialized RX1, Cond.selects RX1 yX1_together yX1_together]
def wsX3_winters_r3 : List Cond := [Cond.code yX1_together cX1_together 5 (some .int), Cond.fieldLink RX1 18 "ColdDepots$Party" "size" "I", Cond.fieldLink RX1 9 "ColdDepots$Party" "kinds" "[I", Cond.instanceMethod yX1_setCairns, Cond.selects RX1 yX1_setCairns yX1_setCairns, Cond.code yX1_setCairns cX1_setCairns 2 none, Cond.fieldLink RX1 15 "ColdDepots$Party" "cairns" "[I", Cond.instanceMethod yX1_go, Cond.selects RX1 yX1_go yX1_go, Cond.code yX1_go cX1_go 6 (some .boolean), Cond.fieldLink RX1 40 "ColdDepots$Party" "alive" "I", Cond.fieldLink RX1 43 "ColdDepots$Party" "food" "I", Cond.fieldLink RX1 46 "ColdDepots$Party" "eat" "I", Cond.methodLink RX1 30 yX1_setOut, Cond.instanceMethod yX1_setOut, Cond.selects RX1 yX1_setOut yX1_setOut, Cond.code yX1_setOut cX1_setOut 3 none, Cond.fieldLink RX1 63 "ColdDepots$Party" "pull" "I", Cond.methodLink RX1 69 Lib.Math.min.name, Cond.fieldLink RX1 75 "ColdDepots$Party" "diedOn" "I", Cond.methodLink RX1 59 yX1_together, Cond.methodLink RX1 34 yX1_eatPonies, Cond.instanceMethod yX1_eatPonies, Cond.selects RX1 yX1_eatPonies yX1_eatPonies]
def wsX3_winters_r4 : List Cond := [Cond.code yX1_eatPonies cX1_eatPonies 2 none, Cond.methodLink RX1 78 yX1_devour, Cond.instanceMethod yX1_devour, Cond.selects RX1 yX1_devour yX1_devour, Cond.code yX1_devour cX1_devour 3 none, Cond.methodLink RX1 37 yX1_eatBeasts, Cond.instanceMethod yX1_eatBeasts, Cond.selects RX1 yX1_eatBeasts yX1_eatBeasts, Cond.code yX1_eatBeasts cX1_eatBeasts 3 none, Cond.static yX3_isOf, Cond.code yX3_isOf cX3_isOf 2 (some .boolean), Cond.methodLink RX1 49 yX1_dieOn, Cond.instanceMethod yX1_dieOn, Cond.selects RX1 yX1_dieOn yX1_dieOn, Cond.code yX1_dieOn cX1_dieOn 2 none, Cond.methodLink RX1 53 yX1_takeUpAt, Cond.instanceMethod yX1_takeUpAt, Cond.selects RX1 yX1_takeUpAt yX1_takeUpAt, Cond.code yX1_takeUpAt cX1_takeUpAt 3 none]
def wsX3_winters : List Cond := .code yX3_winters cX3_winters 5 (some .int) :: ((wsX3_winters_r1 ++ (wsX3_winters_r2 ++ (wsX3_winters_r3 ++ wsX3_winters_r4))) ++ wsX30 ++ wsX10 ++ wsX20)
def wsX3_image_r1 : List Cond := [Cond.fieldLink RX3 19 "ColdDepots" "party" "LColdDepots$Party;", Cond.fieldLink RX3 30 "ColdDepots" "kept" "LColdDepots$Standing;", Cond.fieldLink RX3 26 "ColdDepots" "now" "LColdDepots$Standing;", Cond.fieldLink RX3 80 "ColdDepots" "imageKept" "Z", Cond.instanceMethod yX2_takeFrom, Cond.initialized RX2, Cond.selects RX2 yX2_takeFrom yX2_takeFrom, Cond.code yX2_takeFrom cX2_takeFrom 2 none, Cond.fieldLink RX2 27 "ColdDepots$Standing" "alive" "I", Cond.fieldLink RX2 31 "ColdDepots$Standing" "marches" "I", Cond.fieldLink RX2 34 "ColdDepots$Standing" "comingsHome" "I", Cond.fieldLink RX2 37 "ColdDepots$Standing" "heard" "I", Cond.fieldLink RX2 9 "ColdDepots$Standing" "cairns" "[I", Cond.fieldLink RX2 15 "ColdDepots$Standing" "heardMembers" "[I", Cond.fieldLink RX2 18 "ColdDepots$Standing" "heardStages" "[I", Cond.fieldLink RX2 21 "ColdDepots$Standing" "heardFoods" "[I", Cond.fieldLink RX2 24 "ColdDepots$Standing" "heardHomes" "[I", Cond.static yX3_copy, Cond.initialized RX3, Cond.code yX3_copy cX3_copy 3 none, Cond.methodLink RX3 87 yX3_at, Cond.static yX3_at, Cond.code yX3_at cX3_at 2 (some .int), Cond.methodLink RX3 66 yX3_put]
def wsX3_image_r2 : List Cond := [Cond.static yX3_put, Cond.code yX3_put cX3_put 3 none]
def wsX3_image : List Cond := .code yX3_image cX3_image 1 (some .int) :: ((wsX3_image_r1 ++ wsX3_image_r2) ++ wsX30 ++ wsX10 ++ wsX20)
def wsX3_restore_r1 : List Cond := [Cond.fieldLink RX3 80 "ColdDepots" "imageKept" "Z", Cond.fieldLink RX3 26 "ColdDepots" "now" "LColdDepots$Standing;", Cond.fieldLink RX3 30 "ColdDepots" "kept" "LColdDepots$Standing;", Cond.instanceMethod yX2_takeFrom, Cond.initialized RX2, Cond.selects RX2 yX2_takeFrom yX2_takeFrom, Cond.code yX2_takeFrom cX2_takeFrom 2 none, Cond.fieldLink RX2 27 "ColdDepots$Standing" "alive" "I", Cond.fieldLink RX2 31 "ColdDepots$Standing" "marches" "I", Cond.fieldLink RX2 34 "ColdDepots$Standing" "comingsHome" "I", Cond.fieldLink RX2 37 "ColdDepots$Standing" "heard" "I", Cond.fieldLink RX2 9 "ColdDepots$Standing" "cairns" "[I", Cond.fieldLink RX2 15 "ColdDepots$Standing" "heardMembers" "[I", Cond.fieldLink RX2 18 "ColdDepots$Standing" "heardStages" "[I", Cond.fieldLink RX2 21 "ColdDepots$Standing" "heardFoods" "[I", Cond.fieldLink RX2 24 "ColdDepots$Standing" "heardHomes" "[I", Cond.static yX3_copy, Cond.initialized RX3, Cond.code yX3_copy cX3_copy 3 none, Cond.methodLink RX3 87 yX3_at, Cond.static yX3_at, Cond.code yX3_at cX3_at 2 (some .int), Cond.methodLink RX3 66 yX3_put, Cond.static yX3_put]
def wsX3_restore_r2 : List Cond := [Cond.code yX3_put cX3_put 3 none]
def wsX3_restore : List Cond := .code yX3_restore cX3_restore 1 (some .int) :: ((wsX3_restore_r1 ++ wsX3_restore_r2) ++ wsX30 ++ wsX20)
def wsX3_count_r1 : List Cond := [Cond.fieldLink RX3 19 "ColdDepots" "party" "LColdDepots$Party;", Cond.fieldLink RX3 26 "ColdDepots" "now" "LColdDepots$Standing;", Cond.fieldLink RX3 91 "ColdDepots" "PULLS" "[I", Cond.fieldLink RX3 94 "ColdDepots" "EATS" "[I", Cond.fieldLink RX3 10 "ColdDepots" "page" "LColdDepots$Page;", Cond.fieldLink RX3 84 "ColdDepots" "campsRead" "I", Cond.fieldLink RX3 167 "ColdDepots" "teamsDone" "I", Cond.methodLink RX3 187 yJ6_bitCount_0f7a4, Cond.static yJ6_bitCount_0f7a4, Cond.initialized RJ6, Cond.code yJ6_bitCount_0f7a4 cJ6_bitCount_0f7a4 1 (some .int), Cond.constant RJ6 265 (1431655765), Cond.constant RJ6 266 (858993459), Cond.constant RJ6 267 (252645135), Cond.methodLink RX3 146 yX3_sum, Cond.static yX3_sum, Cond.initialized RX3, Cond.code yX3_sum cX3_sum 3 (some .int), Cond.instanceMethod yX1_together, Cond.initialized RX1, Cond.selects RX1 yX1_together yX1_together, Cond.code yX1_together cX1_together 5 (some .int), Cond.fieldLink RX1 18 "ColdDepots$Party" "size" "I", Cond.fieldLink RX1 9 "ColdDepots$Party" "kinds" "[I"]
def wsX3_count_r2 : List Cond := [Cond.static yX3_at, Cond.code yX3_at cX3_at 2 (some .int)]
def wsX3_count : List Cond := .code yX3_count cX3_count 2 (some .int) :: ((wsX3_count_r1 ++ wsX3_count_r2) ++ wsX30 ++ wsX10 ++ wsX20 ++ wsX00)
def wsX3_digest_r1 : List Cond := [Cond.constantLong RX3 195 (1051), Cond.fieldLink RX3 19 "ColdDepots" "party" "LColdDepots$Party;", Cond.constantLong RX3 197 (31), Cond.fieldLink RX3 26 "ColdDepots" "now" "LColdDepots$Standing;", Cond.fieldLink RX3 10 "ColdDepots" "page" "LColdDepots$Page;", Cond.methodLink RX3 199 yX3_member, Cond.instanceMethod yX3_member, Cond.selects RX3 yX3_member yX3_member, Cond.initialized RX3, Cond.code yX3_member cX3_member 4 (some .int), Cond.fieldLink RX3 91 "ColdDepots" "PULLS" "[I", Cond.fieldLink RX3 94 "ColdDepots" "EATS" "[I", Cond.fieldLink RX3 97 "ColdDepots" "FEEDS" "[I", Cond.methodLink RX3 87 yX3_at, Cond.static yX3_at, Cond.code yX3_at cX3_at 2 (some .int), Cond.methodLink RX3 110 yX3_amountsAt, Cond.instanceMethod yX3_amountsAt, Cond.selects RX3 yX3_amountsAt yX3_amountsAt, Cond.code yX3_amountsAt cX3_amountsAt 4 (some .int), Cond.methodLink RX3 217 yX3_isAllSo, Cond.instanceMethod yX3_isAllSo, Cond.selects RX3 yX3_isAllSo yX3_isAllSo, Cond.code yX3_isAllSo cX3_isAllSo 6 (some .boolean)]
def wsX3_digest_r2 : List Cond := [Cond.instanceMethod yX1_setCairns, Cond.initialized RX1, Cond.selects RX1 yX1_setCairns yX1_setCairns, Cond.code yX1_setCairns cX1_setCairns 2 none, Cond.fieldLink RX1 15 "ColdDepots$Party" "cairns" "[I", Cond.static yX3_copy, Cond.code yX3_copy cX3_copy 3 none, Cond.methodLink RX3 66 yX3_put, Cond.static yX3_put, Cond.code yX3_put cX3_put 3 none, Cond.instanceMethod yX1_go, Cond.selects RX1 yX1_go yX1_go, Cond.code yX1_go cX1_go 6 (some .boolean), Cond.fieldLink RX1 40 "ColdDepots$Party" "alive" "I", Cond.fieldLink RX1 43 "ColdDepots$Party" "food" "I", Cond.fieldLink RX1 46 "ColdDepots$Party" "eat" "I", Cond.methodLink RX1 30 yX1_setOut, Cond.instanceMethod yX1_setOut, Cond.selects RX1 yX1_setOut yX1_setOut, Cond.code yX1_setOut cX1_setOut 3 none, Cond.fieldLink RX1 63 "ColdDepots$Party" "pull" "I", Cond.methodLink RX1 69 Lib.Math.min.name, Cond.static Lib.Math.min.name, Cond.initialized "java/lang/Math"]
def wsX3_digest_r3 : List Cond := [Cond.code Lib.Math.min.name Lib.Math.min.code 2 (some .int), Cond.fieldLink RX1 75 "ColdDepots$Party" "diedOn" "I", Cond.methodLink RX1 59 yX1_together, Cond.instanceMethod yX1_together, Cond.selects RX1 yX1_together yX1_together, Cond.code yX1_together cX1_together 5 (some .int), Cond.fieldLink RX1 18 "ColdDepots$Party" "size" "I", Cond.fieldLink RX1 9 "ColdDepots$Party" "kinds" "[I", Cond.methodLink RX1 34 yX1_eatPonies, Cond.instanceMethod yX1_eatPonies, Cond.selects RX1 yX1_eatPonies yX1_eatPonies, Cond.code yX1_eatPonies cX1_eatPonies 2 none, Cond.methodLink RX1 78 yX1_devour, Cond.instanceMethod yX1_devour, Cond.selects RX1 yX1_devour yX1_devour, Cond.code yX1_devour cX1_devour 3 none, Cond.methodLink RX1 37 yX1_eatBeasts, Cond.instanceMethod yX1_eatBeasts, Cond.selects RX1 yX1_eatBeasts yX1_eatBeasts, Cond.code yX1_eatBeasts cX1_eatBeasts 3 none, Cond.static yX3_isOf, Cond.code yX3_isOf cX3_isOf 2 (some .boolean), Cond.methodLink RX1 49 yX1_dieOn, Cond.instanceMethod yX1_dieOn]
def wsX3_digest_r4 : List Cond := [Cond.selects RX1 yX1_dieOn yX1_dieOn, Cond.code yX1_dieOn cX1_dieOn 2 none, Cond.methodLink RX1 53 yX1_takeUpAt, Cond.instanceMethod yX1_takeUpAt, Cond.selects RX1 yX1_takeUpAt yX1_takeUpAt, Cond.code yX1_takeUpAt cX1_takeUpAt 3 none, Cond.methodLink RX3 113 yX3_bestTrial, Cond.instanceMethod yX3_bestTrial, Cond.selects RX3 yX3_bestTrial yX3_bestTrial, Cond.code yX3_bestTrial cX3_bestTrial 8 (some .int), Cond.methodLink RX3 187 yJ6_bitCount_0f7a4, Cond.static yJ6_bitCount_0f7a4, Cond.initialized RJ6, Cond.code yJ6_bitCount_0f7a4 cJ6_bitCount_0f7a4 1 (some .int), Cond.constant RJ6 265 (1431655765), Cond.constant RJ6 266 (858993459), Cond.constant RJ6 267 (252645135), Cond.instanceMethod yX1_all, Cond.selects RX1 yX1_all yX1_all, Cond.code yX1_all cX1_all 1 (some .int), Cond.methodLink RX3 214 yX3_mostFoodOf, Cond.instanceMethod yX3_mostFoodOf, Cond.selects RX3 yX3_mostFoodOf yX3_mostFoodOf, Cond.code yX3_mostFoodOf cX3_mostFoodOf 2 (some .int)]
def wsX3_digest_r5 : List Cond := [Cond.methodLink RX3 209 Lib.Math.min.name, Cond.methodLink RX3 232 yX3_leftAtWorst, Cond.instanceMethod yX3_leftAtWorst, Cond.selects RX3 yX3_leftAtWorst yX3_leftAtWorst, Cond.code yX3_leftAtWorst cX3_leftAtWorst 6 (some .int), Cond.methodLink RX3 236 Lib.Math.max.name, Cond.static Lib.Math.max.name, Cond.code Lib.Math.max.name Lib.Math.max.code 2 (some .int), Cond.methodLink RX3 163 yX3_farthest, Cond.instanceMethod yX3_farthest, Cond.selects RX3 yX3_farthest yX3_farthest, Cond.code yX3_farthest cX3_farthest 4 (some .int), Cond.methodLink RX3 159 yX3_leastFood, Cond.instanceMethod yX3_leastFood, Cond.selects RX3 yX3_leastFood yX3_leastFood, Cond.code yX3_leastFood cX3_leastFood 6 (some .int), Cond.methodLink RX3 202 yX3_would, Cond.instanceMethod yX3_would, Cond.selects RX3 yX3_would yX3_would, Cond.code yX3_would cX3_would 5 (some .int), Cond.methodLink RX3 117 yX3_isNoMarch, Cond.instanceMethod yX3_isNoMarch, Cond.selects RX3 yX3_isNoMarch yX3_isNoMarch, Cond.code yX3_isNoMarch cX3_isNoMarch 4 (some .boolean)]
def wsX3_digest_r6 : List Cond := [Cond.methodLink RX3 153 yX3_isNobody, Cond.instanceMethod yX3_isNobody, Cond.selects RX3 yX3_isNobody yX3_isNobody, Cond.code yX3_isNobody cX3_isNobody 2 (some .boolean), Cond.methodLink RX3 156 yX3_isNoStage, Cond.static yX3_isNoStage, Cond.code yX3_isNoStage cX3_isNoStage 1 (some .boolean), Cond.methodLink RX3 121 yX3_anyIsDead, Cond.instanceMethod yX3_anyIsDead, Cond.selects RX3 yX3_anyIsDead yX3_anyIsDead, Cond.code yX3_anyIsDead cX3_anyIsDead 2 (some .boolean), Cond.methodLink RX3 146 yX3_sum, Cond.static yX3_sum, Cond.code yX3_sum cX3_sum 3 (some .int), Cond.instanceMethod yX0_codeAt, Cond.initialized RX0, Cond.selects RX0 yX0_codeAt yX0_codeAt, Cond.code yX0_codeAt cX0_codeAt 2 (some .int), Cond.fieldLink RX0 9 "ColdDepots$Page" "codes" "[I", Cond.methodLink RX3 206 yX3_count, Cond.instanceMethod yX3_count, Cond.selects RX3 yX3_count yX3_count, Cond.code yX3_count cX3_count 2 (some .int), Cond.fieldLink RX3 84 "ColdDepots" "campsRead" "I"]
def wsX3_digest_r7 : List Cond := [Cond.fieldLink RX3 167 "ColdDepots" "teamsDone" "I"]
def wsX3_digest : List Cond := .code yX3_digest cX3_digest 5 (some .long) :: ((wsX3_digest_r1 ++ (wsX3_digest_r2 ++ (wsX3_digest_r3 ++ (wsX3_digest_r4 ++ (wsX3_digest_r5 ++ (wsX3_digest_r6 ++ wsX3_digest_r7)))))) ++ wsX30 ++ wsX10 ++ wsX20 ++ wsX00)
def wsX4_init : List Cond := .code yX4_init cX4_init 1 none :: ([.methodLink RX4 1 objectInit, .instanceMethod objectInit, .code objectInit ⟨#[0xb1]⟩ 1 none, .arrayClass .int, .fieldLink RX4 7 "ColdDepotsModel" "page" "[I", .fieldLink RX4 13 "ColdDepotsModel" "kinds" "[I", .fieldLink RX4 16 "ColdDepotsModel" "foods" "[I", .fieldLink RX4 19 "ColdDepotsModel" "left" "[I", .fieldLink RX4 22 "ColdDepotsModel" "heards" "[I", .fieldLink RX4 25 "ColdDepotsModel" "other" "[I", .fieldLink RX4 28 "ColdDepotsModel" "then" "[I", .fieldLink RX4 31 "ColdDepotsModel" "keptFoods" "[I", .fieldLink RX4 34 "ColdDepotsModel" "keptHeards" "[I", .fieldLink RX4 37 "ColdDepotsModel" "keptCamp" "I"] ++ wsX40)
def wsX4_in : List Cond := .code yX4_in cX4_in 6 (some .boolean) :: ([])
def wsX4_copy : List Cond := .code yX4_copy cX4_copy 3 none :: ([])
def wsX4_ones : List Cond := .code yX4_ones cX4_ones 3 (some .int) :: ([])
def wsX4_letter : List Cond := .code yX4_letter cX4_letter 2 (some .int) :: ([.constantLong RX4 41 (126), .fieldLink RX4 47 "ColdDepotsModel" "pageMany" "I", .fieldLink RX4 7 "ColdDepotsModel" "page" "[I", .methodLink RX4 43 yX4_in, .static yX4_in, .initialized RX4, .code yX4_in cX4_in 6 (some .boolean)] ++ wsX40)
def wsX4_blank : List Cond := .code yX4_blank cX4_blank 2 (some .int) :: ([.fieldLink RX4 47 "ColdDepotsModel" "pageMany" "I"] ++ wsX40)
def wsX4_kindBy : List Cond := .code yX4_kindBy cX4_kindBy 1 (some .int) :: ([])
def wsX4_isGood : List Cond := .code yX4_isGood cX4_isGood 3 (some .boolean) :: ([.fieldLink RX4 7 "ColdDepotsModel" "page" "[I", .fieldLink RX4 50 "ColdDepotsModel" "endAt" "I", .constantLong RX4 53 (48), .constantLong RX4 55 (57), .methodLink RX4 43 yX4_in, .static yX4_in, .initialized RX4, .code yX4_in cX4_in 6 (some .boolean), .methodLink RX4 57 yX4_kindBy, .static yX4_kindBy, .code yX4_kindBy cX4_kindBy 1 (some .int)] ++ wsX40)
def wsX4_faultOf : List Cond := .code yX4_faultOf cX4_faultOf 2 (some .int) :: ([.fieldLink RX4 50 "ColdDepotsModel" "endAt" "I", .fieldLink RX4 47 "ColdDepotsModel" "pageMany" "I", .methodLink RX4 61 yX4_isGood, .instanceMethod yX4_isGood, .selects RX4 yX4_isGood yX4_isGood, .initialized RX4, .code yX4_isGood cX4_isGood 3 (some .boolean), .fieldLink RX4 7 "ColdDepotsModel" "page" "[I", .constantLong RX4 53 (48), .constantLong RX4 55 (57), .methodLink RX4 43 yX4_in, .static yX4_in, .code yX4_in cX4_in 6 (some .boolean), .methodLink RX4 57 yX4_kindBy, .static yX4_kindBy, .code yX4_kindBy cX4_kindBy 1 (some .int)] ++ wsX40)
def wsX4_fault : List Cond := .code yX4_fault cX4_fault 1 (some .int) :: ([.methodLink RX4 65 yX4_faultOf, .instanceMethod yX4_faultOf, .selects RX4 yX4_faultOf yX4_faultOf, .initialized RX4, .code yX4_faultOf cX4_faultOf 2 (some .int), .fieldLink RX4 50 "ColdDepotsModel" "endAt" "I", .fieldLink RX4 47 "ColdDepotsModel" "pageMany" "I", .methodLink RX4 61 yX4_isGood, .instanceMethod yX4_isGood, .selects RX4 yX4_isGood yX4_isGood, .code yX4_isGood cX4_isGood 3 (some .boolean), .fieldLink RX4 7 "ColdDepotsModel" "page" "[I", .constantLong RX4 53 (48), .constantLong RX4 55 (57), .methodLink RX4 43 yX4_in, .static yX4_in, .code yX4_in cX4_in 6 (some .boolean), .methodLink RX4 57 yX4_kindBy, .static yX4_kindBy, .code yX4_kindBy cX4_kindBy 1 (some .int)] ++ wsX40)
def wsX4_camp_r1 : List Cond := [Cond.fieldLink RX4 47 "ColdDepotsModel" "pageMany" "I", Cond.fieldLink RX4 50 "ColdDepotsModel" "endAt" "I", Cond.fieldLink RX4 69 "ColdDepotsModel" "members" "I", Cond.fieldLink RX4 13 "ColdDepotsModel" "kinds" "[I", Cond.fieldLink RX4 7 "ColdDepotsModel" "page" "[I", Cond.fieldLink RX4 16 "ColdDepotsModel" "foods" "[I", Cond.fieldLink RX4 72 "ColdDepotsModel" "living" "I", Cond.fieldLink RX4 75 "ColdDepotsModel" "marches" "I", Cond.fieldLink RX4 78 "ColdDepotsModel" "cameHome" "I", Cond.fieldLink RX4 81 "ColdDepotsModel" "heardMany" "I", Cond.fieldLink RX4 84 "ColdDepotsModel" "campsRead" "I", Cond.methodLink RX4 65 yX4_faultOf, Cond.instanceMethod yX4_faultOf, Cond.selects RX4 yX4_faultOf yX4_faultOf, Cond.initialized RX4, Cond.code yX4_faultOf cX4_faultOf 2 (some .int), Cond.methodLink RX4 61 yX4_isGood, Cond.instanceMethod yX4_isGood, Cond.selects RX4 yX4_isGood yX4_isGood, Cond.code yX4_isGood cX4_isGood 3 (some .boolean), Cond.constantLong RX4 53 (48), Cond.constantLong RX4 55 (57), Cond.methodLink RX4 43 yX4_in, Cond.static yX4_in]
def wsX4_camp_r2 : List Cond := [Cond.code yX4_in cX4_in 6 (some .boolean), Cond.methodLink RX4 57 yX4_kindBy, Cond.static yX4_kindBy, Cond.code yX4_kindBy cX4_kindBy 1 (some .int)]
def wsX4_camp : List Cond := .code yX4_camp cX4_camp 2 (some .int) :: ((wsX4_camp_r1 ++ wsX4_camp_r2) ++ wsX40)
def wsX4_lacks : List Cond := .code yX4_lacks cX4_lacks 1 (some .boolean) :: ([.fieldLink RX4 69 "ColdDepotsModel" "members" "I"] ++ wsX40)
def wsX4_isMember : List Cond := .code yX4_isMember cX4_isMember 2 (some .boolean) :: ([.fieldLink RX4 69 "ColdDepotsModel" "members" "I", .methodLink RX4 43 yX4_in, .static yX4_in, .initialized RX4, .code yX4_in cX4_in 6 (some .boolean)] ++ wsX40)
def wsX4_isCairn : List Cond := .code yX4_isCairn cX4_isCairn 2 (some .boolean) :: ([.constantLong RX4 91 (5), .methodLink RX4 87 yX4_lacks, .instanceMethod yX4_lacks, .selects RX4 yX4_lacks yX4_lacks, .initialized RX4, .code yX4_lacks cX4_lacks 1 (some .boolean), .fieldLink RX4 69 "ColdDepotsModel" "members" "I", .methodLink RX4 43 yX4_in, .static yX4_in, .code yX4_in cX4_in 6 (some .boolean)] ++ wsX40)
def wsX4_areMembers : List Cond := .code yX4_areMembers cX4_areMembers 2 (some .boolean) :: ([.fieldLink RX4 69 "ColdDepotsModel" "members" "I", .methodLink RX4 43 yX4_in, .static yX4_in, .initialized RX4, .code yX4_in cX4_in 6 (some .boolean)] ++ wsX40)
def wsX4_pullsOf : List Cond := .code yX4_pullsOf cX4_pullsOf 2 (some .int) :: ([.fieldLink RX4 13 "ColdDepotsModel" "kinds" "[I"] ++ wsX40)
def wsX4_eatsOf : List Cond := .code yX4_eatsOf cX4_eatsOf 2 (some .int) :: ([.fieldLink RX4 13 "ColdDepotsModel" "kinds" "[I"] ++ wsX40)
def wsX4_feedsOf : List Cond := .code yX4_feedsOf cX4_feedsOf 2 (some .int) :: ([.fieldLink RX4 13 "ColdDepotsModel" "kinds" "[I"] ++ wsX40)
def wsX4_pullOf : List Cond := .code yX4_pullOf cX4_pullOf 4 (some .int) :: ([.fieldLink RX4 69 "ColdDepotsModel" "members" "I", .methodLink RX4 93 yX4_pullsOf, .instanceMethod yX4_pullsOf, .selects RX4 yX4_pullsOf yX4_pullsOf, .initialized RX4, .code yX4_pullsOf cX4_pullsOf 2 (some .int), .fieldLink RX4 13 "ColdDepotsModel" "kinds" "[I"] ++ wsX40)
def wsX4_eatOf : List Cond := .code yX4_eatOf cX4_eatOf 4 (some .int) :: ([.fieldLink RX4 69 "ColdDepotsModel" "members" "I", .methodLink RX4 96 yX4_eatsOf, .instanceMethod yX4_eatsOf, .selects RX4 yX4_eatsOf yX4_eatsOf, .initialized RX4, .code yX4_eatsOf cX4_eatsOf 2 (some .int), .fieldLink RX4 13 "ColdDepotsModel" "kinds" "[I"] ++ wsX40)
def wsX4_lastOf : List Cond := .code yX4_lastOf cX4_lastOf 6 (some .int) :: ([.fieldLink RX4 69 "ColdDepotsModel" "members" "I", .fieldLink RX4 13 "ColdDepotsModel" "kinds" "[I", .methodLink RX4 99 yX4_feedsOf, .instanceMethod yX4_feedsOf, .selects RX4 yX4_feedsOf yX4_feedsOf, .initialized RX4, .code yX4_feedsOf cX4_feedsOf 2 (some .int)] ++ wsX40)
def wsX4_tellMember : List Cond := .code yX4_tellMember cX4_tellMember 3 (some .int) :: ([.fieldLink RX4 13 "ColdDepotsModel" "kinds" "[I", .fieldLink RX4 72 "ColdDepotsModel" "living" "I", .methodLink RX4 93 yX4_pullsOf, .instanceMethod yX4_pullsOf, .selects RX4 yX4_pullsOf yX4_pullsOf, .initialized RX4, .code yX4_pullsOf cX4_pullsOf 2 (some .int), .methodLink RX4 96 yX4_eatsOf, .instanceMethod yX4_eatsOf, .selects RX4 yX4_eatsOf yX4_eatsOf, .code yX4_eatsOf cX4_eatsOf 2 (some .int), .methodLink RX4 99 yX4_feedsOf, .instanceMethod yX4_feedsOf, .selects RX4 yX4_feedsOf yX4_feedsOf, .code yX4_feedsOf cX4_feedsOf 2 (some .int)] ++ wsX40)
def wsX4_member_r1 : List Cond := [Cond.methodLink RX4 102 yX4_isMember, Cond.instanceMethod yX4_isMember, Cond.selects RX4 yX4_isMember yX4_isMember, Cond.initialized RX4, Cond.code yX4_isMember cX4_isMember 2 (some .boolean), Cond.fieldLink RX4 69 "ColdDepotsModel" "members" "I", Cond.methodLink RX4 43 yX4_in, Cond.static yX4_in, Cond.code yX4_in cX4_in 6 (some .boolean), Cond.methodLink RX4 105 yX4_tellMember, Cond.instanceMethod yX4_tellMember, Cond.selects RX4 yX4_tellMember yX4_tellMember, Cond.code yX4_tellMember cX4_tellMember 3 (some .int), Cond.fieldLink RX4 13 "ColdDepotsModel" "kinds" "[I", Cond.fieldLink RX4 72 "ColdDepotsModel" "living" "I", Cond.methodLink RX4 93 yX4_pullsOf, Cond.instanceMethod yX4_pullsOf, Cond.selects RX4 yX4_pullsOf yX4_pullsOf, Cond.code yX4_pullsOf cX4_pullsOf 2 (some .int), Cond.methodLink RX4 96 yX4_eatsOf, Cond.instanceMethod yX4_eatsOf, Cond.selects RX4 yX4_eatsOf yX4_eatsOf, Cond.code yX4_eatsOf cX4_eatsOf 2 (some .int), Cond.methodLink RX4 99 yX4_feedsOf]
def wsX4_member_r2 : List Cond := [Cond.instanceMethod yX4_feedsOf, Cond.selects RX4 yX4_feedsOf yX4_feedsOf, Cond.code yX4_feedsOf cX4_feedsOf 2 (some .int)]
def wsX4_member : List Cond := .code yX4_member cX4_member 3 (some .int) :: ((wsX4_member_r1 ++ wsX4_member_r2) ++ wsX40)
def wsX4_as : List Cond := .code yX4_as cX4_as 5 (some .int) :: ([.constantLong RX4 109 (4), .fieldLink RX4 13 "ColdDepotsModel" "kinds" "[I", .methodLink RX4 102 yX4_isMember, .instanceMethod yX4_isMember, .selects RX4 yX4_isMember yX4_isMember, .initialized RX4, .code yX4_isMember cX4_isMember 2 (some .boolean), .fieldLink RX4 69 "ColdDepotsModel" "members" "I", .methodLink RX4 43 yX4_in, .static yX4_in, .code yX4_in cX4_in 6 (some .boolean)] ++ wsX40)
def wsX4_keepPulled : List Cond := .code yX4_keepPulled cX4_keepPulled 2 none :: ([.fieldLink RX4 125 "ColdDepotsModel" "party" "I", .fieldLink RX4 128 "ColdDepotsModel" "carried" "I", .methodLink RX4 134 yX4_pullOf, .instanceMethod yX4_pullOf, .selects RX4 yX4_pullOf yX4_pullOf, .initialized RX4, .code yX4_pullOf cX4_pullOf 4 (some .int), .fieldLink RX4 69 "ColdDepotsModel" "members" "I", .methodLink RX4 93 yX4_pullsOf, .instanceMethod yX4_pullsOf, .selects RX4 yX4_pullsOf yX4_pullsOf, .code yX4_pullsOf cX4_pullsOf 2 (some .int), .fieldLink RX4 13 "ColdDepotsModel" "kinds" "[I"] ++ wsX40)
def wsX4_eatBeast : List Cond := .code yX4_eatBeast cX4_eatBeast 2 none :: ([.fieldLink RX4 125 "ColdDepotsModel" "party" "I", .fieldLink RX4 128 "ColdDepotsModel" "carried" "I", .methodLink RX4 99 yX4_feedsOf, .instanceMethod yX4_feedsOf, .selects RX4 yX4_feedsOf yX4_feedsOf, .initialized RX4, .code yX4_feedsOf cX4_feedsOf 2 (some .int), .fieldLink RX4 13 "ColdDepotsModel" "kinds" "[I", .methodLink RX4 131 yX4_keepPulled, .instanceMethod yX4_keepPulled, .selects RX4 yX4_keepPulled yX4_keepPulled, .code yX4_keepPulled cX4_keepPulled 2 none, .methodLink RX4 134 yX4_pullOf, .instanceMethod yX4_pullOf, .selects RX4 yX4_pullOf yX4_pullOf, .code yX4_pullOf cX4_pullOf 4 (some .int), .fieldLink RX4 69 "ColdDepotsModel" "members" "I", .methodLink RX4 93 yX4_pullsOf, .instanceMethod yX4_pullsOf, .selects RX4 yX4_pullsOf yX4_pullsOf, .code yX4_pullsOf cX4_pullsOf 2 (some .int)] ++ wsX40)
def wsX4_goStage_r1 : List Cond := [Cond.fieldLink RX4 125 "ColdDepotsModel" "party" "I", Cond.fieldLink RX4 128 "ColdDepotsModel" "carried" "I", Cond.fieldLink RX4 19 "ColdDepotsModel" "left" "[I", Cond.methodLink RX4 137 yX4_lastOf, Cond.instanceMethod yX4_lastOf, Cond.selects RX4 yX4_lastOf yX4_lastOf, Cond.initialized RX4, Cond.code yX4_lastOf cX4_lastOf 6 (some .int), Cond.fieldLink RX4 69 "ColdDepotsModel" "members" "I", Cond.fieldLink RX4 13 "ColdDepotsModel" "kinds" "[I", Cond.methodLink RX4 99 yX4_feedsOf, Cond.instanceMethod yX4_feedsOf, Cond.selects RX4 yX4_feedsOf yX4_feedsOf, Cond.code yX4_feedsOf cX4_feedsOf 2 (some .int), Cond.methodLink RX4 141 yX4_eatBeast, Cond.instanceMethod yX4_eatBeast, Cond.selects RX4 yX4_eatBeast yX4_eatBeast, Cond.code yX4_eatBeast cX4_eatBeast 2 none, Cond.methodLink RX4 131 yX4_keepPulled, Cond.instanceMethod yX4_keepPulled, Cond.selects RX4 yX4_keepPulled yX4_keepPulled, Cond.code yX4_keepPulled cX4_keepPulled 2 none, Cond.methodLink RX4 134 yX4_pullOf, Cond.instanceMethod yX4_pullOf]
def wsX4_goStage_r2 : List Cond := [Cond.selects RX4 yX4_pullOf yX4_pullOf, Cond.code yX4_pullOf cX4_pullOf 4 (some .int), Cond.methodLink RX4 93 yX4_pullsOf, Cond.instanceMethod yX4_pullsOf, Cond.selects RX4 yX4_pullsOf yX4_pullsOf, Cond.code yX4_pullsOf cX4_pullsOf 2 (some .int), Cond.methodLink RX4 145 yX4_eatOf, Cond.instanceMethod yX4_eatOf, Cond.selects RX4 yX4_eatOf yX4_eatOf, Cond.code yX4_eatOf cX4_eatOf 4 (some .int), Cond.methodLink RX4 96 yX4_eatsOf, Cond.instanceMethod yX4_eatsOf, Cond.selects RX4 yX4_eatsOf yX4_eatsOf, Cond.code yX4_eatsOf cX4_eatsOf 2 (some .int)]
def wsX4_goStage : List Cond := .code yX4_goStage cX4_goStage 6 (some .boolean) :: ((wsX4_goStage_r1 ++ wsX4_goStage_r2) ++ wsX40)
def wsX4_goMarch_r1 : List Cond := [Cond.fieldLink RX4 19 "ColdDepotsModel" "left" "[I", Cond.fieldLink RX4 125 "ColdDepotsModel" "party" "I", Cond.fieldLink RX4 128 "ColdDepotsModel" "carried" "I", Cond.fieldLink RX4 152 "ColdDepotsModel" "diedOn" "I", Cond.methodLink RX4 148 yX4_copy, Cond.static yX4_copy, Cond.initialized RX4, Cond.code yX4_copy cX4_copy 3 none, Cond.methodLink RX4 131 yX4_keepPulled, Cond.instanceMethod yX4_keepPulled, Cond.selects RX4 yX4_keepPulled yX4_keepPulled, Cond.code yX4_keepPulled cX4_keepPulled 2 none, Cond.methodLink RX4 134 yX4_pullOf, Cond.instanceMethod yX4_pullOf, Cond.selects RX4 yX4_pullOf yX4_pullOf, Cond.code yX4_pullOf cX4_pullOf 4 (some .int), Cond.fieldLink RX4 69 "ColdDepotsModel" "members" "I", Cond.methodLink RX4 93 yX4_pullsOf, Cond.instanceMethod yX4_pullsOf, Cond.selects RX4 yX4_pullsOf yX4_pullsOf, Cond.code yX4_pullsOf cX4_pullsOf 2 (some .int), Cond.fieldLink RX4 13 "ColdDepotsModel" "kinds" "[I", Cond.methodLink RX4 155 yX4_goStage, Cond.instanceMethod yX4_goStage]
def wsX4_goMarch_r2 : List Cond := [Cond.selects RX4 yX4_goStage yX4_goStage, Cond.code yX4_goStage cX4_goStage 6 (some .boolean), Cond.methodLink RX4 137 yX4_lastOf, Cond.instanceMethod yX4_lastOf, Cond.selects RX4 yX4_lastOf yX4_lastOf, Cond.code yX4_lastOf cX4_lastOf 6 (some .int), Cond.methodLink RX4 99 yX4_feedsOf, Cond.instanceMethod yX4_feedsOf, Cond.selects RX4 yX4_feedsOf yX4_feedsOf, Cond.code yX4_feedsOf cX4_feedsOf 2 (some .int), Cond.methodLink RX4 141 yX4_eatBeast, Cond.instanceMethod yX4_eatBeast, Cond.selects RX4 yX4_eatBeast yX4_eatBeast, Cond.code yX4_eatBeast cX4_eatBeast 2 none, Cond.methodLink RX4 145 yX4_eatOf, Cond.instanceMethod yX4_eatOf, Cond.selects RX4 yX4_eatOf yX4_eatOf, Cond.code yX4_eatOf cX4_eatOf 4 (some .int), Cond.methodLink RX4 96 yX4_eatsOf, Cond.instanceMethod yX4_eatsOf, Cond.selects RX4 yX4_eatsOf yX4_eatsOf, Cond.code yX4_eatsOf cX4_eatsOf 2 (some .int)]
def wsX4_goMarch : List Cond := .code yX4_goMarch cX4_goMarch 8 none :: ((wsX4_goMarch_r1 ++ wsX4_goMarch_r2) ++ wsX40)
def wsX4_comesHome_r1 : List Cond := [Cond.fieldLink RX4 125 "ColdDepotsModel" "party" "I", Cond.methodLink RX4 159 yX4_goMarch, Cond.instanceMethod yX4_goMarch, Cond.selects RX4 yX4_goMarch yX4_goMarch, Cond.initialized RX4, Cond.code yX4_goMarch cX4_goMarch 8 none, Cond.fieldLink RX4 19 "ColdDepotsModel" "left" "[I", Cond.fieldLink RX4 128 "ColdDepotsModel" "carried" "I", Cond.fieldLink RX4 152 "ColdDepotsModel" "diedOn" "I", Cond.methodLink RX4 148 yX4_copy, Cond.static yX4_copy, Cond.code yX4_copy cX4_copy 3 none, Cond.methodLink RX4 131 yX4_keepPulled, Cond.instanceMethod yX4_keepPulled, Cond.selects RX4 yX4_keepPulled yX4_keepPulled, Cond.code yX4_keepPulled cX4_keepPulled 2 none, Cond.methodLink RX4 134 yX4_pullOf, Cond.instanceMethod yX4_pullOf, Cond.selects RX4 yX4_pullOf yX4_pullOf, Cond.code yX4_pullOf cX4_pullOf 4 (some .int), Cond.fieldLink RX4 69 "ColdDepotsModel" "members" "I", Cond.methodLink RX4 93 yX4_pullsOf, Cond.instanceMethod yX4_pullsOf, Cond.selects RX4 yX4_pullsOf yX4_pullsOf]
def wsX4_comesHome_r2 : List Cond := [Cond.code yX4_pullsOf cX4_pullsOf 2 (some .int), Cond.fieldLink RX4 13 "ColdDepotsModel" "kinds" "[I", Cond.methodLink RX4 155 yX4_goStage, Cond.instanceMethod yX4_goStage, Cond.selects RX4 yX4_goStage yX4_goStage, Cond.code yX4_goStage cX4_goStage 6 (some .boolean), Cond.methodLink RX4 137 yX4_lastOf, Cond.instanceMethod yX4_lastOf, Cond.selects RX4 yX4_lastOf yX4_lastOf, Cond.code yX4_lastOf cX4_lastOf 6 (some .int), Cond.methodLink RX4 99 yX4_feedsOf, Cond.instanceMethod yX4_feedsOf, Cond.selects RX4 yX4_feedsOf yX4_feedsOf, Cond.code yX4_feedsOf cX4_feedsOf 2 (some .int), Cond.methodLink RX4 141 yX4_eatBeast, Cond.instanceMethod yX4_eatBeast, Cond.selects RX4 yX4_eatBeast yX4_eatBeast, Cond.code yX4_eatBeast cX4_eatBeast 2 none, Cond.methodLink RX4 145 yX4_eatOf, Cond.instanceMethod yX4_eatOf, Cond.selects RX4 yX4_eatOf yX4_eatOf, Cond.code yX4_eatOf cX4_eatOf 4 (some .int), Cond.methodLink RX4 96 yX4_eatsOf, Cond.instanceMethod yX4_eatsOf]
def wsX4_comesHome_r3 : List Cond := [Cond.selects RX4 yX4_eatsOf yX4_eatsOf, Cond.code yX4_eatsOf cX4_eatsOf 2 (some .int)]
def wsX4_comesHome : List Cond := .code yX4_comesHome cX4_comesHome 5 (some .boolean) :: ((wsX4_comesHome_r1 ++ (wsX4_comesHome_r2 ++ wsX4_comesHome_r3)) ++ wsX40)
def wsX4_layOf_r1 : List Cond := [Cond.fieldLink RX4 16 "ColdDepotsModel" "foods" "[I", Cond.fieldLink RX4 25 "ColdDepotsModel" "other" "[I", Cond.fieldLink RX4 81 "ColdDepotsModel" "heardMany" "I", Cond.fieldLink RX4 22 "ColdDepotsModel" "heards" "[I", Cond.methodLink RX4 148 yX4_copy, Cond.static yX4_copy, Cond.initialized RX4, Cond.code yX4_copy cX4_copy 3 none, Cond.methodLink RX4 184 yX4_comesHome, Cond.instanceMethod yX4_comesHome, Cond.selects RX4 yX4_comesHome yX4_comesHome, Cond.code yX4_comesHome cX4_comesHome 5 (some .boolean), Cond.fieldLink RX4 125 "ColdDepotsModel" "party" "I", Cond.methodLink RX4 159 yX4_goMarch, Cond.instanceMethod yX4_goMarch, Cond.selects RX4 yX4_goMarch yX4_goMarch, Cond.code yX4_goMarch cX4_goMarch 8 none, Cond.fieldLink RX4 19 "ColdDepotsModel" "left" "[I", Cond.fieldLink RX4 128 "ColdDepotsModel" "carried" "I", Cond.fieldLink RX4 152 "ColdDepotsModel" "diedOn" "I", Cond.methodLink RX4 131 yX4_keepPulled, Cond.instanceMethod yX4_keepPulled, Cond.selects RX4 yX4_keepPulled yX4_keepPulled, Cond.code yX4_keepPulled cX4_keepPulled 2 none]
def wsX4_layOf_r2 : List Cond := [Cond.methodLink RX4 134 yX4_pullOf, Cond.instanceMethod yX4_pullOf, Cond.selects RX4 yX4_pullOf yX4_pullOf, Cond.code yX4_pullOf cX4_pullOf 4 (some .int), Cond.fieldLink RX4 69 "ColdDepotsModel" "members" "I", Cond.methodLink RX4 93 yX4_pullsOf, Cond.instanceMethod yX4_pullsOf, Cond.selects RX4 yX4_pullsOf yX4_pullsOf, Cond.code yX4_pullsOf cX4_pullsOf 2 (some .int), Cond.fieldLink RX4 13 "ColdDepotsModel" "kinds" "[I", Cond.methodLink RX4 155 yX4_goStage, Cond.instanceMethod yX4_goStage, Cond.selects RX4 yX4_goStage yX4_goStage, Cond.code yX4_goStage cX4_goStage 6 (some .boolean), Cond.methodLink RX4 137 yX4_lastOf, Cond.instanceMethod yX4_lastOf, Cond.selects RX4 yX4_lastOf yX4_lastOf, Cond.code yX4_lastOf cX4_lastOf 6 (some .int), Cond.methodLink RX4 99 yX4_feedsOf, Cond.instanceMethod yX4_feedsOf, Cond.selects RX4 yX4_feedsOf yX4_feedsOf, Cond.code yX4_feedsOf cX4_feedsOf 2 (some .int), Cond.methodLink RX4 141 yX4_eatBeast, Cond.instanceMethod yX4_eatBeast]
def wsX4_layOf_r3 : List Cond := [Cond.selects RX4 yX4_eatBeast yX4_eatBeast, Cond.code yX4_eatBeast cX4_eatBeast 2 none, Cond.methodLink RX4 145 yX4_eatOf, Cond.instanceMethod yX4_eatOf, Cond.selects RX4 yX4_eatOf yX4_eatOf, Cond.code yX4_eatOf cX4_eatOf 4 (some .int), Cond.methodLink RX4 96 yX4_eatsOf, Cond.instanceMethod yX4_eatsOf, Cond.selects RX4 yX4_eatsOf yX4_eatsOf, Cond.code yX4_eatsOf cX4_eatsOf 2 (some .int)]
def wsX4_layOf : List Cond := .code yX4_layOf cX4_layOf 7 (some .int) :: ((wsX4_layOf_r1 ++ (wsX4_layOf_r2 ++ wsX4_layOf_r3)) ++ wsX40)
def wsX4_tryOf_r1 : List Cond := [Cond.fieldLink RX4 25 "ColdDepotsModel" "other" "[I", Cond.fieldLink RX4 69 "ColdDepotsModel" "members" "I", Cond.methodLink RX4 111 yX4_layOf, Cond.instanceMethod yX4_layOf, Cond.selects RX4 yX4_layOf yX4_layOf, Cond.initialized RX4, Cond.code yX4_layOf cX4_layOf 7 (some .int), Cond.fieldLink RX4 16 "ColdDepotsModel" "foods" "[I", Cond.fieldLink RX4 81 "ColdDepotsModel" "heardMany" "I", Cond.fieldLink RX4 22 "ColdDepotsModel" "heards" "[I", Cond.methodLink RX4 148 yX4_copy, Cond.static yX4_copy, Cond.code yX4_copy cX4_copy 3 none, Cond.methodLink RX4 184 yX4_comesHome, Cond.instanceMethod yX4_comesHome, Cond.selects RX4 yX4_comesHome yX4_comesHome, Cond.code yX4_comesHome cX4_comesHome 5 (some .boolean), Cond.fieldLink RX4 125 "ColdDepotsModel" "party" "I", Cond.methodLink RX4 159 yX4_goMarch, Cond.instanceMethod yX4_goMarch, Cond.selects RX4 yX4_goMarch yX4_goMarch, Cond.code yX4_goMarch cX4_goMarch 8 none, Cond.fieldLink RX4 19 "ColdDepotsModel" "left" "[I", Cond.fieldLink RX4 128 "ColdDepotsModel" "carried" "I"]
def wsX4_tryOf_r2 : List Cond := [Cond.fieldLink RX4 152 "ColdDepotsModel" "diedOn" "I", Cond.methodLink RX4 131 yX4_keepPulled, Cond.instanceMethod yX4_keepPulled, Cond.selects RX4 yX4_keepPulled yX4_keepPulled, Cond.code yX4_keepPulled cX4_keepPulled 2 none, Cond.methodLink RX4 134 yX4_pullOf, Cond.instanceMethod yX4_pullOf, Cond.selects RX4 yX4_pullOf yX4_pullOf, Cond.code yX4_pullOf cX4_pullOf 4 (some .int), Cond.methodLink RX4 93 yX4_pullsOf, Cond.instanceMethod yX4_pullsOf, Cond.selects RX4 yX4_pullsOf yX4_pullsOf, Cond.code yX4_pullsOf cX4_pullsOf 2 (some .int), Cond.fieldLink RX4 13 "ColdDepotsModel" "kinds" "[I", Cond.methodLink RX4 155 yX4_goStage, Cond.instanceMethod yX4_goStage, Cond.selects RX4 yX4_goStage yX4_goStage, Cond.code yX4_goStage cX4_goStage 6 (some .boolean), Cond.methodLink RX4 137 yX4_lastOf, Cond.instanceMethod yX4_lastOf, Cond.selects RX4 yX4_lastOf yX4_lastOf, Cond.code yX4_lastOf cX4_lastOf 6 (some .int), Cond.methodLink RX4 99 yX4_feedsOf, Cond.instanceMethod yX4_feedsOf]
def wsX4_tryOf_r3 : List Cond := [Cond.selects RX4 yX4_feedsOf yX4_feedsOf, Cond.code yX4_feedsOf cX4_feedsOf 2 (some .int), Cond.methodLink RX4 141 yX4_eatBeast, Cond.instanceMethod yX4_eatBeast, Cond.selects RX4 yX4_eatBeast yX4_eatBeast, Cond.code yX4_eatBeast cX4_eatBeast 2 none, Cond.methodLink RX4 145 yX4_eatOf, Cond.instanceMethod yX4_eatOf, Cond.selects RX4 yX4_eatOf yX4_eatOf, Cond.code yX4_eatOf cX4_eatOf 4 (some .int), Cond.methodLink RX4 96 yX4_eatsOf, Cond.instanceMethod yX4_eatsOf, Cond.selects RX4 yX4_eatsOf yX4_eatsOf, Cond.code yX4_eatsOf cX4_eatsOf 2 (some .int)]
def wsX4_tryOf : List Cond := .code yX4_tryOf cX4_tryOf 9 (some .int) :: ((wsX4_tryOf_r1 ++ (wsX4_tryOf_r2 ++ wsX4_tryOf_r3)) ++ wsX40)
def wsX4_tellCairn_r1 : List Cond := [Cond.fieldLink RX4 16 "ColdDepotsModel" "foods" "[I", Cond.methodLink RX4 111 yX4_layOf, Cond.instanceMethod yX4_layOf, Cond.selects RX4 yX4_layOf yX4_layOf, Cond.initialized RX4, Cond.code yX4_layOf cX4_layOf 7 (some .int), Cond.fieldLink RX4 25 "ColdDepotsModel" "other" "[I", Cond.fieldLink RX4 81 "ColdDepotsModel" "heardMany" "I", Cond.fieldLink RX4 22 "ColdDepotsModel" "heards" "[I", Cond.methodLink RX4 148 yX4_copy, Cond.static yX4_copy, Cond.code yX4_copy cX4_copy 3 none, Cond.methodLink RX4 184 yX4_comesHome, Cond.instanceMethod yX4_comesHome, Cond.selects RX4 yX4_comesHome yX4_comesHome, Cond.code yX4_comesHome cX4_comesHome 5 (some .boolean), Cond.fieldLink RX4 125 "ColdDepotsModel" "party" "I", Cond.methodLink RX4 159 yX4_goMarch, Cond.instanceMethod yX4_goMarch, Cond.selects RX4 yX4_goMarch yX4_goMarch, Cond.code yX4_goMarch cX4_goMarch 8 none, Cond.fieldLink RX4 19 "ColdDepotsModel" "left" "[I", Cond.fieldLink RX4 128 "ColdDepotsModel" "carried" "I", Cond.fieldLink RX4 152 "ColdDepotsModel" "diedOn" "I"]
def wsX4_tellCairn_r2 : List Cond := [Cond.methodLink RX4 131 yX4_keepPulled, Cond.instanceMethod yX4_keepPulled, Cond.selects RX4 yX4_keepPulled yX4_keepPulled, Cond.code yX4_keepPulled cX4_keepPulled 2 none, Cond.methodLink RX4 134 yX4_pullOf, Cond.instanceMethod yX4_pullOf, Cond.selects RX4 yX4_pullOf yX4_pullOf, Cond.code yX4_pullOf cX4_pullOf 4 (some .int), Cond.fieldLink RX4 69 "ColdDepotsModel" "members" "I", Cond.methodLink RX4 93 yX4_pullsOf, Cond.instanceMethod yX4_pullsOf, Cond.selects RX4 yX4_pullsOf yX4_pullsOf, Cond.code yX4_pullsOf cX4_pullsOf 2 (some .int), Cond.fieldLink RX4 13 "ColdDepotsModel" "kinds" "[I", Cond.methodLink RX4 155 yX4_goStage, Cond.instanceMethod yX4_goStage, Cond.selects RX4 yX4_goStage yX4_goStage, Cond.code yX4_goStage cX4_goStage 6 (some .boolean), Cond.methodLink RX4 137 yX4_lastOf, Cond.instanceMethod yX4_lastOf, Cond.selects RX4 yX4_lastOf yX4_lastOf, Cond.code yX4_lastOf cX4_lastOf 6 (some .int), Cond.methodLink RX4 99 yX4_feedsOf, Cond.instanceMethod yX4_feedsOf]
def wsX4_tellCairn_r3 : List Cond := [Cond.selects RX4 yX4_feedsOf yX4_feedsOf, Cond.code yX4_feedsOf cX4_feedsOf 2 (some .int), Cond.methodLink RX4 141 yX4_eatBeast, Cond.instanceMethod yX4_eatBeast, Cond.selects RX4 yX4_eatBeast yX4_eatBeast, Cond.code yX4_eatBeast cX4_eatBeast 2 none, Cond.methodLink RX4 145 yX4_eatOf, Cond.instanceMethod yX4_eatOf, Cond.selects RX4 yX4_eatOf yX4_eatOf, Cond.code yX4_eatOf cX4_eatOf 4 (some .int), Cond.methodLink RX4 96 yX4_eatsOf, Cond.instanceMethod yX4_eatsOf, Cond.selects RX4 yX4_eatsOf yX4_eatsOf, Cond.code yX4_eatsOf cX4_eatsOf 2 (some .int), Cond.methodLink RX4 114 yX4_tryOf, Cond.instanceMethod yX4_tryOf, Cond.selects RX4 yX4_tryOf yX4_tryOf, Cond.code yX4_tryOf cX4_tryOf 9 (some .int)]
def wsX4_tellCairn : List Cond := .code yX4_tellCairn cX4_tellCairn 3 (some .int) :: ((wsX4_tellCairn_r1 ++ (wsX4_tellCairn_r2 ++ wsX4_tellCairn_r3)) ++ wsX40)
def wsX4_cairn_r1 : List Cond := [Cond.methodLink RX4 117 yX4_isCairn, Cond.instanceMethod yX4_isCairn, Cond.selects RX4 yX4_isCairn yX4_isCairn, Cond.initialized RX4, Cond.code yX4_isCairn cX4_isCairn 2 (some .boolean), Cond.constantLong RX4 91 (5), Cond.methodLink RX4 87 yX4_lacks, Cond.instanceMethod yX4_lacks, Cond.selects RX4 yX4_lacks yX4_lacks, Cond.code yX4_lacks cX4_lacks 1 (some .boolean), Cond.fieldLink RX4 69 "ColdDepotsModel" "members" "I", Cond.methodLink RX4 43 yX4_in, Cond.static yX4_in, Cond.code yX4_in cX4_in 6 (some .boolean), Cond.methodLink RX4 120 yX4_tellCairn, Cond.instanceMethod yX4_tellCairn, Cond.selects RX4 yX4_tellCairn yX4_tellCairn, Cond.code yX4_tellCairn cX4_tellCairn 3 (some .int), Cond.fieldLink RX4 16 "ColdDepotsModel" "foods" "[I", Cond.methodLink RX4 111 yX4_layOf, Cond.instanceMethod yX4_layOf, Cond.selects RX4 yX4_layOf yX4_layOf, Cond.code yX4_layOf cX4_layOf 7 (some .int), Cond.fieldLink RX4 25 "ColdDepotsModel" "other" "[I"]
def wsX4_cairn_r2 : List Cond := [Cond.fieldLink RX4 81 "ColdDepotsModel" "heardMany" "I", Cond.fieldLink RX4 22 "ColdDepotsModel" "heards" "[I", Cond.methodLink RX4 148 yX4_copy, Cond.static yX4_copy, Cond.code yX4_copy cX4_copy 3 none, Cond.methodLink RX4 184 yX4_comesHome, Cond.instanceMethod yX4_comesHome, Cond.selects RX4 yX4_comesHome yX4_comesHome, Cond.code yX4_comesHome cX4_comesHome 5 (some .boolean), Cond.fieldLink RX4 125 "ColdDepotsModel" "party" "I", Cond.methodLink RX4 159 yX4_goMarch, Cond.instanceMethod yX4_goMarch, Cond.selects RX4 yX4_goMarch yX4_goMarch, Cond.code yX4_goMarch cX4_goMarch 8 none, Cond.fieldLink RX4 19 "ColdDepotsModel" "left" "[I", Cond.fieldLink RX4 128 "ColdDepotsModel" "carried" "I", Cond.fieldLink RX4 152 "ColdDepotsModel" "diedOn" "I", Cond.methodLink RX4 131 yX4_keepPulled, Cond.instanceMethod yX4_keepPulled, Cond.selects RX4 yX4_keepPulled yX4_keepPulled, Cond.code yX4_keepPulled cX4_keepPulled 2 none, Cond.methodLink RX4 134 yX4_pullOf, Cond.instanceMethod yX4_pullOf, Cond.selects RX4 yX4_pullOf yX4_pullOf]
def wsX4_cairn_r3 : List Cond := [Cond.code yX4_pullOf cX4_pullOf 4 (some .int), Cond.methodLink RX4 93 yX4_pullsOf, Cond.instanceMethod yX4_pullsOf, Cond.selects RX4 yX4_pullsOf yX4_pullsOf, Cond.code yX4_pullsOf cX4_pullsOf 2 (some .int), Cond.fieldLink RX4 13 "ColdDepotsModel" "kinds" "[I", Cond.methodLink RX4 155 yX4_goStage, Cond.instanceMethod yX4_goStage, Cond.selects RX4 yX4_goStage yX4_goStage, Cond.code yX4_goStage cX4_goStage 6 (some .boolean), Cond.methodLink RX4 137 yX4_lastOf, Cond.instanceMethod yX4_lastOf, Cond.selects RX4 yX4_lastOf yX4_lastOf, Cond.code yX4_lastOf cX4_lastOf 6 (some .int), Cond.methodLink RX4 99 yX4_feedsOf, Cond.instanceMethod yX4_feedsOf, Cond.selects RX4 yX4_feedsOf yX4_feedsOf, Cond.code yX4_feedsOf cX4_feedsOf 2 (some .int), Cond.methodLink RX4 141 yX4_eatBeast, Cond.instanceMethod yX4_eatBeast, Cond.selects RX4 yX4_eatBeast yX4_eatBeast, Cond.code yX4_eatBeast cX4_eatBeast 2 none, Cond.methodLink RX4 145 yX4_eatOf, Cond.instanceMethod yX4_eatOf]
def wsX4_cairn_r4 : List Cond := [Cond.selects RX4 yX4_eatOf yX4_eatOf, Cond.code yX4_eatOf cX4_eatOf 4 (some .int), Cond.methodLink RX4 96 yX4_eatsOf, Cond.instanceMethod yX4_eatsOf, Cond.selects RX4 yX4_eatsOf yX4_eatsOf, Cond.code yX4_eatsOf cX4_eatsOf 2 (some .int), Cond.methodLink RX4 114 yX4_tryOf, Cond.instanceMethod yX4_tryOf, Cond.selects RX4 yX4_tryOf yX4_tryOf, Cond.code yX4_tryOf cX4_tryOf 9 (some .int)]
def wsX4_cairn : List Cond := .code yX4_cairn cX4_cairn 3 (some .int) :: ((wsX4_cairn_r1 ++ (wsX4_cairn_r2 ++ (wsX4_cairn_r3 ++ wsX4_cairn_r4))) ++ wsX40)
def wsX4_lay : List Cond := .code yX4_lay cX4_lay 4 (some .int) :: ([.constantLong RX4 123 (9), .fieldLink RX4 16 "ColdDepotsModel" "foods" "[I", .methodLink RX4 117 yX4_isCairn, .instanceMethod yX4_isCairn, .selects RX4 yX4_isCairn yX4_isCairn, .initialized RX4, .code yX4_isCairn cX4_isCairn 2 (some .boolean), .constantLong RX4 91 (5), .methodLink RX4 87 yX4_lacks, .instanceMethod yX4_lacks, .selects RX4 yX4_lacks yX4_lacks, .code yX4_lacks cX4_lacks 1 (some .boolean), .fieldLink RX4 69 "ColdDepotsModel" "members" "I", .methodLink RX4 43 yX4_in, .static yX4_in, .code yX4_in cX4_in 6 (some .boolean)] ++ wsX40)
def wsX4_sumOf : List Cond := .code yX4_sumOf cX4_sumOf 3 (some .int) :: ([])
def wsX4_isMarch : List Cond := .code yX4_isMarch cX4_isMarch 4 (some .boolean) :: ([.constantLong RX4 166 (6), .constantLong RX4 168 (40), .methodLink RX4 163 yX4_areMembers, .instanceMethod yX4_areMembers, .selects RX4 yX4_areMembers yX4_areMembers, .initialized RX4, .code yX4_areMembers cX4_areMembers 2 (some .boolean), .fieldLink RX4 69 "ColdDepotsModel" "members" "I", .methodLink RX4 43 yX4_in, .static yX4_in, .code yX4_in cX4_in 6 (some .boolean)] ++ wsX40)
def wsX4_march_r1 : List Cond := [Cond.fieldLink RX4 72 "ColdDepotsModel" "living" "I", Cond.fieldLink RX4 16 "ColdDepotsModel" "foods" "[I", Cond.fieldLink RX4 125 "ColdDepotsModel" "party" "I", Cond.fieldLink RX4 19 "ColdDepotsModel" "left" "[I", Cond.fieldLink RX4 75 "ColdDepotsModel" "marches" "I", Cond.fieldLink RX4 78 "ColdDepotsModel" "cameHome" "I", Cond.methodLink RX4 170 yX4_isMarch, Cond.instanceMethod yX4_isMarch, Cond.selects RX4 yX4_isMarch yX4_isMarch, Cond.initialized RX4, Cond.code yX4_isMarch cX4_isMarch 4 (some .boolean), Cond.constantLong RX4 166 (6), Cond.constantLong RX4 168 (40), Cond.methodLink RX4 163 yX4_areMembers, Cond.instanceMethod yX4_areMembers, Cond.selects RX4 yX4_areMembers yX4_areMembers, Cond.code yX4_areMembers cX4_areMembers 2 (some .boolean), Cond.fieldLink RX4 69 "ColdDepotsModel" "members" "I", Cond.methodLink RX4 43 yX4_in, Cond.static yX4_in, Cond.code yX4_in cX4_in 6 (some .boolean), Cond.methodLink RX4 159 yX4_goMarch, Cond.instanceMethod yX4_goMarch, Cond.selects RX4 yX4_goMarch yX4_goMarch]
def wsX4_march_r2 : List Cond := [Cond.code yX4_goMarch cX4_goMarch 8 none, Cond.fieldLink RX4 128 "ColdDepotsModel" "carried" "I", Cond.fieldLink RX4 152 "ColdDepotsModel" "diedOn" "I", Cond.methodLink RX4 148 yX4_copy, Cond.static yX4_copy, Cond.code yX4_copy cX4_copy 3 none, Cond.methodLink RX4 131 yX4_keepPulled, Cond.instanceMethod yX4_keepPulled, Cond.selects RX4 yX4_keepPulled yX4_keepPulled, Cond.code yX4_keepPulled cX4_keepPulled 2 none, Cond.methodLink RX4 134 yX4_pullOf, Cond.instanceMethod yX4_pullOf, Cond.selects RX4 yX4_pullOf yX4_pullOf, Cond.code yX4_pullOf cX4_pullOf 4 (some .int), Cond.methodLink RX4 93 yX4_pullsOf, Cond.instanceMethod yX4_pullsOf, Cond.selects RX4 yX4_pullsOf yX4_pullsOf, Cond.code yX4_pullsOf cX4_pullsOf 2 (some .int), Cond.fieldLink RX4 13 "ColdDepotsModel" "kinds" "[I", Cond.methodLink RX4 155 yX4_goStage, Cond.instanceMethod yX4_goStage, Cond.selects RX4 yX4_goStage yX4_goStage, Cond.code yX4_goStage cX4_goStage 6 (some .boolean), Cond.methodLink RX4 137 yX4_lastOf]
def wsX4_march_r3 : List Cond := [Cond.instanceMethod yX4_lastOf, Cond.selects RX4 yX4_lastOf yX4_lastOf, Cond.code yX4_lastOf cX4_lastOf 6 (some .int), Cond.methodLink RX4 99 yX4_feedsOf, Cond.instanceMethod yX4_feedsOf, Cond.selects RX4 yX4_feedsOf yX4_feedsOf, Cond.code yX4_feedsOf cX4_feedsOf 2 (some .int), Cond.methodLink RX4 141 yX4_eatBeast, Cond.instanceMethod yX4_eatBeast, Cond.selects RX4 yX4_eatBeast yX4_eatBeast, Cond.code yX4_eatBeast cX4_eatBeast 2 none, Cond.methodLink RX4 145 yX4_eatOf, Cond.instanceMethod yX4_eatOf, Cond.selects RX4 yX4_eatOf yX4_eatOf, Cond.code yX4_eatOf cX4_eatOf 4 (some .int), Cond.methodLink RX4 96 yX4_eatsOf, Cond.instanceMethod yX4_eatsOf, Cond.selects RX4 yX4_eatsOf yX4_eatsOf, Cond.code yX4_eatsOf cX4_eatsOf 2 (some .int)]
def wsX4_march : List Cond := .code yX4_march cX4_march 4 (some .int) :: ((wsX4_march_r1 ++ (wsX4_march_r2 ++ wsX4_march_r3)) ++ wsX40)
def wsX4_wouldOf_r1 : List Cond := [Cond.fieldLink RX4 16 "ColdDepotsModel" "foods" "[I", Cond.fieldLink RX4 125 "ColdDepotsModel" "party" "I", Cond.fieldLink RX4 128 "ColdDepotsModel" "carried" "I", Cond.fieldLink RX4 19 "ColdDepotsModel" "left" "[I", Cond.fieldLink RX4 152 "ColdDepotsModel" "diedOn" "I", Cond.methodLink RX4 159 yX4_goMarch, Cond.instanceMethod yX4_goMarch, Cond.selects RX4 yX4_goMarch yX4_goMarch, Cond.initialized RX4, Cond.code yX4_goMarch cX4_goMarch 8 none, Cond.methodLink RX4 148 yX4_copy, Cond.static yX4_copy, Cond.code yX4_copy cX4_copy 3 none, Cond.methodLink RX4 131 yX4_keepPulled, Cond.instanceMethod yX4_keepPulled, Cond.selects RX4 yX4_keepPulled yX4_keepPulled, Cond.code yX4_keepPulled cX4_keepPulled 2 none, Cond.methodLink RX4 134 yX4_pullOf, Cond.instanceMethod yX4_pullOf, Cond.selects RX4 yX4_pullOf yX4_pullOf, Cond.code yX4_pullOf cX4_pullOf 4 (some .int), Cond.fieldLink RX4 69 "ColdDepotsModel" "members" "I", Cond.methodLink RX4 93 yX4_pullsOf, Cond.instanceMethod yX4_pullsOf]
def wsX4_wouldOf_r2 : List Cond := [Cond.selects RX4 yX4_pullsOf yX4_pullsOf, Cond.code yX4_pullsOf cX4_pullsOf 2 (some .int), Cond.fieldLink RX4 13 "ColdDepotsModel" "kinds" "[I", Cond.methodLink RX4 155 yX4_goStage, Cond.instanceMethod yX4_goStage, Cond.selects RX4 yX4_goStage yX4_goStage, Cond.code yX4_goStage cX4_goStage 6 (some .boolean), Cond.methodLink RX4 137 yX4_lastOf, Cond.instanceMethod yX4_lastOf, Cond.selects RX4 yX4_lastOf yX4_lastOf, Cond.code yX4_lastOf cX4_lastOf 6 (some .int), Cond.methodLink RX4 99 yX4_feedsOf, Cond.instanceMethod yX4_feedsOf, Cond.selects RX4 yX4_feedsOf yX4_feedsOf, Cond.code yX4_feedsOf cX4_feedsOf 2 (some .int), Cond.methodLink RX4 141 yX4_eatBeast, Cond.instanceMethod yX4_eatBeast, Cond.selects RX4 yX4_eatBeast yX4_eatBeast, Cond.code yX4_eatBeast cX4_eatBeast 2 none, Cond.methodLink RX4 145 yX4_eatOf, Cond.instanceMethod yX4_eatOf, Cond.selects RX4 yX4_eatOf yX4_eatOf, Cond.code yX4_eatOf cX4_eatOf 4 (some .int), Cond.methodLink RX4 96 yX4_eatsOf]
def wsX4_wouldOf_r3 : List Cond := [Cond.instanceMethod yX4_eatsOf, Cond.selects RX4 yX4_eatsOf yX4_eatsOf, Cond.code yX4_eatsOf cX4_eatsOf 2 (some .int), Cond.methodLink RX4 174 yX4_sumOf, Cond.static yX4_sumOf, Cond.code yX4_sumOf cX4_sumOf 3 (some .int)]
def wsX4_wouldOf : List Cond := .code yX4_wouldOf cX4_wouldOf 5 (some .int) :: ((wsX4_wouldOf_r1 ++ (wsX4_wouldOf_r2 ++ wsX4_wouldOf_r3)) ++ wsX40)
def wsX4_would_r1 : List Cond := [Cond.constantLong RX4 178 (3), Cond.fieldLink RX4 72 "ColdDepotsModel" "living" "I", Cond.methodLink RX4 170 yX4_isMarch, Cond.instanceMethod yX4_isMarch, Cond.selects RX4 yX4_isMarch yX4_isMarch, Cond.initialized RX4, Cond.code yX4_isMarch cX4_isMarch 4 (some .boolean), Cond.constantLong RX4 166 (6), Cond.constantLong RX4 168 (40), Cond.methodLink RX4 163 yX4_areMembers, Cond.instanceMethod yX4_areMembers, Cond.selects RX4 yX4_areMembers yX4_areMembers, Cond.code yX4_areMembers cX4_areMembers 2 (some .boolean), Cond.fieldLink RX4 69 "ColdDepotsModel" "members" "I", Cond.methodLink RX4 43 yX4_in, Cond.static yX4_in, Cond.code yX4_in cX4_in 6 (some .boolean), Cond.methodLink RX4 180 yX4_wouldOf, Cond.instanceMethod yX4_wouldOf, Cond.selects RX4 yX4_wouldOf yX4_wouldOf, Cond.code yX4_wouldOf cX4_wouldOf 5 (some .int), Cond.fieldLink RX4 16 "ColdDepotsModel" "foods" "[I", Cond.fieldLink RX4 125 "ColdDepotsModel" "party" "I", Cond.fieldLink RX4 128 "ColdDepotsModel" "carried" "I"]
def wsX4_would_r2 : List Cond := [Cond.fieldLink RX4 19 "ColdDepotsModel" "left" "[I", Cond.fieldLink RX4 152 "ColdDepotsModel" "diedOn" "I", Cond.methodLink RX4 159 yX4_goMarch, Cond.instanceMethod yX4_goMarch, Cond.selects RX4 yX4_goMarch yX4_goMarch, Cond.code yX4_goMarch cX4_goMarch 8 none, Cond.methodLink RX4 148 yX4_copy, Cond.static yX4_copy, Cond.code yX4_copy cX4_copy 3 none, Cond.methodLink RX4 131 yX4_keepPulled, Cond.instanceMethod yX4_keepPulled, Cond.selects RX4 yX4_keepPulled yX4_keepPulled, Cond.code yX4_keepPulled cX4_keepPulled 2 none, Cond.methodLink RX4 134 yX4_pullOf, Cond.instanceMethod yX4_pullOf, Cond.selects RX4 yX4_pullOf yX4_pullOf, Cond.code yX4_pullOf cX4_pullOf 4 (some .int), Cond.methodLink RX4 93 yX4_pullsOf, Cond.instanceMethod yX4_pullsOf, Cond.selects RX4 yX4_pullsOf yX4_pullsOf, Cond.code yX4_pullsOf cX4_pullsOf 2 (some .int), Cond.fieldLink RX4 13 "ColdDepotsModel" "kinds" "[I", Cond.methodLink RX4 155 yX4_goStage, Cond.instanceMethod yX4_goStage]
def wsX4_would_r3 : List Cond := [Cond.selects RX4 yX4_goStage yX4_goStage, Cond.code yX4_goStage cX4_goStage 6 (some .boolean), Cond.methodLink RX4 137 yX4_lastOf, Cond.instanceMethod yX4_lastOf, Cond.selects RX4 yX4_lastOf yX4_lastOf, Cond.code yX4_lastOf cX4_lastOf 6 (some .int), Cond.methodLink RX4 99 yX4_feedsOf, Cond.instanceMethod yX4_feedsOf, Cond.selects RX4 yX4_feedsOf yX4_feedsOf, Cond.code yX4_feedsOf cX4_feedsOf 2 (some .int), Cond.methodLink RX4 141 yX4_eatBeast, Cond.instanceMethod yX4_eatBeast, Cond.selects RX4 yX4_eatBeast yX4_eatBeast, Cond.code yX4_eatBeast cX4_eatBeast 2 none, Cond.methodLink RX4 145 yX4_eatOf, Cond.instanceMethod yX4_eatOf, Cond.selects RX4 yX4_eatOf yX4_eatOf, Cond.code yX4_eatOf cX4_eatOf 4 (some .int), Cond.methodLink RX4 96 yX4_eatsOf, Cond.instanceMethod yX4_eatsOf, Cond.selects RX4 yX4_eatsOf yX4_eatsOf, Cond.code yX4_eatsOf cX4_eatsOf 2 (some .int), Cond.methodLink RX4 174 yX4_sumOf, Cond.static yX4_sumOf]
def wsX4_would_r4 : List Cond := [Cond.code yX4_sumOf cX4_sumOf 3 (some .int)]
def wsX4_would : List Cond := .code yX4_would cX4_would 5 (some .int) :: ((wsX4_would_r1 ++ (wsX4_would_r2 ++ (wsX4_would_r3 ++ wsX4_would_r4))) ++ wsX40)
def wsX4_needOf_r1 : List Cond := [Cond.methodLink RX4 184 yX4_comesHome, Cond.instanceMethod yX4_comesHome, Cond.selects RX4 yX4_comesHome yX4_comesHome, Cond.initialized RX4, Cond.code yX4_comesHome cX4_comesHome 5 (some .boolean), Cond.fieldLink RX4 125 "ColdDepotsModel" "party" "I", Cond.methodLink RX4 159 yX4_goMarch, Cond.instanceMethod yX4_goMarch, Cond.selects RX4 yX4_goMarch yX4_goMarch, Cond.code yX4_goMarch cX4_goMarch 8 none, Cond.fieldLink RX4 19 "ColdDepotsModel" "left" "[I", Cond.fieldLink RX4 128 "ColdDepotsModel" "carried" "I", Cond.fieldLink RX4 152 "ColdDepotsModel" "diedOn" "I", Cond.methodLink RX4 148 yX4_copy, Cond.static yX4_copy, Cond.code yX4_copy cX4_copy 3 none, Cond.methodLink RX4 131 yX4_keepPulled, Cond.instanceMethod yX4_keepPulled, Cond.selects RX4 yX4_keepPulled yX4_keepPulled, Cond.code yX4_keepPulled cX4_keepPulled 2 none, Cond.methodLink RX4 134 yX4_pullOf, Cond.instanceMethod yX4_pullOf, Cond.selects RX4 yX4_pullOf yX4_pullOf, Cond.code yX4_pullOf cX4_pullOf 4 (some .int)]
def wsX4_needOf_r2 : List Cond := [Cond.fieldLink RX4 69 "ColdDepotsModel" "members" "I", Cond.methodLink RX4 93 yX4_pullsOf, Cond.instanceMethod yX4_pullsOf, Cond.selects RX4 yX4_pullsOf yX4_pullsOf, Cond.code yX4_pullsOf cX4_pullsOf 2 (some .int), Cond.fieldLink RX4 13 "ColdDepotsModel" "kinds" "[I", Cond.methodLink RX4 155 yX4_goStage, Cond.instanceMethod yX4_goStage, Cond.selects RX4 yX4_goStage yX4_goStage, Cond.code yX4_goStage cX4_goStage 6 (some .boolean), Cond.methodLink RX4 137 yX4_lastOf, Cond.instanceMethod yX4_lastOf, Cond.selects RX4 yX4_lastOf yX4_lastOf, Cond.code yX4_lastOf cX4_lastOf 6 (some .int), Cond.methodLink RX4 99 yX4_feedsOf, Cond.instanceMethod yX4_feedsOf, Cond.selects RX4 yX4_feedsOf yX4_feedsOf, Cond.code yX4_feedsOf cX4_feedsOf 2 (some .int), Cond.methodLink RX4 141 yX4_eatBeast, Cond.instanceMethod yX4_eatBeast, Cond.selects RX4 yX4_eatBeast yX4_eatBeast, Cond.code yX4_eatBeast cX4_eatBeast 2 none, Cond.methodLink RX4 145 yX4_eatOf, Cond.instanceMethod yX4_eatOf]
def wsX4_needOf_r3 : List Cond := [Cond.selects RX4 yX4_eatOf yX4_eatOf, Cond.code yX4_eatOf cX4_eatOf 4 (some .int), Cond.methodLink RX4 96 yX4_eatsOf, Cond.instanceMethod yX4_eatsOf, Cond.selects RX4 yX4_eatsOf yX4_eatsOf, Cond.code yX4_eatsOf cX4_eatsOf 2 (some .int)]
def wsX4_needOf : List Cond := .code yX4_needOf cX4_needOf 6 (some .int) :: ((wsX4_needOf_r1 ++ (wsX4_needOf_r2 ++ wsX4_needOf_r3)) ++ wsX40)
def wsX4_need_r1 : List Cond := [Cond.constantLong RX4 166 (6), Cond.fieldLink RX4 72 "ColdDepotsModel" "living" "I", Cond.fieldLink RX4 16 "ColdDepotsModel" "foods" "[I", Cond.methodLink RX4 163 yX4_areMembers, Cond.instanceMethod yX4_areMembers, Cond.selects RX4 yX4_areMembers yX4_areMembers, Cond.initialized RX4, Cond.code yX4_areMembers cX4_areMembers 2 (some .boolean), Cond.fieldLink RX4 69 "ColdDepotsModel" "members" "I", Cond.methodLink RX4 43 yX4_in, Cond.static yX4_in, Cond.code yX4_in cX4_in 6 (some .boolean), Cond.methodLink RX4 188 yX4_needOf, Cond.instanceMethod yX4_needOf, Cond.selects RX4 yX4_needOf yX4_needOf, Cond.code yX4_needOf cX4_needOf 6 (some .int), Cond.methodLink RX4 184 yX4_comesHome, Cond.instanceMethod yX4_comesHome, Cond.selects RX4 yX4_comesHome yX4_comesHome, Cond.code yX4_comesHome cX4_comesHome 5 (some .boolean), Cond.fieldLink RX4 125 "ColdDepotsModel" "party" "I", Cond.methodLink RX4 159 yX4_goMarch, Cond.instanceMethod yX4_goMarch, Cond.selects RX4 yX4_goMarch yX4_goMarch]
def wsX4_need_r2 : List Cond := [Cond.code yX4_goMarch cX4_goMarch 8 none, Cond.fieldLink RX4 19 "ColdDepotsModel" "left" "[I", Cond.fieldLink RX4 128 "ColdDepotsModel" "carried" "I", Cond.fieldLink RX4 152 "ColdDepotsModel" "diedOn" "I", Cond.methodLink RX4 148 yX4_copy, Cond.static yX4_copy, Cond.code yX4_copy cX4_copy 3 none, Cond.methodLink RX4 131 yX4_keepPulled, Cond.instanceMethod yX4_keepPulled, Cond.selects RX4 yX4_keepPulled yX4_keepPulled, Cond.code yX4_keepPulled cX4_keepPulled 2 none, Cond.methodLink RX4 134 yX4_pullOf, Cond.instanceMethod yX4_pullOf, Cond.selects RX4 yX4_pullOf yX4_pullOf, Cond.code yX4_pullOf cX4_pullOf 4 (some .int), Cond.methodLink RX4 93 yX4_pullsOf, Cond.instanceMethod yX4_pullsOf, Cond.selects RX4 yX4_pullsOf yX4_pullsOf, Cond.code yX4_pullsOf cX4_pullsOf 2 (some .int), Cond.fieldLink RX4 13 "ColdDepotsModel" "kinds" "[I", Cond.methodLink RX4 155 yX4_goStage, Cond.instanceMethod yX4_goStage, Cond.selects RX4 yX4_goStage yX4_goStage, Cond.code yX4_goStage cX4_goStage 6 (some .boolean)]
def wsX4_need_r3 : List Cond := [Cond.methodLink RX4 137 yX4_lastOf, Cond.instanceMethod yX4_lastOf, Cond.selects RX4 yX4_lastOf yX4_lastOf, Cond.code yX4_lastOf cX4_lastOf 6 (some .int), Cond.methodLink RX4 99 yX4_feedsOf, Cond.instanceMethod yX4_feedsOf, Cond.selects RX4 yX4_feedsOf yX4_feedsOf, Cond.code yX4_feedsOf cX4_feedsOf 2 (some .int), Cond.methodLink RX4 141 yX4_eatBeast, Cond.instanceMethod yX4_eatBeast, Cond.selects RX4 yX4_eatBeast yX4_eatBeast, Cond.code yX4_eatBeast cX4_eatBeast 2 none, Cond.methodLink RX4 145 yX4_eatOf, Cond.instanceMethod yX4_eatOf, Cond.selects RX4 yX4_eatOf yX4_eatOf, Cond.code yX4_eatOf cX4_eatOf 4 (some .int), Cond.methodLink RX4 96 yX4_eatsOf, Cond.instanceMethod yX4_eatsOf, Cond.selects RX4 yX4_eatsOf yX4_eatsOf, Cond.code yX4_eatsOf cX4_eatsOf 2 (some .int)]
def wsX4_need : List Cond := .code yX4_need cX4_need 3 (some .int) :: ((wsX4_need_r1 ++ (wsX4_need_r2 ++ wsX4_need_r3)) ++ wsX40)
def wsX4_farOf_r1 : List Cond := [Cond.methodLink RX4 188 yX4_needOf, Cond.instanceMethod yX4_needOf, Cond.selects RX4 yX4_needOf yX4_needOf, Cond.initialized RX4, Cond.code yX4_needOf cX4_needOf 6 (some .int), Cond.methodLink RX4 184 yX4_comesHome, Cond.instanceMethod yX4_comesHome, Cond.selects RX4 yX4_comesHome yX4_comesHome, Cond.code yX4_comesHome cX4_comesHome 5 (some .boolean), Cond.fieldLink RX4 125 "ColdDepotsModel" "party" "I", Cond.methodLink RX4 159 yX4_goMarch, Cond.instanceMethod yX4_goMarch, Cond.selects RX4 yX4_goMarch yX4_goMarch, Cond.code yX4_goMarch cX4_goMarch 8 none, Cond.fieldLink RX4 19 "ColdDepotsModel" "left" "[I", Cond.fieldLink RX4 128 "ColdDepotsModel" "carried" "I", Cond.fieldLink RX4 152 "ColdDepotsModel" "diedOn" "I", Cond.methodLink RX4 148 yX4_copy, Cond.static yX4_copy, Cond.code yX4_copy cX4_copy 3 none, Cond.methodLink RX4 131 yX4_keepPulled, Cond.instanceMethod yX4_keepPulled, Cond.selects RX4 yX4_keepPulled yX4_keepPulled, Cond.code yX4_keepPulled cX4_keepPulled 2 none]
def wsX4_farOf_r2 : List Cond := [Cond.methodLink RX4 134 yX4_pullOf, Cond.instanceMethod yX4_pullOf, Cond.selects RX4 yX4_pullOf yX4_pullOf, Cond.code yX4_pullOf cX4_pullOf 4 (some .int), Cond.fieldLink RX4 69 "ColdDepotsModel" "members" "I", Cond.methodLink RX4 93 yX4_pullsOf, Cond.instanceMethod yX4_pullsOf, Cond.selects RX4 yX4_pullsOf yX4_pullsOf, Cond.code yX4_pullsOf cX4_pullsOf 2 (some .int), Cond.fieldLink RX4 13 "ColdDepotsModel" "kinds" "[I", Cond.methodLink RX4 155 yX4_goStage, Cond.instanceMethod yX4_goStage, Cond.selects RX4 yX4_goStage yX4_goStage, Cond.code yX4_goStage cX4_goStage 6 (some .boolean), Cond.methodLink RX4 137 yX4_lastOf, Cond.instanceMethod yX4_lastOf, Cond.selects RX4 yX4_lastOf yX4_lastOf, Cond.code yX4_lastOf cX4_lastOf 6 (some .int), Cond.methodLink RX4 99 yX4_feedsOf, Cond.instanceMethod yX4_feedsOf, Cond.selects RX4 yX4_feedsOf yX4_feedsOf, Cond.code yX4_feedsOf cX4_feedsOf 2 (some .int), Cond.methodLink RX4 141 yX4_eatBeast, Cond.instanceMethod yX4_eatBeast]
def wsX4_farOf_r3 : List Cond := [Cond.selects RX4 yX4_eatBeast yX4_eatBeast, Cond.code yX4_eatBeast cX4_eatBeast 2 none, Cond.methodLink RX4 145 yX4_eatOf, Cond.instanceMethod yX4_eatOf, Cond.selects RX4 yX4_eatOf yX4_eatOf, Cond.code yX4_eatOf cX4_eatOf 4 (some .int), Cond.methodLink RX4 96 yX4_eatsOf, Cond.instanceMethod yX4_eatsOf, Cond.selects RX4 yX4_eatsOf yX4_eatsOf, Cond.code yX4_eatsOf cX4_eatsOf 2 (some .int)]
def wsX4_farOf : List Cond := .code yX4_farOf cX4_farOf 5 (some .int) :: ((wsX4_farOf_r1 ++ (wsX4_farOf_r2 ++ wsX4_farOf_r3)) ++ wsX40)
def wsX4_far_r1 : List Cond := [Cond.fieldLink RX4 72 "ColdDepotsModel" "living" "I", Cond.fieldLink RX4 16 "ColdDepotsModel" "foods" "[I", Cond.methodLink RX4 163 yX4_areMembers, Cond.instanceMethod yX4_areMembers, Cond.selects RX4 yX4_areMembers yX4_areMembers, Cond.initialized RX4, Cond.code yX4_areMembers cX4_areMembers 2 (some .boolean), Cond.fieldLink RX4 69 "ColdDepotsModel" "members" "I", Cond.methodLink RX4 43 yX4_in, Cond.static yX4_in, Cond.code yX4_in cX4_in 6 (some .boolean), Cond.methodLink RX4 192 yX4_farOf, Cond.instanceMethod yX4_farOf, Cond.selects RX4 yX4_farOf yX4_farOf, Cond.code yX4_farOf cX4_farOf 5 (some .int), Cond.methodLink RX4 188 yX4_needOf, Cond.instanceMethod yX4_needOf, Cond.selects RX4 yX4_needOf yX4_needOf, Cond.code yX4_needOf cX4_needOf 6 (some .int), Cond.methodLink RX4 184 yX4_comesHome, Cond.instanceMethod yX4_comesHome, Cond.selects RX4 yX4_comesHome yX4_comesHome, Cond.code yX4_comesHome cX4_comesHome 5 (some .boolean), Cond.fieldLink RX4 125 "ColdDepotsModel" "party" "I"]
def wsX4_far_r2 : List Cond := [Cond.methodLink RX4 159 yX4_goMarch, Cond.instanceMethod yX4_goMarch, Cond.selects RX4 yX4_goMarch yX4_goMarch, Cond.code yX4_goMarch cX4_goMarch 8 none, Cond.fieldLink RX4 19 "ColdDepotsModel" "left" "[I", Cond.fieldLink RX4 128 "ColdDepotsModel" "carried" "I", Cond.fieldLink RX4 152 "ColdDepotsModel" "diedOn" "I", Cond.methodLink RX4 148 yX4_copy, Cond.static yX4_copy, Cond.code yX4_copy cX4_copy 3 none, Cond.methodLink RX4 131 yX4_keepPulled, Cond.instanceMethod yX4_keepPulled, Cond.selects RX4 yX4_keepPulled yX4_keepPulled, Cond.code yX4_keepPulled cX4_keepPulled 2 none, Cond.methodLink RX4 134 yX4_pullOf, Cond.instanceMethod yX4_pullOf, Cond.selects RX4 yX4_pullOf yX4_pullOf, Cond.code yX4_pullOf cX4_pullOf 4 (some .int), Cond.methodLink RX4 93 yX4_pullsOf, Cond.instanceMethod yX4_pullsOf, Cond.selects RX4 yX4_pullsOf yX4_pullsOf, Cond.code yX4_pullsOf cX4_pullsOf 2 (some .int), Cond.fieldLink RX4 13 "ColdDepotsModel" "kinds" "[I", Cond.methodLink RX4 155 yX4_goStage]
def wsX4_far_r3 : List Cond := [Cond.instanceMethod yX4_goStage, Cond.selects RX4 yX4_goStage yX4_goStage, Cond.code yX4_goStage cX4_goStage 6 (some .boolean), Cond.methodLink RX4 137 yX4_lastOf, Cond.instanceMethod yX4_lastOf, Cond.selects RX4 yX4_lastOf yX4_lastOf, Cond.code yX4_lastOf cX4_lastOf 6 (some .int), Cond.methodLink RX4 99 yX4_feedsOf, Cond.instanceMethod yX4_feedsOf, Cond.selects RX4 yX4_feedsOf yX4_feedsOf, Cond.code yX4_feedsOf cX4_feedsOf 2 (some .int), Cond.methodLink RX4 141 yX4_eatBeast, Cond.instanceMethod yX4_eatBeast, Cond.selects RX4 yX4_eatBeast yX4_eatBeast, Cond.code yX4_eatBeast cX4_eatBeast 2 none, Cond.methodLink RX4 145 yX4_eatOf, Cond.instanceMethod yX4_eatOf, Cond.selects RX4 yX4_eatOf yX4_eatOf, Cond.code yX4_eatOf cX4_eatOf 4 (some .int), Cond.methodLink RX4 96 yX4_eatsOf, Cond.instanceMethod yX4_eatsOf, Cond.selects RX4 yX4_eatsOf yX4_eatsOf, Cond.code yX4_eatsOf cX4_eatsOf 2 (some .int)]
def wsX4_far : List Cond := .code yX4_far cX4_far 2 (some .int) :: ((wsX4_far_r1 ++ (wsX4_far_r2 ++ wsX4_far_r3)) ++ wsX40)
def wsX4_teamOf_r1 : List Cond := [Cond.fieldLink RX4 69 "ColdDepotsModel" "members" "I", Cond.fieldLink RX4 72 "ColdDepotsModel" "living" "I", Cond.fieldLink RX4 16 "ColdDepotsModel" "foods" "[I", Cond.methodLink RX4 196 yX4_ones, Cond.static yX4_ones, Cond.initialized RX4, Cond.code yX4_ones cX4_ones 3 (some .int), Cond.methodLink RX4 188 yX4_needOf, Cond.instanceMethod yX4_needOf, Cond.selects RX4 yX4_needOf yX4_needOf, Cond.code yX4_needOf cX4_needOf 6 (some .int), Cond.methodLink RX4 184 yX4_comesHome, Cond.instanceMethod yX4_comesHome, Cond.selects RX4 yX4_comesHome yX4_comesHome, Cond.code yX4_comesHome cX4_comesHome 5 (some .boolean), Cond.fieldLink RX4 125 "ColdDepotsModel" "party" "I", Cond.methodLink RX4 159 yX4_goMarch, Cond.instanceMethod yX4_goMarch, Cond.selects RX4 yX4_goMarch yX4_goMarch, Cond.code yX4_goMarch cX4_goMarch 8 none, Cond.fieldLink RX4 19 "ColdDepotsModel" "left" "[I", Cond.fieldLink RX4 128 "ColdDepotsModel" "carried" "I", Cond.fieldLink RX4 152 "ColdDepotsModel" "diedOn" "I", Cond.methodLink RX4 148 yX4_copy]
def wsX4_teamOf_r2 : List Cond := [Cond.static yX4_copy, Cond.code yX4_copy cX4_copy 3 none, Cond.methodLink RX4 131 yX4_keepPulled, Cond.instanceMethod yX4_keepPulled, Cond.selects RX4 yX4_keepPulled yX4_keepPulled, Cond.code yX4_keepPulled cX4_keepPulled 2 none, Cond.methodLink RX4 134 yX4_pullOf, Cond.instanceMethod yX4_pullOf, Cond.selects RX4 yX4_pullOf yX4_pullOf, Cond.code yX4_pullOf cX4_pullOf 4 (some .int), Cond.methodLink RX4 93 yX4_pullsOf, Cond.instanceMethod yX4_pullsOf, Cond.selects RX4 yX4_pullsOf yX4_pullsOf, Cond.code yX4_pullsOf cX4_pullsOf 2 (some .int), Cond.fieldLink RX4 13 "ColdDepotsModel" "kinds" "[I", Cond.methodLink RX4 155 yX4_goStage, Cond.instanceMethod yX4_goStage, Cond.selects RX4 yX4_goStage yX4_goStage, Cond.code yX4_goStage cX4_goStage 6 (some .boolean), Cond.methodLink RX4 137 yX4_lastOf, Cond.instanceMethod yX4_lastOf, Cond.selects RX4 yX4_lastOf yX4_lastOf, Cond.code yX4_lastOf cX4_lastOf 6 (some .int), Cond.methodLink RX4 99 yX4_feedsOf]
def wsX4_teamOf_r3 : List Cond := [Cond.instanceMethod yX4_feedsOf, Cond.selects RX4 yX4_feedsOf yX4_feedsOf, Cond.code yX4_feedsOf cX4_feedsOf 2 (some .int), Cond.methodLink RX4 141 yX4_eatBeast, Cond.instanceMethod yX4_eatBeast, Cond.selects RX4 yX4_eatBeast yX4_eatBeast, Cond.code yX4_eatBeast cX4_eatBeast 2 none, Cond.methodLink RX4 145 yX4_eatOf, Cond.instanceMethod yX4_eatOf, Cond.selects RX4 yX4_eatOf yX4_eatOf, Cond.code yX4_eatOf cX4_eatOf 4 (some .int), Cond.methodLink RX4 96 yX4_eatsOf, Cond.instanceMethod yX4_eatsOf, Cond.selects RX4 yX4_eatsOf yX4_eatsOf, Cond.code yX4_eatsOf cX4_eatsOf 2 (some .int)]
def wsX4_teamOf : List Cond := .code yX4_teamOf cX4_teamOf 5 (some .int) :: ((wsX4_teamOf_r1 ++ (wsX4_teamOf_r2 ++ wsX4_teamOf_r3)) ++ wsX40)
def wsX4_team_r1 : List Cond := [Cond.constantLong RX4 166 (6), Cond.fieldLink RX4 199 "ColdDepotsModel" "teamsDone" "I", Cond.methodLink RX4 43 yX4_in, Cond.static yX4_in, Cond.initialized RX4, Cond.code yX4_in cX4_in 6 (some .boolean), Cond.methodLink RX4 87 yX4_lacks, Cond.instanceMethod yX4_lacks, Cond.selects RX4 yX4_lacks yX4_lacks, Cond.code yX4_lacks cX4_lacks 1 (some .boolean), Cond.fieldLink RX4 69 "ColdDepotsModel" "members" "I", Cond.methodLink RX4 202 yX4_teamOf, Cond.instanceMethod yX4_teamOf, Cond.selects RX4 yX4_teamOf yX4_teamOf, Cond.code yX4_teamOf cX4_teamOf 5 (some .int), Cond.fieldLink RX4 72 "ColdDepotsModel" "living" "I", Cond.fieldLink RX4 16 "ColdDepotsModel" "foods" "[I", Cond.methodLink RX4 196 yX4_ones, Cond.static yX4_ones, Cond.code yX4_ones cX4_ones 3 (some .int), Cond.methodLink RX4 188 yX4_needOf, Cond.instanceMethod yX4_needOf, Cond.selects RX4 yX4_needOf yX4_needOf, Cond.code yX4_needOf cX4_needOf 6 (some .int)]
def wsX4_team_r2 : List Cond := [Cond.methodLink RX4 184 yX4_comesHome, Cond.instanceMethod yX4_comesHome, Cond.selects RX4 yX4_comesHome yX4_comesHome, Cond.code yX4_comesHome cX4_comesHome 5 (some .boolean), Cond.fieldLink RX4 125 "ColdDepotsModel" "party" "I", Cond.methodLink RX4 159 yX4_goMarch, Cond.instanceMethod yX4_goMarch, Cond.selects RX4 yX4_goMarch yX4_goMarch, Cond.code yX4_goMarch cX4_goMarch 8 none, Cond.fieldLink RX4 19 "ColdDepotsModel" "left" "[I", Cond.fieldLink RX4 128 "ColdDepotsModel" "carried" "I", Cond.fieldLink RX4 152 "ColdDepotsModel" "diedOn" "I", Cond.methodLink RX4 148 yX4_copy, Cond.static yX4_copy, Cond.code yX4_copy cX4_copy 3 none, Cond.methodLink RX4 131 yX4_keepPulled, Cond.instanceMethod yX4_keepPulled, Cond.selects RX4 yX4_keepPulled yX4_keepPulled, Cond.code yX4_keepPulled cX4_keepPulled 2 none, Cond.methodLink RX4 134 yX4_pullOf, Cond.instanceMethod yX4_pullOf, Cond.selects RX4 yX4_pullOf yX4_pullOf, Cond.code yX4_pullOf cX4_pullOf 4 (some .int), Cond.methodLink RX4 93 yX4_pullsOf]
def wsX4_team_r3 : List Cond := [Cond.instanceMethod yX4_pullsOf, Cond.selects RX4 yX4_pullsOf yX4_pullsOf, Cond.code yX4_pullsOf cX4_pullsOf 2 (some .int), Cond.fieldLink RX4 13 "ColdDepotsModel" "kinds" "[I", Cond.methodLink RX4 155 yX4_goStage, Cond.instanceMethod yX4_goStage, Cond.selects RX4 yX4_goStage yX4_goStage, Cond.code yX4_goStage cX4_goStage 6 (some .boolean), Cond.methodLink RX4 137 yX4_lastOf, Cond.instanceMethod yX4_lastOf, Cond.selects RX4 yX4_lastOf yX4_lastOf, Cond.code yX4_lastOf cX4_lastOf 6 (some .int), Cond.methodLink RX4 99 yX4_feedsOf, Cond.instanceMethod yX4_feedsOf, Cond.selects RX4 yX4_feedsOf yX4_feedsOf, Cond.code yX4_feedsOf cX4_feedsOf 2 (some .int), Cond.methodLink RX4 141 yX4_eatBeast, Cond.instanceMethod yX4_eatBeast, Cond.selects RX4 yX4_eatBeast yX4_eatBeast, Cond.code yX4_eatBeast cX4_eatBeast 2 none, Cond.methodLink RX4 145 yX4_eatOf, Cond.instanceMethod yX4_eatOf, Cond.selects RX4 yX4_eatOf yX4_eatOf, Cond.code yX4_eatOf cX4_eatOf 4 (some .int)]
def wsX4_team_r4 : List Cond := [Cond.methodLink RX4 96 yX4_eatsOf, Cond.instanceMethod yX4_eatsOf, Cond.selects RX4 yX4_eatsOf yX4_eatsOf, Cond.code yX4_eatsOf cX4_eatsOf 2 (some .int)]
def wsX4_team : List Cond := .code yX4_team cX4_team 2 (some .int) :: ((wsX4_team_r1 ++ (wsX4_team_r2 ++ (wsX4_team_r3 ++ wsX4_team_r4))) ++ wsX40)
def wsX4_hear : List Cond := .code yX4_hear cX4_hear 5 (some .int) :: ([.fieldLink RX4 81 "ColdDepotsModel" "heardMany" "I", .fieldLink RX4 22 "ColdDepotsModel" "heards" "[I", .methodLink RX4 170 yX4_isMarch, .instanceMethod yX4_isMarch, .selects RX4 yX4_isMarch yX4_isMarch, .initialized RX4, .code yX4_isMarch cX4_isMarch 4 (some .boolean), .constantLong RX4 166 (6), .constantLong RX4 168 (40), .methodLink RX4 163 yX4_areMembers, .instanceMethod yX4_areMembers, .selects RX4 yX4_areMembers yX4_areMembers, .code yX4_areMembers cX4_areMembers 2 (some .boolean), .fieldLink RX4 69 "ColdDepotsModel" "members" "I", .methodLink RX4 43 yX4_in, .static yX4_in, .code yX4_in cX4_in 6 (some .boolean)] ++ wsX40)
def wsX4_forget : List Cond := .code yX4_forget cX4_forget 2 (some .int) :: ([.fieldLink RX4 81 "ColdDepotsModel" "heardMany" "I"] ++ wsX40)
def wsX4_draw : List Cond := .code yX4_draw cX4_draw 2 (some .int) :: ([.constantLong RX4 205 (1103515245), .fieldLink RX4 207 "ColdDepotsModel" "seedNow" "I", .constantLong RX4 210 (12345), .constantLong RX4 212 (2147483647), .constant RX4 214 (65536)] ++ wsX40)
def wsX4_winters_r1 : List Cond := [Cond.constantLong RX4 215 (20), Cond.constantLong RX4 217 (2), Cond.fieldLink RX4 16 "ColdDepotsModel" "foods" "[I", Cond.fieldLink RX4 28 "ColdDepotsModel" "then" "[I", Cond.fieldLink RX4 207 "ColdDepotsModel" "seedNow" "I", Cond.fieldLink RX4 72 "ColdDepotsModel" "living" "I", Cond.methodLink RX4 43 yX4_in, Cond.static yX4_in, Cond.initialized RX4, Cond.code yX4_in cX4_in 6 (some .boolean), Cond.methodLink RX4 87 yX4_lacks, Cond.instanceMethod yX4_lacks, Cond.selects RX4 yX4_lacks yX4_lacks, Cond.code yX4_lacks cX4_lacks 1 (some .boolean), Cond.fieldLink RX4 69 "ColdDepotsModel" "members" "I", Cond.methodLink RX4 148 yX4_copy, Cond.static yX4_copy, Cond.code yX4_copy cX4_copy 3 none, Cond.methodLink RX4 219 yX4_draw, Cond.instanceMethod yX4_draw, Cond.selects RX4 yX4_draw yX4_draw, Cond.code yX4_draw cX4_draw 2 (some .int), Cond.constantLong RX4 205 (1103515245), Cond.constantLong RX4 210 (12345)]
def wsX4_winters_r2 : List Cond := [Cond.constantLong RX4 212 (2147483647), Cond.constant RX4 214 (65536), Cond.methodLink RX4 174 yX4_sumOf, Cond.static yX4_sumOf, Cond.code yX4_sumOf cX4_sumOf 3 (some .int), Cond.methodLink RX4 192 yX4_farOf, Cond.instanceMethod yX4_farOf, Cond.selects RX4 yX4_farOf yX4_farOf, Cond.code yX4_farOf cX4_farOf 5 (some .int), Cond.methodLink RX4 188 yX4_needOf, Cond.instanceMethod yX4_needOf, Cond.selects RX4 yX4_needOf yX4_needOf, Cond.code yX4_needOf cX4_needOf 6 (some .int), Cond.methodLink RX4 184 yX4_comesHome, Cond.instanceMethod yX4_comesHome, Cond.selects RX4 yX4_comesHome yX4_comesHome, Cond.code yX4_comesHome cX4_comesHome 5 (some .boolean), Cond.fieldLink RX4 125 "ColdDepotsModel" "party" "I", Cond.methodLink RX4 159 yX4_goMarch, Cond.instanceMethod yX4_goMarch, Cond.selects RX4 yX4_goMarch yX4_goMarch, Cond.code yX4_goMarch cX4_goMarch 8 none, Cond.fieldLink RX4 19 "ColdDepotsModel" "left" "[I", Cond.fieldLink RX4 128 "ColdDepotsModel" "carried" "I"]
def wsX4_winters_r3 : List Cond := [Cond.fieldLink RX4 152 "ColdDepotsModel" "diedOn" "I", Cond.methodLink RX4 131 yX4_keepPulled, Cond.instanceMethod yX4_keepPulled, Cond.selects RX4 yX4_keepPulled yX4_keepPulled, Cond.code yX4_keepPulled cX4_keepPulled 2 none, Cond.methodLink RX4 134 yX4_pullOf, Cond.instanceMethod yX4_pullOf, Cond.selects RX4 yX4_pullOf yX4_pullOf, Cond.code yX4_pullOf cX4_pullOf 4 (some .int), Cond.methodLink RX4 93 yX4_pullsOf, Cond.instanceMethod yX4_pullsOf, Cond.selects RX4 yX4_pullsOf yX4_pullsOf, Cond.code yX4_pullsOf cX4_pullsOf 2 (some .int), Cond.fieldLink RX4 13 "ColdDepotsModel" "kinds" "[I", Cond.methodLink RX4 155 yX4_goStage, Cond.instanceMethod yX4_goStage, Cond.selects RX4 yX4_goStage yX4_goStage, Cond.code yX4_goStage cX4_goStage 6 (some .boolean), Cond.methodLink RX4 137 yX4_lastOf, Cond.instanceMethod yX4_lastOf, Cond.selects RX4 yX4_lastOf yX4_lastOf, Cond.code yX4_lastOf cX4_lastOf 6 (some .int), Cond.methodLink RX4 99 yX4_feedsOf, Cond.instanceMethod yX4_feedsOf]
def wsX4_winters_r4 : List Cond := [Cond.selects RX4 yX4_feedsOf yX4_feedsOf, Cond.code yX4_feedsOf cX4_feedsOf 2 (some .int), Cond.methodLink RX4 141 yX4_eatBeast, Cond.instanceMethod yX4_eatBeast, Cond.selects RX4 yX4_eatBeast yX4_eatBeast, Cond.code yX4_eatBeast cX4_eatBeast 2 none, Cond.methodLink RX4 145 yX4_eatOf, Cond.instanceMethod yX4_eatOf, Cond.selects RX4 yX4_eatOf yX4_eatOf, Cond.code yX4_eatOf cX4_eatOf 4 (some .int), Cond.methodLink RX4 96 yX4_eatsOf, Cond.instanceMethod yX4_eatsOf, Cond.selects RX4 yX4_eatsOf yX4_eatsOf, Cond.code yX4_eatsOf cX4_eatsOf 2 (some .int)]
def wsX4_winters : List Cond := .code yX4_winters cX4_winters 7 (some .int) :: ((wsX4_winters_r1 ++ (wsX4_winters_r2 ++ (wsX4_winters_r3 ++ wsX4_winters_r4))) ++ wsX40)
def wsX4_image : List Cond := .code yX4_image cX4_image 1 (some .int) :: ([.fieldLink RX4 16 "ColdDepotsModel" "foods" "[I", .fieldLink RX4 31 "ColdDepotsModel" "keptFoods" "[I", .fieldLink RX4 22 "ColdDepotsModel" "heards" "[I", .fieldLink RX4 34 "ColdDepotsModel" "keptHeards" "[I", .fieldLink RX4 72 "ColdDepotsModel" "living" "I", .fieldLink RX4 222 "ColdDepotsModel" "keptLiving" "I", .fieldLink RX4 75 "ColdDepotsModel" "marches" "I", .fieldLink RX4 225 "ColdDepotsModel" "keptMarches" "I", .fieldLink RX4 78 "ColdDepotsModel" "cameHome" "I", .fieldLink RX4 228 "ColdDepotsModel" "keptHome" "I", .fieldLink RX4 81 "ColdDepotsModel" "heardMany" "I", .fieldLink RX4 231 "ColdDepotsModel" "keptHeard" "I", .fieldLink RX4 84 "ColdDepotsModel" "campsRead" "I", .fieldLink RX4 37 "ColdDepotsModel" "keptCamp" "I", .methodLink RX4 87 yX4_lacks, .instanceMethod yX4_lacks, .selects RX4 yX4_lacks yX4_lacks, .initialized RX4, .code yX4_lacks cX4_lacks 1 (some .boolean), .fieldLink RX4 69 "ColdDepotsModel" "members" "I", .methodLink RX4 148 yX4_copy, .static yX4_copy, .code yX4_copy cX4_copy 3 none] ++ wsX40)
def wsX4_restore : List Cond := .code yX4_restore cX4_restore 1 (some .int) :: ([.fieldLink RX4 37 "ColdDepotsModel" "keptCamp" "I", .fieldLink RX4 84 "ColdDepotsModel" "campsRead" "I", .fieldLink RX4 31 "ColdDepotsModel" "keptFoods" "[I", .fieldLink RX4 16 "ColdDepotsModel" "foods" "[I", .fieldLink RX4 34 "ColdDepotsModel" "keptHeards" "[I", .fieldLink RX4 22 "ColdDepotsModel" "heards" "[I", .fieldLink RX4 222 "ColdDepotsModel" "keptLiving" "I", .fieldLink RX4 72 "ColdDepotsModel" "living" "I", .fieldLink RX4 225 "ColdDepotsModel" "keptMarches" "I", .fieldLink RX4 75 "ColdDepotsModel" "marches" "I", .fieldLink RX4 228 "ColdDepotsModel" "keptHome" "I", .fieldLink RX4 78 "ColdDepotsModel" "cameHome" "I", .fieldLink RX4 231 "ColdDepotsModel" "keptHeard" "I", .fieldLink RX4 81 "ColdDepotsModel" "heardMany" "I", .methodLink RX4 148 yX4_copy, .static yX4_copy, .initialized RX4, .code yX4_copy cX4_copy 3 none] ++ wsX40)
def wsX4_countOf_r1 : List Cond := [Cond.fieldLink RX4 69 "ColdDepotsModel" "members" "I", Cond.fieldLink RX4 72 "ColdDepotsModel" "living" "I", Cond.fieldLink RX4 16 "ColdDepotsModel" "foods" "[I", Cond.fieldLink RX4 75 "ColdDepotsModel" "marches" "I", Cond.fieldLink RX4 78 "ColdDepotsModel" "cameHome" "I", Cond.fieldLink RX4 81 "ColdDepotsModel" "heardMany" "I", Cond.fieldLink RX4 47 "ColdDepotsModel" "pageMany" "I", Cond.fieldLink RX4 84 "ColdDepotsModel" "campsRead" "I", Cond.fieldLink RX4 199 "ColdDepotsModel" "teamsDone" "I", Cond.methodLink RX4 196 yX4_ones, Cond.static yX4_ones, Cond.initialized RX4, Cond.code yX4_ones cX4_ones 3 (some .int), Cond.methodLink RX4 174 yX4_sumOf, Cond.static yX4_sumOf, Cond.code yX4_sumOf cX4_sumOf 3 (some .int), Cond.methodLink RX4 134 yX4_pullOf, Cond.instanceMethod yX4_pullOf, Cond.selects RX4 yX4_pullOf yX4_pullOf, Cond.code yX4_pullOf cX4_pullOf 4 (some .int), Cond.methodLink RX4 93 yX4_pullsOf, Cond.instanceMethod yX4_pullsOf, Cond.selects RX4 yX4_pullsOf yX4_pullsOf, Cond.code yX4_pullsOf cX4_pullsOf 2 (some .int)]
def wsX4_countOf_r2 : List Cond := [Cond.fieldLink RX4 13 "ColdDepotsModel" "kinds" "[I", Cond.methodLink RX4 145 yX4_eatOf, Cond.instanceMethod yX4_eatOf, Cond.selects RX4 yX4_eatOf yX4_eatOf, Cond.code yX4_eatOf cX4_eatOf 4 (some .int), Cond.methodLink RX4 96 yX4_eatsOf, Cond.instanceMethod yX4_eatsOf, Cond.selects RX4 yX4_eatsOf yX4_eatsOf, Cond.code yX4_eatsOf cX4_eatsOf 2 (some .int)]
def wsX4_countOf : List Cond := .code yX4_countOf cX4_countOf 2 (some .int) :: ((wsX4_countOf_r1 ++ wsX4_countOf_r2) ++ wsX40)
def wsX4_count_r1 : List Cond := [Cond.methodLink RX4 234 yX4_countOf, Cond.instanceMethod yX4_countOf, Cond.selects RX4 yX4_countOf yX4_countOf, Cond.initialized RX4, Cond.code yX4_countOf cX4_countOf 2 (some .int), Cond.fieldLink RX4 69 "ColdDepotsModel" "members" "I", Cond.fieldLink RX4 72 "ColdDepotsModel" "living" "I", Cond.fieldLink RX4 16 "ColdDepotsModel" "foods" "[I", Cond.fieldLink RX4 75 "ColdDepotsModel" "marches" "I", Cond.fieldLink RX4 78 "ColdDepotsModel" "cameHome" "I", Cond.fieldLink RX4 81 "ColdDepotsModel" "heardMany" "I", Cond.fieldLink RX4 47 "ColdDepotsModel" "pageMany" "I", Cond.fieldLink RX4 84 "ColdDepotsModel" "campsRead" "I", Cond.fieldLink RX4 199 "ColdDepotsModel" "teamsDone" "I", Cond.methodLink RX4 196 yX4_ones, Cond.static yX4_ones, Cond.code yX4_ones cX4_ones 3 (some .int), Cond.methodLink RX4 174 yX4_sumOf, Cond.static yX4_sumOf, Cond.code yX4_sumOf cX4_sumOf 3 (some .int), Cond.methodLink RX4 134 yX4_pullOf, Cond.instanceMethod yX4_pullOf, Cond.selects RX4 yX4_pullOf yX4_pullOf, Cond.code yX4_pullOf cX4_pullOf 4 (some .int)]
def wsX4_count_r2 : List Cond := [Cond.methodLink RX4 93 yX4_pullsOf, Cond.instanceMethod yX4_pullsOf, Cond.selects RX4 yX4_pullsOf yX4_pullsOf, Cond.code yX4_pullsOf cX4_pullsOf 2 (some .int), Cond.fieldLink RX4 13 "ColdDepotsModel" "kinds" "[I", Cond.methodLink RX4 145 yX4_eatOf, Cond.instanceMethod yX4_eatOf, Cond.selects RX4 yX4_eatOf yX4_eatOf, Cond.code yX4_eatOf cX4_eatOf 4 (some .int), Cond.methodLink RX4 96 yX4_eatsOf, Cond.instanceMethod yX4_eatsOf, Cond.selects RX4 yX4_eatsOf yX4_eatsOf, Cond.code yX4_eatsOf cX4_eatsOf 2 (some .int)]
def wsX4_count : List Cond := .code yX4_count cX4_count 2 (some .int) :: ((wsX4_count_r1 ++ wsX4_count_r2) ++ wsX40)
def wsX4_say : List Cond := .code yX4_say cX4_say 3 none :: ([.constantLong RX4 237 (31), .fieldLink RX4 239 "ColdDepotsModel" "hash" "J"] ++ wsX40)
def wsX4_digest_r1 : List Cond := [Cond.constantLong RX4 243 (1051), Cond.fieldLink RX4 239 "ColdDepotsModel" "hash" "J", Cond.fieldLink RX4 69 "ColdDepotsModel" "members" "I", Cond.fieldLink RX4 16 "ColdDepotsModel" "foods" "[I", Cond.fieldLink RX4 72 "ColdDepotsModel" "living" "I", Cond.fieldLink RX4 47 "ColdDepotsModel" "pageMany" "I", Cond.fieldLink RX4 7 "ColdDepotsModel" "page" "[I", Cond.methodLink RX4 105 yX4_tellMember, Cond.instanceMethod yX4_tellMember, Cond.selects RX4 yX4_tellMember yX4_tellMember, Cond.initialized RX4, Cond.code yX4_tellMember cX4_tellMember 3 (some .int), Cond.fieldLink RX4 13 "ColdDepotsModel" "kinds" "[I", Cond.methodLink RX4 93 yX4_pullsOf, Cond.instanceMethod yX4_pullsOf, Cond.selects RX4 yX4_pullsOf yX4_pullsOf, Cond.code yX4_pullsOf cX4_pullsOf 2 (some .int), Cond.methodLink RX4 96 yX4_eatsOf, Cond.instanceMethod yX4_eatsOf, Cond.selects RX4 yX4_eatsOf yX4_eatsOf, Cond.code yX4_eatsOf cX4_eatsOf 2 (some .int), Cond.methodLink RX4 99 yX4_feedsOf, Cond.instanceMethod yX4_feedsOf, Cond.selects RX4 yX4_feedsOf yX4_feedsOf]
def wsX4_digest_r2 : List Cond := [Cond.code yX4_feedsOf cX4_feedsOf 2 (some .int), Cond.methodLink RX4 245 yX4_say, Cond.instanceMethod yX4_say, Cond.selects RX4 yX4_say yX4_say, Cond.code yX4_say cX4_say 3 none, Cond.constantLong RX4 237 (31), Cond.methodLink RX4 87 yX4_lacks, Cond.instanceMethod yX4_lacks, Cond.selects RX4 yX4_lacks yX4_lacks, Cond.code yX4_lacks cX4_lacks 1 (some .boolean), Cond.methodLink RX4 111 yX4_layOf, Cond.instanceMethod yX4_layOf, Cond.selects RX4 yX4_layOf yX4_layOf, Cond.code yX4_layOf cX4_layOf 7 (some .int), Cond.fieldLink RX4 25 "ColdDepotsModel" "other" "[I", Cond.fieldLink RX4 81 "ColdDepotsModel" "heardMany" "I", Cond.fieldLink RX4 22 "ColdDepotsModel" "heards" "[I", Cond.methodLink RX4 148 yX4_copy, Cond.static yX4_copy, Cond.code yX4_copy cX4_copy 3 none, Cond.methodLink RX4 184 yX4_comesHome, Cond.instanceMethod yX4_comesHome, Cond.selects RX4 yX4_comesHome yX4_comesHome, Cond.code yX4_comesHome cX4_comesHome 5 (some .boolean)]
def wsX4_digest_r3 : List Cond := [Cond.fieldLink RX4 125 "ColdDepotsModel" "party" "I", Cond.methodLink RX4 159 yX4_goMarch, Cond.instanceMethod yX4_goMarch, Cond.selects RX4 yX4_goMarch yX4_goMarch, Cond.code yX4_goMarch cX4_goMarch 8 none, Cond.fieldLink RX4 19 "ColdDepotsModel" "left" "[I", Cond.fieldLink RX4 128 "ColdDepotsModel" "carried" "I", Cond.fieldLink RX4 152 "ColdDepotsModel" "diedOn" "I", Cond.methodLink RX4 131 yX4_keepPulled, Cond.instanceMethod yX4_keepPulled, Cond.selects RX4 yX4_keepPulled yX4_keepPulled, Cond.code yX4_keepPulled cX4_keepPulled 2 none, Cond.methodLink RX4 134 yX4_pullOf, Cond.instanceMethod yX4_pullOf, Cond.selects RX4 yX4_pullOf yX4_pullOf, Cond.code yX4_pullOf cX4_pullOf 4 (some .int), Cond.methodLink RX4 155 yX4_goStage, Cond.instanceMethod yX4_goStage, Cond.selects RX4 yX4_goStage yX4_goStage, Cond.code yX4_goStage cX4_goStage 6 (some .boolean), Cond.methodLink RX4 137 yX4_lastOf, Cond.instanceMethod yX4_lastOf, Cond.selects RX4 yX4_lastOf yX4_lastOf, Cond.code yX4_lastOf cX4_lastOf 6 (some .int)]
def wsX4_digest_r4 : List Cond := [Cond.methodLink RX4 141 yX4_eatBeast, Cond.instanceMethod yX4_eatBeast, Cond.selects RX4 yX4_eatBeast yX4_eatBeast, Cond.code yX4_eatBeast cX4_eatBeast 2 none, Cond.methodLink RX4 145 yX4_eatOf, Cond.instanceMethod yX4_eatOf, Cond.selects RX4 yX4_eatOf yX4_eatOf, Cond.code yX4_eatOf cX4_eatOf 4 (some .int), Cond.methodLink RX4 114 yX4_tryOf, Cond.instanceMethod yX4_tryOf, Cond.selects RX4 yX4_tryOf yX4_tryOf, Cond.code yX4_tryOf cX4_tryOf 9 (some .int), Cond.methodLink RX4 192 yX4_farOf, Cond.instanceMethod yX4_farOf, Cond.selects RX4 yX4_farOf yX4_farOf, Cond.code yX4_farOf cX4_farOf 5 (some .int), Cond.methodLink RX4 188 yX4_needOf, Cond.instanceMethod yX4_needOf, Cond.selects RX4 yX4_needOf yX4_needOf, Cond.code yX4_needOf cX4_needOf 6 (some .int), Cond.methodLink RX4 180 yX4_wouldOf, Cond.instanceMethod yX4_wouldOf, Cond.selects RX4 yX4_wouldOf yX4_wouldOf, Cond.code yX4_wouldOf cX4_wouldOf 5 (some .int)]
def wsX4_digest_r5 : List Cond := [Cond.methodLink RX4 174 yX4_sumOf, Cond.static yX4_sumOf, Cond.code yX4_sumOf cX4_sumOf 3 (some .int), Cond.methodLink RX4 234 yX4_countOf, Cond.instanceMethod yX4_countOf, Cond.selects RX4 yX4_countOf yX4_countOf, Cond.code yX4_countOf cX4_countOf 2 (some .int), Cond.fieldLink RX4 75 "ColdDepotsModel" "marches" "I", Cond.fieldLink RX4 78 "ColdDepotsModel" "cameHome" "I", Cond.fieldLink RX4 84 "ColdDepotsModel" "campsRead" "I", Cond.fieldLink RX4 199 "ColdDepotsModel" "teamsDone" "I", Cond.methodLink RX4 196 yX4_ones, Cond.static yX4_ones, Cond.code yX4_ones cX4_ones 3 (some .int)]
def wsX4_digest : List Cond := .code yX4_digest cX4_digest 3 (some .long) :: ((wsX4_digest_r1 ++ (wsX4_digest_r2 ++ (wsX4_digest_r3 ++ (wsX4_digest_r4 ++ wsX4_digest_r5)))) ++ wsX40)
def wsJ9_max_7cf53 : List Cond := .code yJ9_max_7cf53 cJ9_max_7cf53 2 (some .int) :: ([])
def wsJ9_min_7cf53 : List Cond := .code yJ9_min_7cf53 cJ9_min_7cf53 2 (some .int) :: ([])
def wsL_law_r1 : List Cond := [Cond.classLink RL 7 RX3, Cond.instantiable RX3 8, Cond.initialized RX3, Cond.classLink RL 10 RX4, Cond.instantiable RX4 28, Cond.initialized RX4, Cond.methodLink RL 9 yX3_init, Cond.instanceMethod yX3_init, Cond.code yX3_init cX3_init 1 none, Cond.methodLink RX3 1 objectInit, Cond.instanceMethod objectInit, Cond.code objectInit ⟨#[0xb1]⟩ 1 none, Cond.classLink RX3 7 RX0, Cond.instantiable RX0 2, Cond.initialized RX0, Cond.fieldLink RX3 10 "ColdDepots" "page" "LColdDepots$Page;", Cond.classLink RX3 16 RX1, Cond.instantiable RX1 8, Cond.initialized RX1, Cond.fieldLink RX3 19 "ColdDepots" "party" "LColdDepots$Party;", Cond.classLink RX3 23 RX2, Cond.instantiable RX2 9, Cond.initialized RX2, Cond.fieldLink RX3 26 "ColdDepots" "now" "LColdDepots$Standing;"]
def wsL_law_r2 : List Cond := [Cond.fieldLink RX3 30 "ColdDepots" "kept" "LColdDepots$Standing;", Cond.arrayClass .int, Cond.fieldLink RX3 33 "ColdDepots" "wintered" "[I", Cond.instanceMethod yX0_init, Cond.code yX0_init cX0_init 1 none, Cond.methodLink RX0 3 objectInit, Cond.fieldLink RX0 9 "ColdDepots$Page" "codes" "[I", Cond.instanceMethod yX1_init, Cond.code yX1_init cX1_init 1 none, Cond.methodLink RX1 3 objectInit, Cond.fieldLink RX1 9 "ColdDepots$Party" "kinds" "[I", Cond.fieldLink RX1 15 "ColdDepots$Party" "cairns" "[I", Cond.instanceMethod yX2_init, Cond.code yX2_init cX2_init 1 none, Cond.methodLink RX2 3 objectInit, Cond.fieldLink RX2 9 "ColdDepots$Standing" "cairns" "[I", Cond.fieldLink RX2 15 "ColdDepots$Standing" "heardMembers" "[I", Cond.fieldLink RX2 18 "ColdDepots$Standing" "heardStages" "[I", Cond.fieldLink RX2 21 "ColdDepots$Standing" "heardFoods" "[I", Cond.fieldLink RX2 24 "ColdDepots$Standing" "heardHomes" "[I", Cond.methodLink RL 12 yX4_init, Cond.instanceMethod yX4_init, Cond.code yX4_init cX4_init 1 none, Cond.methodLink RX4 1 objectInit]
def wsL_law_r3 : List Cond := [Cond.fieldLink RX4 7 "ColdDepotsModel" "page" "[I", Cond.fieldLink RX4 13 "ColdDepotsModel" "kinds" "[I", Cond.fieldLink RX4 16 "ColdDepotsModel" "foods" "[I", Cond.fieldLink RX4 19 "ColdDepotsModel" "left" "[I", Cond.fieldLink RX4 22 "ColdDepotsModel" "heards" "[I", Cond.fieldLink RX4 25 "ColdDepotsModel" "other" "[I", Cond.fieldLink RX4 28 "ColdDepotsModel" "then" "[I", Cond.fieldLink RX4 31 "ColdDepotsModel" "keptFoods" "[I", Cond.fieldLink RX4 34 "ColdDepotsModel" "keptHeards" "[I", Cond.fieldLink RX4 37 "ColdDepotsModel" "keptCamp" "I", Cond.methodLink RL 13 yX3_letter, Cond.instanceMethod yX3_letter, Cond.selects RX3 yX3_letter yX3_letter, Cond.code yX3_letter cX3_letter 2 (some .int), Cond.instanceMethod yX0_add, Cond.selects RX0 yX0_add yX0_add, Cond.code yX0_add cX0_add 2 (some .boolean), Cond.fieldLink RX0 15 "ColdDepots$Page" "length" "I", Cond.static yX3_put, Cond.code yX3_put cX3_put 3 none, Cond.methodLink RL 17 yX4_letter, Cond.instanceMethod yX4_letter, Cond.selects RX4 yX4_letter yX4_letter, Cond.code yX4_letter cX4_letter 2 (some .int)]
def wsL_law_r4 : List Cond := [Cond.constantLong RX4 41 (126), Cond.fieldLink RX4 47 "ColdDepotsModel" "pageMany" "I", Cond.methodLink RX4 43 yX4_in, Cond.static yX4_in, Cond.code yX4_in cX4_in 6 (some .boolean), Cond.methodLink RL 18 yX3_blank, Cond.instanceMethod yX3_blank, Cond.selects RX3 yX3_blank yX3_blank, Cond.code yX3_blank cX3_blank 2 (some .int), Cond.methodLink RL 22 yX4_blank, Cond.instanceMethod yX4_blank, Cond.selects RX4 yX4_blank yX4_blank, Cond.code yX4_blank cX4_blank 2 (some .int), Cond.methodLink RL 23 yX3_fault, Cond.instanceMethod yX3_fault, Cond.selects RX3 yX3_fault yX3_fault, Cond.code yX3_fault cX3_fault 1 (some .int), Cond.instanceMethod yX0_firstWrong, Cond.selects RX0 yX0_firstWrong yX0_firstWrong, Cond.code yX0_firstWrong cX0_firstWrong 5 (some .int), Cond.methodLink RX0 27 yX0_codeAt, Cond.instanceMethod yX0_codeAt, Cond.selects RX0 yX0_codeAt yX0_codeAt, Cond.code yX0_codeAt cX0_codeAt 2 (some .int)]
def wsL_law_r5 : List Cond := [Cond.static yX3_at, Cond.code yX3_at cX3_at 2 (some .int), Cond.static yX3_kindOf, Cond.code yX3_kindOf cX3_kindOf 1 (some .int), Cond.methodLink RL 26 yX4_fault, Cond.instanceMethod yX4_fault, Cond.selects RX4 yX4_fault yX4_fault, Cond.code yX4_fault cX4_fault 1 (some .int), Cond.methodLink RX4 65 yX4_faultOf, Cond.instanceMethod yX4_faultOf, Cond.selects RX4 yX4_faultOf yX4_faultOf, Cond.code yX4_faultOf cX4_faultOf 2 (some .int), Cond.fieldLink RX4 50 "ColdDepotsModel" "endAt" "I", Cond.methodLink RX4 61 yX4_isGood, Cond.instanceMethod yX4_isGood, Cond.selects RX4 yX4_isGood yX4_isGood, Cond.code yX4_isGood cX4_isGood 3 (some .boolean), Cond.constantLong RX4 53 (48), Cond.constantLong RX4 55 (57), Cond.methodLink RX4 57 yX4_kindBy, Cond.static yX4_kindBy, Cond.code yX4_kindBy cX4_kindBy 1 (some .int), Cond.methodLink RL 27 yX3_camp, Cond.instanceMethod yX3_camp]
def wsL_law_r6 : List Cond := [Cond.selects RX3 yX3_camp yX3_camp, Cond.code yX3_camp cX3_camp 2 (some .int), Cond.fieldLink RX3 80 "ColdDepots" "imageKept" "Z", Cond.fieldLink RX3 84 "ColdDepots" "campsRead" "I", Cond.instanceMethod yX0_isCamp, Cond.selects RX0 yX0_isCamp yX0_isCamp, Cond.code yX0_isCamp cX0_isCamp 1 (some .boolean), Cond.methodLink RX0 34 yX0_firstWrong, Cond.methodLink RX3 63 yX3_kindOf, Cond.methodLink RX3 66 yX3_put, Cond.instanceMethod yX1_all, Cond.selects RX1 yX1_all yX1_all, Cond.code yX1_all cX1_all 1 (some .int), Cond.fieldLink RX1 18 "ColdDepots$Party" "size" "I", Cond.instanceMethod yX2_begin, Cond.selects RX2 yX2_begin yX2_begin, Cond.code yX2_begin cX2_begin 2 none, Cond.fieldLink RX2 27 "ColdDepots$Standing" "alive" "I", Cond.fieldLink RX2 31 "ColdDepots$Standing" "marches" "I", Cond.fieldLink RX2 34 "ColdDepots$Standing" "comingsHome" "I", Cond.fieldLink RX2 37 "ColdDepots$Standing" "heard" "I", Cond.methodLink RL 30 yX4_camp, Cond.instanceMethod yX4_camp, Cond.selects RX4 yX4_camp yX4_camp]
def wsL_law_r7 : List Cond := [Cond.code yX4_camp cX4_camp 2 (some .int), Cond.fieldLink RX4 69 "ColdDepotsModel" "members" "I", Cond.fieldLink RX4 72 "ColdDepotsModel" "living" "I", Cond.fieldLink RX4 75 "ColdDepotsModel" "marches" "I", Cond.fieldLink RX4 78 "ColdDepotsModel" "cameHome" "I", Cond.fieldLink RX4 81 "ColdDepotsModel" "heardMany" "I", Cond.fieldLink RX4 84 "ColdDepotsModel" "campsRead" "I", Cond.methodLink RL 31 yX3_member, Cond.instanceMethod yX3_member, Cond.selects RX3 yX3_member yX3_member, Cond.code yX3_member cX3_member 4 (some .int), Cond.fieldLink RX3 91 "ColdDepots" "PULLS" "[I", Cond.fieldLink RX3 94 "ColdDepots" "EATS" "[I", Cond.fieldLink RX3 97 "ColdDepots" "FEEDS" "[I", Cond.methodLink RX3 87 yX3_at, Cond.methodLink RL 35 yX4_member, Cond.instanceMethod yX4_member, Cond.selects RX4 yX4_member yX4_member, Cond.code yX4_member cX4_member 3 (some .int), Cond.methodLink RX4 102 yX4_isMember, Cond.instanceMethod yX4_isMember, Cond.selects RX4 yX4_isMember yX4_isMember, Cond.code yX4_isMember cX4_isMember 2 (some .boolean), Cond.methodLink RX4 105 yX4_tellMember]
def wsL_law_r8 : List Cond := [Cond.instanceMethod yX4_tellMember, Cond.selects RX4 yX4_tellMember yX4_tellMember, Cond.code yX4_tellMember cX4_tellMember 3 (some .int), Cond.methodLink RX4 93 yX4_pullsOf, Cond.instanceMethod yX4_pullsOf, Cond.selects RX4 yX4_pullsOf yX4_pullsOf, Cond.code yX4_pullsOf cX4_pullsOf 2 (some .int), Cond.methodLink RX4 96 yX4_eatsOf, Cond.instanceMethod yX4_eatsOf, Cond.selects RX4 yX4_eatsOf yX4_eatsOf, Cond.code yX4_eatsOf cX4_eatsOf 2 (some .int), Cond.methodLink RX4 99 yX4_feedsOf, Cond.instanceMethod yX4_feedsOf, Cond.selects RX4 yX4_feedsOf yX4_feedsOf, Cond.code yX4_feedsOf cX4_feedsOf 2 (some .int), Cond.methodLink RL 36 yX3_as, Cond.instanceMethod yX3_as, Cond.selects RX3 yX3_as yX3_as, Cond.code yX3_as cX3_as 3 (some .int), Cond.methodLink RX3 103 yX3_isOf, Cond.static yX3_isOf, Cond.code yX3_isOf cX3_isOf 2 (some .boolean), Cond.methodLink RL 39 yX4_as, Cond.instanceMethod yX4_as]
def wsL_law_r9 : List Cond := [Cond.selects RX4 yX4_as yX4_as, Cond.code yX4_as cX4_as 5 (some .int), Cond.constantLong RX4 109 (4), Cond.methodLink RL 40 yX3_cairn, Cond.instanceMethod yX3_cairn, Cond.selects RX3 yX3_cairn yX3_cairn, Cond.code yX3_cairn cX3_cairn 3 (some .int), Cond.methodLink RX3 107 yX3_isNoCairn, Cond.instanceMethod yX3_isNoCairn, Cond.selects RX3 yX3_isNoCairn yX3_isNoCairn, Cond.code yX3_isNoCairn cX3_isNoCairn 2 (some .boolean), Cond.methodLink RX3 110 yX3_amountsAt, Cond.instanceMethod yX3_amountsAt, Cond.selects RX3 yX3_amountsAt yX3_amountsAt, Cond.code yX3_amountsAt cX3_amountsAt 4 (some .int), Cond.methodLink RX3 217 yX3_isAllSo, Cond.instanceMethod yX3_isAllSo, Cond.selects RX3 yX3_isAllSo yX3_isAllSo, Cond.code yX3_isAllSo cX3_isAllSo 6 (some .boolean), Cond.instanceMethod yX1_setCairns, Cond.selects RX1 yX1_setCairns yX1_setCairns, Cond.code yX1_setCairns cX1_setCairns 2 none, Cond.static yX3_copy, Cond.code yX3_copy cX3_copy 3 none]
def wsL_law_r10 : List Cond := [Cond.instanceMethod yX1_go, Cond.selects RX1 yX1_go yX1_go, Cond.code yX1_go cX1_go 6 (some .boolean), Cond.fieldLink RX1 40 "ColdDepots$Party" "alive" "I", Cond.fieldLink RX1 43 "ColdDepots$Party" "food" "I", Cond.fieldLink RX1 46 "ColdDepots$Party" "eat" "I", Cond.methodLink RX1 30 yX1_setOut, Cond.instanceMethod yX1_setOut, Cond.selects RX1 yX1_setOut yX1_setOut, Cond.code yX1_setOut cX1_setOut 3 none, Cond.fieldLink RX1 63 "ColdDepots$Party" "pull" "I", Cond.methodLink RX1 69 Lib.Math.min.name, Cond.static Lib.Math.min.name, Cond.initialized "java/lang/Math", Cond.code Lib.Math.min.name Lib.Math.min.code 2 (some .int), Cond.fieldLink RX1 75 "ColdDepots$Party" "diedOn" "I", Cond.methodLink RX1 59 yX1_together, Cond.instanceMethod yX1_together, Cond.selects RX1 yX1_together yX1_together, Cond.code yX1_together cX1_together 5 (some .int), Cond.methodLink RX1 34 yX1_eatPonies, Cond.instanceMethod yX1_eatPonies, Cond.selects RX1 yX1_eatPonies yX1_eatPonies, Cond.code yX1_eatPonies cX1_eatPonies 2 none]
def wsL_law_r11 : List Cond := [Cond.methodLink RX1 78 yX1_devour, Cond.instanceMethod yX1_devour, Cond.selects RX1 yX1_devour yX1_devour, Cond.code yX1_devour cX1_devour 3 none, Cond.methodLink RX1 37 yX1_eatBeasts, Cond.instanceMethod yX1_eatBeasts, Cond.selects RX1 yX1_eatBeasts yX1_eatBeasts, Cond.code yX1_eatBeasts cX1_eatBeasts 3 none, Cond.methodLink RX1 49 yX1_dieOn, Cond.instanceMethod yX1_dieOn, Cond.selects RX1 yX1_dieOn yX1_dieOn, Cond.code yX1_dieOn cX1_dieOn 2 none, Cond.methodLink RX1 53 yX1_takeUpAt, Cond.instanceMethod yX1_takeUpAt, Cond.selects RX1 yX1_takeUpAt yX1_takeUpAt, Cond.code yX1_takeUpAt cX1_takeUpAt 3 none, Cond.methodLink RX3 113 yX3_bestTrial, Cond.instanceMethod yX3_bestTrial, Cond.selects RX3 yX3_bestTrial yX3_bestTrial, Cond.code yX3_bestTrial cX3_bestTrial 8 (some .int), Cond.methodLink RX3 187 yJ6_bitCount_0f7a4, Cond.static yJ6_bitCount_0f7a4, Cond.initialized RJ6, Cond.code yJ6_bitCount_0f7a4 cJ6_bitCount_0f7a4 1 (some .int)]
def wsL_law_r12 : List Cond := [Cond.constant RJ6 265 (1431655765), Cond.constant RJ6 266 (858993459), Cond.constant RJ6 267 (252645135), Cond.methodLink RX3 214 yX3_mostFoodOf, Cond.instanceMethod yX3_mostFoodOf, Cond.selects RX3 yX3_mostFoodOf yX3_mostFoodOf, Cond.code yX3_mostFoodOf cX3_mostFoodOf 2 (some .int), Cond.methodLink RX3 209 Lib.Math.min.name, Cond.methodLink RX3 232 yX3_leftAtWorst, Cond.instanceMethod yX3_leftAtWorst, Cond.selects RX3 yX3_leftAtWorst yX3_leftAtWorst, Cond.code yX3_leftAtWorst cX3_leftAtWorst 6 (some .int), Cond.methodLink RX3 236 Lib.Math.max.name, Cond.static Lib.Math.max.name, Cond.code Lib.Math.max.name Lib.Math.max.code 2 (some .int), Cond.methodLink RL 43 yX4_cairn, Cond.instanceMethod yX4_cairn, Cond.selects RX4 yX4_cairn yX4_cairn, Cond.code yX4_cairn cX4_cairn 3 (some .int), Cond.methodLink RX4 117 yX4_isCairn, Cond.instanceMethod yX4_isCairn, Cond.selects RX4 yX4_isCairn yX4_isCairn, Cond.code yX4_isCairn cX4_isCairn 2 (some .boolean), Cond.constantLong RX4 91 (5)]
def wsL_law_r13 : List Cond := [Cond.methodLink RX4 87 yX4_lacks, Cond.instanceMethod yX4_lacks, Cond.selects RX4 yX4_lacks yX4_lacks, Cond.code yX4_lacks cX4_lacks 1 (some .boolean), Cond.methodLink RX4 120 yX4_tellCairn, Cond.instanceMethod yX4_tellCairn, Cond.selects RX4 yX4_tellCairn yX4_tellCairn, Cond.code yX4_tellCairn cX4_tellCairn 3 (some .int), Cond.methodLink RX4 111 yX4_layOf, Cond.instanceMethod yX4_layOf, Cond.selects RX4 yX4_layOf yX4_layOf, Cond.code yX4_layOf cX4_layOf 7 (some .int), Cond.methodLink RX4 148 yX4_copy, Cond.static yX4_copy, Cond.code yX4_copy cX4_copy 3 none, Cond.methodLink RX4 184 yX4_comesHome, Cond.instanceMethod yX4_comesHome, Cond.selects RX4 yX4_comesHome yX4_comesHome, Cond.code yX4_comesHome cX4_comesHome 5 (some .boolean), Cond.fieldLink RX4 125 "ColdDepotsModel" "party" "I", Cond.methodLink RX4 159 yX4_goMarch, Cond.instanceMethod yX4_goMarch, Cond.selects RX4 yX4_goMarch yX4_goMarch, Cond.code yX4_goMarch cX4_goMarch 8 none]
def wsL_law_r14 : List Cond := [Cond.fieldLink RX4 128 "ColdDepotsModel" "carried" "I", Cond.fieldLink RX4 152 "ColdDepotsModel" "diedOn" "I", Cond.methodLink RX4 131 yX4_keepPulled, Cond.instanceMethod yX4_keepPulled, Cond.selects RX4 yX4_keepPulled yX4_keepPulled, Cond.code yX4_keepPulled cX4_keepPulled 2 none, Cond.methodLink RX4 134 yX4_pullOf, Cond.instanceMethod yX4_pullOf, Cond.selects RX4 yX4_pullOf yX4_pullOf, Cond.code yX4_pullOf cX4_pullOf 4 (some .int), Cond.methodLink RX4 155 yX4_goStage, Cond.instanceMethod yX4_goStage, Cond.selects RX4 yX4_goStage yX4_goStage, Cond.code yX4_goStage cX4_goStage 6 (some .boolean), Cond.methodLink RX4 137 yX4_lastOf, Cond.instanceMethod yX4_lastOf, Cond.selects RX4 yX4_lastOf yX4_lastOf, Cond.code yX4_lastOf cX4_lastOf 6 (some .int), Cond.methodLink RX4 141 yX4_eatBeast, Cond.instanceMethod yX4_eatBeast, Cond.selects RX4 yX4_eatBeast yX4_eatBeast, Cond.code yX4_eatBeast cX4_eatBeast 2 none, Cond.methodLink RX4 145 yX4_eatOf, Cond.instanceMethod yX4_eatOf]
def wsL_law_r15 : List Cond := [Cond.selects RX4 yX4_eatOf yX4_eatOf, Cond.code yX4_eatOf cX4_eatOf 4 (some .int), Cond.methodLink RX4 114 yX4_tryOf, Cond.instanceMethod yX4_tryOf, Cond.selects RX4 yX4_tryOf yX4_tryOf, Cond.code yX4_tryOf cX4_tryOf 9 (some .int), Cond.methodLink RL 44 yX3_lay, Cond.instanceMethod yX3_lay, Cond.selects RX3 yX3_lay yX3_lay, Cond.code yX3_lay cX3_lay 4 (some .int), Cond.methodLink RL 47 yX4_lay, Cond.instanceMethod yX4_lay, Cond.selects RX4 yX4_lay yX4_lay, Cond.code yX4_lay cX4_lay 4 (some .int), Cond.constantLong RX4 123 (9), Cond.methodLink RL 48 yX3_march, Cond.instanceMethod yX3_march, Cond.selects RX3 yX3_march yX3_march, Cond.code yX3_march cX3_march 4 (some .int), Cond.methodLink RX3 117 yX3_isNoMarch, Cond.instanceMethod yX3_isNoMarch, Cond.selects RX3 yX3_isNoMarch yX3_isNoMarch, Cond.code yX3_isNoMarch cX3_isNoMarch 4 (some .boolean), Cond.methodLink RX3 153 yX3_isNobody]
def wsL_law_r16 : List Cond := [Cond.instanceMethod yX3_isNobody, Cond.selects RX3 yX3_isNobody yX3_isNobody, Cond.code yX3_isNobody cX3_isNobody 2 (some .boolean), Cond.methodLink RX3 156 yX3_isNoStage, Cond.static yX3_isNoStage, Cond.code yX3_isNoStage cX3_isNoStage 1 (some .boolean), Cond.methodLink RX3 121 yX3_anyIsDead, Cond.instanceMethod yX3_anyIsDead, Cond.selects RX3 yX3_anyIsDead yX3_anyIsDead, Cond.code yX3_anyIsDead cX3_anyIsDead 2 (some .boolean), Cond.methodLink RX3 133 yX3_copy, Cond.methodLink RL 52 yX4_march, Cond.instanceMethod yX4_march, Cond.selects RX4 yX4_march yX4_march, Cond.code yX4_march cX4_march 4 (some .int), Cond.methodLink RX4 170 yX4_isMarch, Cond.instanceMethod yX4_isMarch, Cond.selects RX4 yX4_isMarch yX4_isMarch, Cond.code yX4_isMarch cX4_isMarch 4 (some .boolean), Cond.constantLong RX4 166 (6), Cond.constantLong RX4 168 (40), Cond.methodLink RX4 163 yX4_areMembers, Cond.instanceMethod yX4_areMembers, Cond.selects RX4 yX4_areMembers yX4_areMembers]
def wsL_law_r17 : List Cond := [Cond.code yX4_areMembers cX4_areMembers 2 (some .boolean), Cond.methodLink RL 53 yX3_would, Cond.instanceMethod yX3_would, Cond.selects RX3 yX3_would yX3_would, Cond.code yX3_would cX3_would 5 (some .int), Cond.methodLink RX3 146 yX3_sum, Cond.static yX3_sum, Cond.code yX3_sum cX3_sum 3 (some .int), Cond.methodLink RL 57 yX4_would, Cond.instanceMethod yX4_would, Cond.selects RX4 yX4_would yX4_would, Cond.code yX4_would cX4_would 5 (some .int), Cond.constantLong RX4 178 (3), Cond.methodLink RX4 180 yX4_wouldOf, Cond.instanceMethod yX4_wouldOf, Cond.selects RX4 yX4_wouldOf yX4_wouldOf, Cond.code yX4_wouldOf cX4_wouldOf 5 (some .int), Cond.methodLink RX4 174 yX4_sumOf, Cond.static yX4_sumOf, Cond.code yX4_sumOf cX4_sumOf 3 (some .int), Cond.methodLink RL 58 yX3_need, Cond.instanceMethod yX3_need, Cond.selects RX3 yX3_need yX3_need, Cond.code yX3_need cX3_need 3 (some .int)]
def wsL_law_r18 : List Cond := [Cond.methodLink RX3 159 yX3_leastFood, Cond.instanceMethod yX3_leastFood, Cond.selects RX3 yX3_leastFood yX3_leastFood, Cond.code yX3_leastFood cX3_leastFood 6 (some .int), Cond.methodLink RL 61 yX4_need, Cond.instanceMethod yX4_need, Cond.selects RX4 yX4_need yX4_need, Cond.code yX4_need cX4_need 3 (some .int), Cond.methodLink RX4 188 yX4_needOf, Cond.instanceMethod yX4_needOf, Cond.selects RX4 yX4_needOf yX4_needOf, Cond.code yX4_needOf cX4_needOf 6 (some .int), Cond.methodLink RL 62 yX3_far, Cond.instanceMethod yX3_far, Cond.selects RX3 yX3_far yX3_far, Cond.code yX3_far cX3_far 2 (some .int), Cond.methodLink RX3 163 yX3_farthest, Cond.instanceMethod yX3_farthest, Cond.selects RX3 yX3_farthest yX3_farthest, Cond.code yX3_farthest cX3_farthest 4 (some .int), Cond.methodLink RL 65 yX4_far, Cond.instanceMethod yX4_far, Cond.selects RX4 yX4_far yX4_far, Cond.code yX4_far cX4_far 2 (some .int)]
def wsL_law_r19 : List Cond := [Cond.methodLink RX4 192 yX4_farOf, Cond.instanceMethod yX4_farOf, Cond.selects RX4 yX4_farOf yX4_farOf, Cond.code yX4_farOf cX4_farOf 5 (some .int), Cond.methodLink RL 66 yX3_team, Cond.instanceMethod yX3_team, Cond.selects RX3 yX3_team yX3_team, Cond.code yX3_team cX3_team 2 (some .int), Cond.fieldLink RX3 167 "ColdDepots" "teamsDone" "I", Cond.methodLink RX3 170 yX3_fewest, Cond.instanceMethod yX3_fewest, Cond.selects RX3 yX3_fewest yX3_fewest, Cond.code yX3_fewest cX3_fewest 6 (some .int), Cond.methodLink RL 69 yX4_team, Cond.instanceMethod yX4_team, Cond.selects RX4 yX4_team yX4_team, Cond.code yX4_team cX4_team 2 (some .int), Cond.fieldLink RX4 199 "ColdDepotsModel" "teamsDone" "I", Cond.methodLink RX4 202 yX4_teamOf, Cond.instanceMethod yX4_teamOf, Cond.selects RX4 yX4_teamOf yX4_teamOf, Cond.code yX4_teamOf cX4_teamOf 5 (some .int), Cond.methodLink RX4 196 yX4_ones, Cond.static yX4_ones]
def wsL_law_r20 : List Cond := [Cond.code yX4_ones cX4_ones 3 (some .int), Cond.methodLink RL 70 yX3_hear, Cond.instanceMethod yX3_hear, Cond.selects RX3 yX3_hear yX3_hear, Cond.code yX3_hear cX3_hear 5 (some .int), Cond.instanceMethod yX2_note, Cond.selects RX2 yX2_note yX2_note, Cond.code yX2_note cX2_note 5 none, Cond.methodLink RL 74 yX4_hear, Cond.instanceMethod yX4_hear, Cond.selects RX4 yX4_hear yX4_hear, Cond.code yX4_hear cX4_hear 5 (some .int), Cond.methodLink RL 75 yX3_forget, Cond.instanceMethod yX3_forget, Cond.selects RX3 yX3_forget yX3_forget, Cond.code yX3_forget cX3_forget 2 (some .int), Cond.methodLink RL 78 yX4_forget, Cond.instanceMethod yX4_forget, Cond.selects RX4 yX4_forget yX4_forget, Cond.code yX4_forget cX4_forget 2 (some .int), Cond.methodLink RL 79 yX3_winters, Cond.instanceMethod yX3_winters, Cond.selects RX3 yX3_winters yX3_winters, Cond.code yX3_winters cX3_winters 5 (some .int)]
def wsL_law_r21 : List Cond := [Cond.methodLink RX3 180 yX3_letCreep, Cond.instanceMethod yX3_letCreep, Cond.selects RX3 yX3_letCreep yX3_letCreep, Cond.code yX3_letCreep cX3_letCreep 7 (some .int), Cond.methodLink RX3 239 yX3_nextSeed, Cond.static yX3_nextSeed, Cond.code yX3_nextSeed cX3_nextSeed 1 (some .int), Cond.constant RX3 242 (1103515245), Cond.constant RX3 243 (2147483647), Cond.methodLink RL 82 yX4_winters, Cond.instanceMethod yX4_winters, Cond.selects RX4 yX4_winters yX4_winters, Cond.code yX4_winters cX4_winters 7 (some .int), Cond.constantLong RX4 215 (20), Cond.constantLong RX4 217 (2), Cond.fieldLink RX4 207 "ColdDepotsModel" "seedNow" "I", Cond.methodLink RX4 219 yX4_draw, Cond.instanceMethod yX4_draw, Cond.selects RX4 yX4_draw yX4_draw, Cond.code yX4_draw cX4_draw 2 (some .int), Cond.constantLong RX4 205 (1103515245), Cond.constantLong RX4 210 (12345), Cond.constantLong RX4 212 (2147483647), Cond.constant RX4 214 (65536)]
def wsL_law_r22 : List Cond := [Cond.methodLink RL 83 yX3_image, Cond.instanceMethod yX3_image, Cond.selects RX3 yX3_image yX3_image, Cond.code yX3_image cX3_image 1 (some .int), Cond.instanceMethod yX2_takeFrom, Cond.selects RX2 yX2_takeFrom yX2_takeFrom, Cond.code yX2_takeFrom cX2_takeFrom 2 none, Cond.methodLink RL 86 yX4_image, Cond.instanceMethod yX4_image, Cond.selects RX4 yX4_image yX4_image, Cond.code yX4_image cX4_image 1 (some .int), Cond.fieldLink RX4 222 "ColdDepotsModel" "keptLiving" "I", Cond.fieldLink RX4 225 "ColdDepotsModel" "keptMarches" "I", Cond.fieldLink RX4 228 "ColdDepotsModel" "keptHome" "I", Cond.fieldLink RX4 231 "ColdDepotsModel" "keptHeard" "I", Cond.methodLink RL 87 yX3_restore, Cond.instanceMethod yX3_restore, Cond.selects RX3 yX3_restore yX3_restore, Cond.code yX3_restore cX3_restore 1 (some .int), Cond.methodLink RL 90 yX4_restore, Cond.instanceMethod yX4_restore, Cond.selects RX4 yX4_restore yX4_restore, Cond.code yX4_restore cX4_restore 1 (some .int), Cond.methodLink RL 91 yX3_count]
def wsL_law_r23 : List Cond := [Cond.instanceMethod yX3_count, Cond.selects RX3 yX3_count yX3_count, Cond.code yX3_count cX3_count 2 (some .int), Cond.methodLink RL 94 yX4_count, Cond.instanceMethod yX4_count, Cond.selects RX4 yX4_count yX4_count, Cond.code yX4_count cX4_count 2 (some .int), Cond.methodLink RX4 234 yX4_countOf, Cond.instanceMethod yX4_countOf, Cond.selects RX4 yX4_countOf yX4_countOf, Cond.code yX4_countOf cX4_countOf 2 (some .int), Cond.methodLink RL 95 yX3_digest, Cond.instanceMethod yX3_digest, Cond.selects RX3 yX3_digest yX3_digest, Cond.code yX3_digest cX3_digest 5 (some .long), Cond.constantLong RX3 195 (1051), Cond.constantLong RX3 197 (31), Cond.methodLink RX3 199 yX3_member, Cond.methodLink RX3 202 yX3_would, Cond.methodLink RX3 206 yX3_count, Cond.methodLink RL 99 yX4_digest, Cond.instanceMethod yX4_digest, Cond.selects RX4 yX4_digest yX4_digest, Cond.code yX4_digest cX4_digest 3 (some .long)]
def wsL_law_r24 : List Cond := [Cond.constantLong RX4 243 (1051), Cond.fieldLink RX4 239 "ColdDepotsModel" "hash" "J", Cond.methodLink RX4 245 yX4_say, Cond.instanceMethod yX4_say, Cond.selects RX4 yX4_say yX4_say, Cond.code yX4_say cX4_say 3 none, Cond.constantLong RX4 237 (31)]
def wsL_law : List Cond := (wsL_law_r1 ++ (wsL_law_r2 ++ (wsL_law_r3 ++ (wsL_law_r4 ++ (wsL_law_r5 ++ (wsL_law_r6 ++ (wsL_law_r7 ++ (wsL_law_r8 ++ (wsL_law_r9 ++ (wsL_law_r10 ++ (wsL_law_r11 ++ (wsL_law_r12 ++ (wsL_law_r13 ++ (wsL_law_r14 ++ (wsL_law_r15 ++ (wsL_law_r16 ++ (wsL_law_r17 ++ (wsL_law_r18 ++ (wsL_law_r19 ++ (wsL_law_r20 ++ (wsL_law_r21 ++ (wsL_law_r22 ++ (wsL_law_r23 ++ wsL_law_r24))))))))))))))))))))))) ++ wsX30 ++ wsX40 ++ wsX00 ++ wsX10 ++ wsX20 ++ ([] : List Cond)
set_option maxRecDepth 20000 in
theorem wsL_law_in : ∀ w ∈ wsL_law, w ∈ lw_tbl := fun w h => (goodIn_p wsL_law [71, 74, 79, 94, 131, 464, 198, 202, 205, 554, 558, 209, 562, 213, 217, 221, 224, 227, 566, 570, 574, 579, 231, 235, 243, 247, 583, 251, 587, 591, 595, 599, 603, 607, 262, 265, 611, 269, 273, 277, 281, 285, 288, 292, 296, 306, 301, 310, 314, 319, 324, 328, 333, 336, 343, 349, 352, 616, 620, 624, 629, 633, 636, 640, 644, 648, 652, 656, 660, 664, 668, 672, 356, 676, 360, 364, 368, 371, 375, 681, 685, 689, 380, 383, 695, 700, 703, 387, 391, 707, 711, 395, 399, 715, 719, 403, 407, 723, 727, 730, 411, 415, 734, 420, 738, 424, 428, 431, 742, 748, 437, 441, 756, 446, 760, 450, 764, 768, 454, 772, 777] (by decide +kernel) (by decide +kernel) w h).1
theorem inlX0 : ∀ w ∈ wsX00, w ∈ wsL_law := fun _ h => List.mem_append_left _ (List.mem_append_left _ (List.mem_append_left _ (List.mem_append_right _ h)))
theorem inX0 : ∀ w ∈ wsX00, w ∈ lw_tbl := fun w h => wsL_law_in w (inlX0 w h)
theorem inlX1 : ∀ w ∈ wsX10, w ∈ wsL_law := fun _ h => List.mem_append_left _ (List.mem_append_left _ (List.mem_append_right _ h))
theorem inX1 : ∀ w ∈ wsX10, w ∈ lw_tbl := fun w h => wsL_law_in w (inlX1 w h)
theorem inlX2 : ∀ w ∈ wsX20, w ∈ wsL_law := fun _ h => List.mem_append_left _ (List.mem_append_right _ h)
theorem inX2 : ∀ w ∈ wsX20, w ∈ lw_tbl := fun w h => wsL_law_in w (inlX2 w h)
theorem inlX3 : ∀ w ∈ wsX30, w ∈ wsL_law := fun _ h => List.mem_append_left _ (List.mem_append_left _ (List.mem_append_left _ (List.mem_append_left _ (List.mem_append_left _ (List.mem_append_right _ h)))))
theorem inX3 : ∀ w ∈ wsX30, w ∈ lw_tbl := fun w h => wsL_law_in w (inlX3 w h)
theorem inlX4 : ∀ w ∈ wsX40, w ∈ wsL_law := fun _ h => List.mem_append_left _ (List.mem_append_left _ (List.mem_append_left _ (List.mem_append_left _ (List.mem_append_right _ h))))
theorem inX4 : ∀ w ∈ wsX40, w ∈ lw_tbl := fun w h => wsL_law_in w (inlX4 w h)
theorem inJ6 : ∀ w ∈ wsJ60, w ∈ lw_tbl := by decide +kernel
theorem inJ9 : ∀ w ∈ wsJ90, w ∈ lw_tbl := by decide +kernel
theorem dX0_init_0 : decode cX0_init 0 = .ok (.aload_n 0, 1) := by decide +kernel
theorem dX0_init_1 : decode cX0_init 1 = .ok (.invokespecial 3, 3) := by decide +kernel
theorem dX0_init_4 : decode cX0_init 4 = .ok (.aload_n 0, 1) := by decide +kernel
theorem dX0_init_5 : decode cX0_init 5 = .ok (.bipush 15, 2) := by decide +kernel
theorem dX0_init_7 : decode cX0_init 7 = .ok (.newarray .int, 2) := by decide +kernel
theorem dX0_init_9 : decode cX0_init 9 = .ok (.putfield 9, 3) := by decide +kernel
theorem dX0_init_12 : decode cX0_init 12 = .ok (.return_, 1) := by decide +kernel
set_option maxRecDepth 20000 in
theorem ggX0_add_X3_put : GoodIn wsX0_add wsX3_put := goodIn_r _ [5] (by decide +kernel) (by decide +kernel)
set_option maxRecDepth 20000 in
theorem gX0_add_X3_put_n19 : GoodIn wsX0_add (wsX3_put) := ggX0_add_X3_put
theorem dX0_add_0 : decode cX0_add 0 = .ok (.aload_n 0, 1) := by decide +kernel
theorem dX0_add_1 : decode cX0_add 1 = .ok (.getfield 15, 3) := by decide +kernel
theorem dX0_add_4 : decode cX0_add 4 = .ok (.bipush 15, 2) := by decide +kernel
theorem dX0_add_6 : decode cX0_add 6 = .ok (.if_icmp .lt 5, 3) := by decide +kernel
theorem dX0_add_9 : decode cX0_add 9 = .ok (.iconst 0, 1) := by decide +kernel
theorem dX0_add_10 : decode cX0_add 10 = .ok (.ireturn, 1) := by decide +kernel
theorem dX0_add_11 : decode cX0_add 11 = .ok (.aload_n 0, 1) := by decide +kernel
theorem dX0_add_12 : decode cX0_add 12 = .ok (.getfield 9, 3) := by decide +kernel
theorem dX0_add_15 : decode cX0_add 15 = .ok (.aload_n 0, 1) := by decide +kernel
theorem dX0_add_16 : decode cX0_add 16 = .ok (.getfield 15, 3) := by decide +kernel
theorem dX0_add_19 : decode cX0_add 19 = .ok (.iload_n 1, 1) := by decide +kernel
theorem dX0_add_20 : decode cX0_add 20 = .ok (.invokestatic 19, 3) := by decide +kernel
theorem dX0_add_23 : decode cX0_add 23 = .ok (.aload_n 0, 1) := by decide +kernel
theorem dX0_add_24 : decode cX0_add 24 = .ok (.dup, 1) := by decide +kernel
theorem dX0_add_25 : decode cX0_add 25 = .ok (.getfield 15, 3) := by decide +kernel
theorem dX0_add_28 : decode cX0_add 28 = .ok (.iconst 1, 1) := by decide +kernel
theorem dX0_add_29 : decode cX0_add 29 = .ok (.iadd, 1) := by decide +kernel
theorem dX0_add_30 : decode cX0_add 30 = .ok (.putfield 15, 3) := by decide +kernel
theorem dX0_add_33 : decode cX0_add 33 = .ok (.iconst 1, 1) := by decide +kernel
theorem dX0_add_34 : decode cX0_add 34 = .ok (.ireturn, 1) := by decide +kernel
set_option maxRecDepth 20000 in
theorem ggX0_codeAt_X3_at : GoodIn wsX0_codeAt wsX3_at := goodIn_r _ [4] (by decide +kernel) (by decide +kernel)
set_option maxRecDepth 20000 in
theorem gX0_codeAt_X3_at_n23 : GoodIn wsX0_codeAt (wsX3_at) := ggX0_codeAt_X3_at
theorem dX0_codeAt_0 : decode cX0_codeAt 0 = .ok (.aload_n 0, 1) := by decide +kernel
theorem dX0_codeAt_1 : decode cX0_codeAt 1 = .ok (.getfield 9, 3) := by decide +kernel
theorem dX0_codeAt_4 : decode cX0_codeAt 4 = .ok (.iload_n 1, 1) := by decide +kernel
theorem dX0_codeAt_5 : decode cX0_codeAt 5 = .ok (.invokestatic 23, 3) := by decide +kernel
theorem dX0_codeAt_8 : decode cX0_codeAt 8 = .ok (.ireturn, 1) := by decide +kernel
set_option maxRecDepth 20000 in
theorem ggX0_firstWrong_X0_codeAt : GoodIn wsX0_firstWrong wsX0_codeAt := goodIn_r _ [6, 7, 8, 9, 10, 13, 14] (by decide +kernel) (by decide +kernel)
set_option maxRecDepth 20000 in
theorem gX0_firstWrong_X0_codeAt : GoodIn wsX0_firstWrong (wsV RX0 27 RX0 yX0_codeAt wsX0_codeAt) := goodIn_app (goodIn_of _ (by decide +kernel)) ggX0_firstWrong_X0_codeAt
set_option maxRecDepth 20000 in
theorem ggX0_firstWrong_X3_kindOf : GoodIn wsX0_firstWrong wsX3_kindOf := goodIn_r _ [12] (by decide +kernel) (by decide +kernel)
set_option maxRecDepth 20000 in
theorem gX0_firstWrong_X3_kindOf_n31 : GoodIn wsX0_firstWrong (wsX3_kindOf) := ggX0_firstWrong_X3_kindOf
theorem dX0_firstWrong_0 : decode cX0_firstWrong 0 = .ok (.iconst 0, 1) := by decide +kernel
theorem dX0_firstWrong_1 : decode cX0_firstWrong 1 = .ok (.istore_n 1, 1) := by decide +kernel
theorem dX0_firstWrong_2 : decode cX0_firstWrong 2 = .ok (.iconst (-1), 1) := by decide +kernel
theorem dX0_firstWrong_3 : decode cX0_firstWrong 3 = .ok (.istore_n 2, 1) := by decide +kernel
theorem dX0_firstWrong_4 : decode cX0_firstWrong 4 = .ok (.iconst 0, 1) := by decide +kernel
theorem dX0_firstWrong_5 : decode cX0_firstWrong 5 = .ok (.istore_n 3, 1) := by decide +kernel
theorem dX0_firstWrong_6 : decode cX0_firstWrong 6 = .ok (.iload_n 3, 1) := by decide +kernel
theorem dX0_firstWrong_7 : decode cX0_firstWrong 7 = .ok (.aload_n 0, 1) := by decide +kernel
theorem dX0_firstWrong_8 : decode cX0_firstWrong 8 = .ok (.getfield 15, 3) := by decide +kernel
theorem dX0_firstWrong_11 : decode cX0_firstWrong 11 = .ok (.if_icmp .ge 88, 3) := by decide +kernel
theorem dX0_firstWrong_14 : decode cX0_firstWrong 14 = .ok (.aload_n 0, 1) := by decide +kernel
theorem dX0_firstWrong_15 : decode cX0_firstWrong 15 = .ok (.iload_n 3, 1) := by decide +kernel
theorem dX0_firstWrong_16 : decode cX0_firstWrong 16 = .ok (.invokevirtual 27, 3) := by decide +kernel
theorem dX0_firstWrong_19 : decode cX0_firstWrong 19 = .ok (.istore 4, 2) := by decide +kernel
theorem dX0_firstWrong_21 : decode cX0_firstWrong 21 = .ok (.iload_n 2, 1) := by decide +kernel
theorem dX0_firstWrong_22 : decode cX0_firstWrong 22 = .ok (.iconst (-1), 1) := by decide +kernel
theorem dX0_firstWrong_23 : decode cX0_firstWrong 23 = .ok (.if_icmp .eq 30, 3) := by decide +kernel
theorem dX0_firstWrong_26 : decode cX0_firstWrong 26 = .ok (.iload_n 2, 1) := by decide +kernel
theorem dX0_firstWrong_27 : decode cX0_firstWrong 27 = .ok (.iconst 5, 1) := by decide +kernel
theorem dX0_firstWrong_28 : decode cX0_firstWrong 28 = .ok (.if_icmp .eq 17, 3) := by decide +kernel
theorem dX0_firstWrong_31 : decode cX0_firstWrong 31 = .ok (.iload 4, 2) := by decide +kernel
theorem dX0_firstWrong_33 : decode cX0_firstWrong 33 = .ok (.bipush 48, 2) := by decide +kernel
theorem dX0_firstWrong_35 : decode cX0_firstWrong 35 = .ok (.if_icmp .lt 10, 3) := by decide +kernel
theorem dX0_firstWrong_38 : decode cX0_firstWrong 38 = .ok (.iload 4, 2) := by decide +kernel
theorem dX0_firstWrong_40 : decode cX0_firstWrong 40 = .ok (.bipush 57, 2) := by decide +kernel
theorem dX0_firstWrong_42 : decode cX0_firstWrong 42 = .ok (.if_icmp .le 5, 3) := by decide +kernel
theorem dX0_firstWrong_45 : decode cX0_firstWrong 45 = .ok (.iload_n 3, 1) := by decide +kernel
theorem dX0_firstWrong_46 : decode cX0_firstWrong 46 = .ok (.ireturn, 1) := by decide +kernel
theorem dX0_firstWrong_47 : decode cX0_firstWrong 47 = .ok (.iinc 2 1, 3) := by decide +kernel
theorem dX0_firstWrong_50 : decode cX0_firstWrong 50 = .ok (.goto 43, 3) := by decide +kernel
theorem dX0_firstWrong_53 : decode cX0_firstWrong 53 = .ok (.iload 4, 2) := by decide +kernel
theorem dX0_firstWrong_55 : decode cX0_firstWrong 55 = .ok (.bipush 59, 2) := by decide +kernel
theorem dX0_firstWrong_57 : decode cX0_firstWrong 57 = .ok (.if_icmp .ne 13, 3) := by decide +kernel
theorem dX0_firstWrong_60 : decode cX0_firstWrong 60 = .ok (.iload_n 1, 1) := by decide +kernel
theorem dX0_firstWrong_61 : decode cX0_firstWrong 61 = .ok (.iconst 2, 1) := by decide +kernel
theorem dX0_firstWrong_62 : decode cX0_firstWrong 62 = .ok (.if_icmp .lt 8, 3) := by decide +kernel
theorem dX0_firstWrong_65 : decode cX0_firstWrong 65 = .ok (.iconst 0, 1) := by decide +kernel
theorem dX0_firstWrong_66 : decode cX0_firstWrong 66 = .ok (.istore_n 2, 1) := by decide +kernel
theorem dX0_firstWrong_67 : decode cX0_firstWrong 67 = .ok (.goto 26, 3) := by decide +kernel
theorem dX0_firstWrong_70 : decode cX0_firstWrong 70 = .ok (.iload 4, 2) := by decide +kernel
theorem dX0_firstWrong_72 : decode cX0_firstWrong 72 = .ok (.invokestatic 31, 3) := by decide +kernel
theorem dX0_firstWrong_75 : decode cX0_firstWrong 75 = .ok (.iconst (-1), 1) := by decide +kernel
theorem dX0_firstWrong_76 : decode cX0_firstWrong 76 = .ok (.if_icmp .eq 15, 3) := by decide +kernel
theorem dX0_firstWrong_79 : decode cX0_firstWrong 79 = .ok (.iload_n 1, 1) := by decide +kernel
theorem dX0_firstWrong_80 : decode cX0_firstWrong 80 = .ok (.bipush 6, 2) := by decide +kernel
theorem dX0_firstWrong_82 : decode cX0_firstWrong 82 = .ok (.if_icmp .ge 9, 3) := by decide +kernel
theorem dX0_firstWrong_85 : decode cX0_firstWrong 85 = .ok (.iinc 1 1, 3) := by decide +kernel
theorem dX0_firstWrong_88 : decode cX0_firstWrong 88 = .ok (.goto 5, 3) := by decide +kernel
theorem dX0_firstWrong_91 : decode cX0_firstWrong 91 = .ok (.iload_n 3, 1) := by decide +kernel
theorem dX0_firstWrong_92 : decode cX0_firstWrong 92 = .ok (.ireturn, 1) := by decide +kernel
theorem dX0_firstWrong_93 : decode cX0_firstWrong 93 = .ok (.iinc 3 1, 3) := by decide +kernel
theorem dX0_firstWrong_96 : decode cX0_firstWrong 96 = .ok (.goto (-90), 3) := by decide +kernel
theorem dX0_firstWrong_99 : decode cX0_firstWrong 99 = .ok (.aload_n 0, 1) := by decide +kernel
theorem dX0_firstWrong_100 : decode cX0_firstWrong 100 = .ok (.getfield 15, 3) := by decide +kernel
theorem dX0_firstWrong_103 : decode cX0_firstWrong 103 = .ok (.ireturn, 1) := by decide +kernel
set_option maxRecDepth 20000 in
theorem ggX0_isCamp_X0_firstWrong : GoodIn wsX0_isCamp wsX0_firstWrong := goodIn_r _ [6, 1, 7, 8, 9, 5, 10, 11, 12, 13, 14, 15, 16, 17, 18] (by decide +kernel) (by decide +kernel)
set_option maxRecDepth 20000 in
theorem gX0_isCamp_X0_firstWrong : GoodIn wsX0_isCamp (wsV RX0 34 RX0 yX0_firstWrong wsX0_firstWrong) := goodIn_app (goodIn_of _ (by decide +kernel)) ggX0_isCamp_X0_firstWrong
set_option maxRecDepth 20000 in
theorem ggX0_isCamp_X0_codeAt : GoodIn wsX0_isCamp wsX0_codeAt := goodIn_r _ [10, 11, 12, 13, 14, 17, 18] (by decide +kernel) (by decide +kernel)
set_option maxRecDepth 20000 in
theorem gX0_isCamp_X0_codeAt : GoodIn wsX0_isCamp (wsV RX0 27 RX0 yX0_codeAt wsX0_codeAt) := goodIn_app (goodIn_of _ (by decide +kernel)) ggX0_isCamp_X0_codeAt
theorem dX0_isCamp_0 : decode cX0_isCamp 0 = .ok (.aload_n 0, 1) := by decide +kernel
theorem dX0_isCamp_1 : decode cX0_isCamp 1 = .ok (.invokevirtual 34, 3) := by decide +kernel
theorem dX0_isCamp_4 : decode cX0_isCamp 4 = .ok (.aload_n 0, 1) := by decide +kernel
theorem dX0_isCamp_5 : decode cX0_isCamp 5 = .ok (.getfield 15, 3) := by decide +kernel
theorem dX0_isCamp_8 : decode cX0_isCamp 8 = .ok (.if_icmp .ne 24, 3) := by decide +kernel
theorem dX0_isCamp_11 : decode cX0_isCamp 11 = .ok (.aload_n 0, 1) := by decide +kernel
theorem dX0_isCamp_12 : decode cX0_isCamp 12 = .ok (.aload_n 0, 1) := by decide +kernel
theorem dX0_isCamp_13 : decode cX0_isCamp 13 = .ok (.getfield 15, 3) := by decide +kernel
theorem dX0_isCamp_16 : decode cX0_isCamp 16 = .ok (.iconst 5, 1) := by decide +kernel
theorem dX0_isCamp_17 : decode cX0_isCamp 17 = .ok (.isub, 1) := by decide +kernel
theorem dX0_isCamp_18 : decode cX0_isCamp 18 = .ok (.iconst 1, 1) := by decide +kernel
theorem dX0_isCamp_19 : decode cX0_isCamp 19 = .ok (.isub, 1) := by decide +kernel
theorem dX0_isCamp_20 : decode cX0_isCamp 20 = .ok (.invokevirtual 27, 3) := by decide +kernel
theorem dX0_isCamp_23 : decode cX0_isCamp 23 = .ok (.bipush 59, 2) := by decide +kernel
theorem dX0_isCamp_25 : decode cX0_isCamp 25 = .ok (.if_icmp .ne 7, 3) := by decide +kernel
theorem dX0_isCamp_28 : decode cX0_isCamp 28 = .ok (.iconst 1, 1) := by decide +kernel
theorem dX0_isCamp_29 : decode cX0_isCamp 29 = .ok (.goto 4, 3) := by decide +kernel
theorem dX0_isCamp_32 : decode cX0_isCamp 32 = .ok (.iconst 0, 1) := by decide +kernel
theorem dX0_isCamp_33 : decode cX0_isCamp 33 = .ok (.ireturn, 1) := by decide +kernel
theorem dX1_init_0 : decode cX1_init 0 = .ok (.aload_n 0, 1) := by decide +kernel
theorem dX1_init_1 : decode cX1_init 1 = .ok (.invokespecial 3, 3) := by decide +kernel
theorem dX1_init_4 : decode cX1_init 4 = .ok (.aload_n 0, 1) := by decide +kernel
theorem dX1_init_5 : decode cX1_init 5 = .ok (.bipush 6, 2) := by decide +kernel
theorem dX1_init_7 : decode cX1_init 7 = .ok (.newarray .int, 2) := by decide +kernel
theorem dX1_init_9 : decode cX1_init 9 = .ok (.putfield 9, 3) := by decide +kernel
theorem dX1_init_12 : decode cX1_init 12 = .ok (.aload_n 0, 1) := by decide +kernel
theorem dX1_init_13 : decode cX1_init 13 = .ok (.iconst 5, 1) := by decide +kernel
theorem dX1_init_14 : decode cX1_init 14 = .ok (.newarray .int, 2) := by decide +kernel
theorem dX1_init_16 : decode cX1_init 16 = .ok (.putfield 15, 3) := by decide +kernel
theorem dX1_init_19 : decode cX1_init 19 = .ok (.return_, 1) := by decide +kernel
theorem dX1_all_0 : decode cX1_all 0 = .ok (.iconst 1, 1) := by decide +kernel
theorem dX1_all_1 : decode cX1_all 1 = .ok (.aload_n 0, 1) := by decide +kernel
theorem dX1_all_2 : decode cX1_all 2 = .ok (.getfield 18, 3) := by decide +kernel
theorem dX1_all_5 : decode cX1_all 5 = .ok (.ishl, 1) := by decide +kernel
theorem dX1_all_6 : decode cX1_all 6 = .ok (.iconst 1, 1) := by decide +kernel
theorem dX1_all_7 : decode cX1_all 7 = .ok (.isub, 1) := by decide +kernel
theorem dX1_all_8 : decode cX1_all 8 = .ok (.ireturn, 1) := by decide +kernel
set_option maxRecDepth 20000 in
theorem ggX1_together_X3_at : GoodIn wsX1_together wsX3_at := goodIn_r _ [5] (by decide +kernel) (by decide +kernel)
set_option maxRecDepth 20000 in
theorem gX1_together_X3_at_n22 : GoodIn wsX1_together (wsX3_at) := ggX1_together_X3_at
theorem dX1_together_0 : decode cX1_together 0 = .ok (.iconst 0, 1) := by decide +kernel
theorem dX1_together_1 : decode cX1_together 1 = .ok (.istore_n 3, 1) := by decide +kernel
theorem dX1_together_2 : decode cX1_together 2 = .ok (.iconst 0, 1) := by decide +kernel
theorem dX1_together_3 : decode cX1_together 3 = .ok (.istore 4, 2) := by decide +kernel
theorem dX1_together_5 : decode cX1_together 5 = .ok (.iload 4, 2) := by decide +kernel
theorem dX1_together_7 : decode cX1_together 7 = .ok (.aload_n 0, 1) := by decide +kernel
theorem dX1_together_8 : decode cX1_together 8 = .ok (.getfield 18, 3) := by decide +kernel
theorem dX1_together_11 : decode cX1_together 11 = .ok (.if_icmp .ge 35, 3) := by decide +kernel
theorem dX1_together_14 : decode cX1_together 14 = .ok (.iload_n 1, 1) := by decide +kernel
theorem dX1_together_15 : decode cX1_together 15 = .ok (.iload 4, 2) := by decide +kernel
theorem dX1_together_17 : decode cX1_together 17 = .ok (.ishr, 1) := by decide +kernel
theorem dX1_together_18 : decode cX1_together 18 = .ok (.iconst 1, 1) := by decide +kernel
theorem dX1_together_19 : decode cX1_together 19 = .ok (.iand, 1) := by decide +kernel
theorem dX1_together_20 : decode cX1_together 20 = .ok (.iconst 1, 1) := by decide +kernel
theorem dX1_together_21 : decode cX1_together 21 = .ok (.if_icmp .ne 19, 3) := by decide +kernel
theorem dX1_together_24 : decode cX1_together 24 = .ok (.iload_n 3, 1) := by decide +kernel
theorem dX1_together_25 : decode cX1_together 25 = .ok (.aload_n 2, 1) := by decide +kernel
theorem dX1_together_26 : decode cX1_together 26 = .ok (.aload_n 0, 1) := by decide +kernel
theorem dX1_together_27 : decode cX1_together 27 = .ok (.getfield 9, 3) := by decide +kernel
theorem dX1_together_30 : decode cX1_together 30 = .ok (.iload 4, 2) := by decide +kernel
theorem dX1_together_32 : decode cX1_together 32 = .ok (.invokestatic 22, 3) := by decide +kernel
theorem dX1_together_35 : decode cX1_together 35 = .ok (.invokestatic 22, 3) := by decide +kernel
theorem dX1_together_38 : decode cX1_together 38 = .ok (.iadd, 1) := by decide +kernel
theorem dX1_together_39 : decode cX1_together 39 = .ok (.istore_n 3, 1) := by decide +kernel
theorem dX1_together_40 : decode cX1_together 40 = .ok (.iinc 4 1, 3) := by decide +kernel
theorem dX1_together_43 : decode cX1_together 43 = .ok (.goto (-38), 3) := by decide +kernel
theorem dX1_together_46 : decode cX1_together 46 = .ok (.iload_n 3, 1) := by decide +kernel
theorem dX1_together_47 : decode cX1_together 47 = .ok (.ireturn, 1) := by decide +kernel
set_option maxRecDepth 20000 in
theorem ggX1_setCairns_X3_copy : GoodIn wsX1_setCairns wsX3_copy := goodIn_r _ [4, 5, 6, 3, 7, 8, 9, 10] (by decide +kernel) (by decide +kernel)
set_option maxRecDepth 20000 in
theorem gX1_setCairns_X3_copy_n26 : GoodIn wsX1_setCairns (wsX3_copy) := ggX1_setCairns_X3_copy
theorem dX1_setCairns_0 : decode cX1_setCairns 0 = .ok (.aload_n 1, 1) := by decide +kernel
theorem dX1_setCairns_1 : decode cX1_setCairns 1 = .ok (.aload_n 0, 1) := by decide +kernel
theorem dX1_setCairns_2 : decode cX1_setCairns 2 = .ok (.getfield 15, 3) := by decide +kernel
theorem dX1_setCairns_5 : decode cX1_setCairns 5 = .ok (.invokestatic 26, 3) := by decide +kernel
theorem dX1_setCairns_8 : decode cX1_setCairns 8 = .ok (.return_, 1) := by decide +kernel
set_option maxRecDepth 20000 in
theorem ggX1_go_X1_setOut : GoodIn wsX1_go wsX1_setOut := goodIn_r _ [8, 1, 9, 3, 10, 11, 12, 13, 2, 14, 15, 16, 17, 7, 18, 19, 20, 21, 22, 23, 49, 50, 51, 52, 53, 54, 55, 56] (by decide +kernel) (by decide +kernel)
set_option maxRecDepth 20000 in
theorem gX1_go_X1_setOut : GoodIn wsX1_go (wsV RX1 30 RX1 yX1_setOut wsX1_setOut) := goodIn_app (goodIn_of _ (by decide +kernel)) ggX1_go_X1_setOut
set_option maxRecDepth 20000 in
theorem ggX1_go_X1_eatPonies : GoodIn wsX1_go wsX1_eatPonies := goodIn_r _ [27, 19, 20, 21, 22, 23, 28, 29, 30, 7, 31, 1, 9, 3, 2, 10, 11, 12, 13, 49, 50, 51, 52, 53, 54, 55, 56] (by decide +kernel) (by decide +kernel)
set_option maxRecDepth 20000 in
theorem gX1_go_X1_eatPonies : GoodIn wsX1_go (wsV RX1 34 RX1 yX1_eatPonies wsX1_eatPonies) := goodIn_app (goodIn_of _ (by decide +kernel)) ggX1_go_X1_eatPonies
set_option maxRecDepth 20000 in
theorem ggX1_go_X1_eatBeasts : GoodIn wsX1_go wsX1_eatBeasts := goodIn_r _ [35, 19, 2, 3, 20, 21, 22, 23, 36, 37, 28, 29, 30, 7, 31, 1, 9, 10, 11, 12, 13, 49, 50, 51, 52, 53, 54, 55, 56] (by decide +kernel) (by decide +kernel)
set_option maxRecDepth 20000 in
theorem gX1_go_X1_eatBeasts : GoodIn wsX1_go (wsV RX1 37 RX1 yX1_eatBeasts wsX1_eatBeasts) := goodIn_app (goodIn_of _ (by decide +kernel)) ggX1_go_X1_eatBeasts
set_option maxRecDepth 20000 in
theorem ggX1_go_X1_dieOn : GoodIn wsX1_go wsX1_dieOn := goodIn_r _ [41, 1, 2, 14, 49, 50, 51, 52, 53, 54, 55, 56] (by decide +kernel) (by decide +kernel)
set_option maxRecDepth 20000 in
theorem gX1_go_X1_dieOn : GoodIn wsX1_go (wsV RX1 49 RX1 yX1_dieOn wsX1_dieOn) := goodIn_app (goodIn_of _ (by decide +kernel)) ggX1_go_X1_dieOn
set_option maxRecDepth 20000 in
theorem ggX1_go_X1_takeUpAt : GoodIn wsX1_go wsX1_takeUpAt := goodIn_r _ [45, 46, 9, 2, 10, 11, 12, 13, 21, 22, 23, 47, 48, 49, 50, 51, 52, 53, 54, 55, 56] (by decide +kernel) (by decide +kernel)
set_option maxRecDepth 20000 in
theorem gX1_go_X1_takeUpAt : GoodIn wsX1_go (wsV RX1 53 RX1 yX1_takeUpAt wsX1_takeUpAt) := goodIn_app (goodIn_of _ (by decide +kernel)) ggX1_go_X1_takeUpAt
theorem dX1_go_0 : decode cX1_go 0 = .ok (.aload_n 0, 1) := by decide +kernel
theorem dX1_go_1 : decode cX1_go 1 = .ok (.iload_n 1, 1) := by decide +kernel
theorem dX1_go_2 : decode cX1_go 2 = .ok (.iload_n 3, 1) := by decide +kernel
theorem dX1_go_3 : decode cX1_go 3 = .ok (.invokevirtual 30, 3) := by decide +kernel
theorem dX1_go_6 : decode cX1_go 6 = .ok (.iconst 1, 1) := by decide +kernel
theorem dX1_go_7 : decode cX1_go 7 = .ok (.istore 4, 2) := by decide +kernel
theorem dX1_go_9 : decode cX1_go 9 = .ok (.iload 4, 2) := by decide +kernel
theorem dX1_go_11 : decode cX1_go 11 = .ok (.iconst 2, 1) := by decide +kernel
theorem dX1_go_12 : decode cX1_go 12 = .ok (.iload_n 2, 1) := by decide +kernel
theorem dX1_go_13 : decode cX1_go 13 = .ok (.imul, 1) := by decide +kernel
theorem dX1_go_14 : decode cX1_go 14 = .ok (.if_icmp .gt 97, 3) := by decide +kernel
theorem dX1_go_17 : decode cX1_go 17 = .ok (.iload 4, 2) := by decide +kernel
theorem dX1_go_19 : decode cX1_go 19 = .ok (.iload_n 2, 1) := by decide +kernel
theorem dX1_go_20 : decode cX1_go 20 = .ok (.if_icmp .gt 7, 3) := by decide +kernel
theorem dX1_go_23 : decode cX1_go 23 = .ok (.iconst 1, 1) := by decide +kernel
theorem dX1_go_24 : decode cX1_go 24 = .ok (.goto 4, 3) := by decide +kernel
theorem dX1_go_27 : decode cX1_go 27 = .ok (.iconst 0, 1) := by decide +kernel
theorem dX1_go_28 : decode cX1_go 28 = .ok (.istore 5, 2) := by decide +kernel
theorem dX1_go_30 : decode cX1_go 30 = .ok (.iload 5, 2) := by decide +kernel
theorem dX1_go_32 : decode cX1_go 32 = .ok (.ifCond .eq 15, 3) := by decide +kernel
theorem dX1_go_35 : decode cX1_go 35 = .ok (.iload 4, 2) := by decide +kernel
theorem dX1_go_37 : decode cX1_go 37 = .ok (.iconst 1, 1) := by decide +kernel
theorem dX1_go_38 : decode cX1_go 38 = .ok (.isub, 1) := by decide +kernel
theorem dX1_go_39 : decode cX1_go 39 = .ok (.iconst 3, 1) := by decide +kernel
theorem dX1_go_40 : decode cX1_go 40 = .ok (.if_icmp .lt 7, 3) := by decide +kernel
theorem dX1_go_43 : decode cX1_go 43 = .ok (.aload_n 0, 1) := by decide +kernel
theorem dX1_go_44 : decode cX1_go 44 = .ok (.invokevirtual 34, 3) := by decide +kernel
theorem dX1_go_47 : decode cX1_go 47 = .ok (.aload_n 0, 1) := by decide +kernel
theorem dX1_go_48 : decode cX1_go 48 = .ok (.invokevirtual 37, 3) := by decide +kernel
theorem dX1_go_51 : decode cX1_go 51 = .ok (.aload_n 0, 1) := by decide +kernel
theorem dX1_go_52 : decode cX1_go 52 = .ok (.getfield 40, 3) := by decide +kernel
theorem dX1_go_55 : decode cX1_go 55 = .ok (.ifCond .eq 14, 3) := by decide +kernel
theorem dX1_go_58 : decode cX1_go 58 = .ok (.aload_n 0, 1) := by decide +kernel
theorem dX1_go_59 : decode cX1_go 59 = .ok (.getfield 43, 3) := by decide +kernel
theorem dX1_go_62 : decode cX1_go 62 = .ok (.aload_n 0, 1) := by decide +kernel
theorem dX1_go_63 : decode cX1_go 63 = .ok (.getfield 46, 3) := by decide +kernel
theorem dX1_go_66 : decode cX1_go 66 = .ok (.if_icmp .ge 11, 3) := by decide +kernel
theorem dX1_go_69 : decode cX1_go 69 = .ok (.aload_n 0, 1) := by decide +kernel
theorem dX1_go_70 : decode cX1_go 70 = .ok (.iload 4, 2) := by decide +kernel
theorem dX1_go_72 : decode cX1_go 72 = .ok (.invokevirtual 49, 3) := by decide +kernel
theorem dX1_go_75 : decode cX1_go 75 = .ok (.iconst 0, 1) := by decide +kernel
theorem dX1_go_76 : decode cX1_go 76 = .ok (.ireturn, 1) := by decide +kernel
theorem dX1_go_77 : decode cX1_go 77 = .ok (.aload_n 0, 1) := by decide +kernel
theorem dX1_go_78 : decode cX1_go 78 = .ok (.dup, 1) := by decide +kernel
theorem dX1_go_79 : decode cX1_go 79 = .ok (.getfield 43, 3) := by decide +kernel
theorem dX1_go_82 : decode cX1_go 82 = .ok (.aload_n 0, 1) := by decide +kernel
theorem dX1_go_83 : decode cX1_go 83 = .ok (.getfield 46, 3) := by decide +kernel
theorem dX1_go_86 : decode cX1_go 86 = .ok (.isub, 1) := by decide +kernel
theorem dX1_go_87 : decode cX1_go 87 = .ok (.putfield 43, 3) := by decide +kernel
theorem dX1_go_90 : decode cX1_go 90 = .ok (.iload 5, 2) := by decide +kernel
theorem dX1_go_92 : decode cX1_go 92 = .ok (.ifCond .ne 13, 3) := by decide +kernel
theorem dX1_go_95 : decode cX1_go 95 = .ok (.aload_n 0, 1) := by decide +kernel
theorem dX1_go_96 : decode cX1_go 96 = .ok (.iconst 2, 1) := by decide +kernel
theorem dX1_go_97 : decode cX1_go 97 = .ok (.iload_n 2, 1) := by decide +kernel
theorem dX1_go_98 : decode cX1_go 98 = .ok (.imul, 1) := by decide +kernel
theorem dX1_go_99 : decode cX1_go 99 = .ok (.iload 4, 2) := by decide +kernel
theorem dX1_go_101 : decode cX1_go 101 = .ok (.isub, 1) := by decide +kernel
theorem dX1_go_102 : decode cX1_go 102 = .ok (.invokevirtual 53, 3) := by decide +kernel
theorem dX1_go_105 : decode cX1_go 105 = .ok (.iinc 4 1, 3) := by decide +kernel
theorem dX1_go_108 : decode cX1_go 108 = .ok (.goto (-99), 3) := by decide +kernel
theorem dX1_go_111 : decode cX1_go 111 = .ok (.iconst 1, 1) := by decide +kernel
theorem dX1_go_112 : decode cX1_go 112 = .ok (.ireturn, 1) := by decide +kernel
set_option maxRecDepth 20000 in
theorem ggX1_setOut_X1_together : GoodIn wsX1_setOut wsX1_together := goodIn_r _ [14, 15, 16, 17, 18, 19, 20, 21, 22, 23, 24, 25, 26, 27] (by decide +kernel) (by decide +kernel)
set_option maxRecDepth 20000 in
theorem gX1_setOut_X1_together : GoodIn wsX1_setOut (wsV RX1 59 RX1 yX1_together wsX1_together) := goodIn_app (goodIn_of _ (by decide +kernel)) ggX1_setOut_X1_together
theorem dX1_setOut_0 : decode cX1_setOut 0 = .ok (.aload_n 0, 1) := by decide +kernel
theorem dX1_setOut_1 : decode cX1_setOut 1 = .ok (.iload_n 1, 1) := by decide +kernel
theorem dX1_setOut_2 : decode cX1_setOut 2 = .ok (.putfield 40, 3) := by decide +kernel
theorem dX1_setOut_5 : decode cX1_setOut 5 = .ok (.aload_n 0, 1) := by decide +kernel
theorem dX1_setOut_6 : decode cX1_setOut 6 = .ok (.aload_n 0, 1) := by decide +kernel
theorem dX1_setOut_7 : decode cX1_setOut 7 = .ok (.iload_n 1, 1) := by decide +kernel
theorem dX1_setOut_8 : decode cX1_setOut 8 = .ok (.getstatic 56, 3) := by decide +kernel
theorem dX1_setOut_11 : decode cX1_setOut 11 = .ok (.invokevirtual 59, 3) := by decide +kernel
theorem dX1_setOut_14 : decode cX1_setOut 14 = .ok (.putfield 63, 3) := by decide +kernel
theorem dX1_setOut_17 : decode cX1_setOut 17 = .ok (.aload_n 0, 1) := by decide +kernel
theorem dX1_setOut_18 : decode cX1_setOut 18 = .ok (.aload_n 0, 1) := by decide +kernel
theorem dX1_setOut_19 : decode cX1_setOut 19 = .ok (.iload_n 1, 1) := by decide +kernel
theorem dX1_setOut_20 : decode cX1_setOut 20 = .ok (.getstatic 66, 3) := by decide +kernel
theorem dX1_setOut_23 : decode cX1_setOut 23 = .ok (.invokevirtual 59, 3) := by decide +kernel
theorem dX1_setOut_26 : decode cX1_setOut 26 = .ok (.putfield 46, 3) := by decide +kernel
theorem dX1_setOut_29 : decode cX1_setOut 29 = .ok (.aload_n 0, 1) := by decide +kernel
theorem dX1_setOut_30 : decode cX1_setOut 30 = .ok (.iload_n 2, 1) := by decide +kernel
theorem dX1_setOut_31 : decode cX1_setOut 31 = .ok (.aload_n 0, 1) := by decide +kernel
theorem dX1_setOut_32 : decode cX1_setOut 32 = .ok (.getfield 63, 3) := by decide +kernel
theorem dX1_setOut_35 : decode cX1_setOut 35 = .ok (.invokestatic 69, 3) := by decide +kernel
theorem dX1_setOut_38 : decode cX1_setOut 38 = .ok (.putfield 43, 3) := by decide +kernel
theorem dX1_setOut_41 : decode cX1_setOut 41 = .ok (.aload_n 0, 1) := by decide +kernel
theorem dX1_setOut_42 : decode cX1_setOut 42 = .ok (.iconst 0, 1) := by decide +kernel
theorem dX1_setOut_43 : decode cX1_setOut 43 = .ok (.putfield 75, 3) := by decide +kernel
theorem dX1_setOut_46 : decode cX1_setOut 46 = .ok (.return_, 1) := by decide +kernel
set_option maxRecDepth 20000 in
theorem ggX1_eatPonies_X3_at : GoodIn wsX1_eatPonies wsX3_at := goodIn_r _ [5] (by decide +kernel) (by decide +kernel)
set_option maxRecDepth 20000 in
theorem gX1_eatPonies_X3_at_n22 : GoodIn wsX1_eatPonies (wsX3_at) := ggX1_eatPonies_X3_at
set_option maxRecDepth 20000 in
theorem ggX1_eatPonies_X1_devour : GoodIn wsX1_eatPonies wsX1_devour := goodIn_r _ [10, 11, 2, 12, 13, 14, 15, 16, 17, 18, 3, 4, 5, 19, 20, 21, 22, 23, 24, 25, 26] (by decide +kernel) (by decide +kernel)
set_option maxRecDepth 20000 in
theorem gX1_eatPonies_X1_devour : GoodIn wsX1_eatPonies (wsV RX1 78 RX1 yX1_devour wsX1_devour) := goodIn_app (goodIn_of _ (by decide +kernel)) ggX1_eatPonies_X1_devour
theorem dX1_eatPonies_0 : decode cX1_eatPonies 0 = .ok (.aload_n 0, 1) := by decide +kernel
theorem dX1_eatPonies_1 : decode cX1_eatPonies 1 = .ok (.getfield 18, 3) := by decide +kernel
theorem dX1_eatPonies_4 : decode cX1_eatPonies 4 = .ok (.iconst 1, 1) := by decide +kernel
theorem dX1_eatPonies_5 : decode cX1_eatPonies 5 = .ok (.isub, 1) := by decide +kernel
theorem dX1_eatPonies_6 : decode cX1_eatPonies 6 = .ok (.istore_n 1, 1) := by decide +kernel
theorem dX1_eatPonies_7 : decode cX1_eatPonies 7 = .ok (.iload_n 1, 1) := by decide +kernel
theorem dX1_eatPonies_8 : decode cX1_eatPonies 8 = .ok (.ifCond .lt 26, 3) := by decide +kernel
theorem dX1_eatPonies_11 : decode cX1_eatPonies 11 = .ok (.aload_n 0, 1) := by decide +kernel
theorem dX1_eatPonies_12 : decode cX1_eatPonies 12 = .ok (.getfield 9, 3) := by decide +kernel
theorem dX1_eatPonies_15 : decode cX1_eatPonies 15 = .ok (.iload_n 1, 1) := by decide +kernel
theorem dX1_eatPonies_16 : decode cX1_eatPonies 16 = .ok (.invokestatic 22, 3) := by decide +kernel
theorem dX1_eatPonies_19 : decode cX1_eatPonies 19 = .ok (.iconst 1, 1) := by decide +kernel
theorem dX1_eatPonies_20 : decode cX1_eatPonies 20 = .ok (.if_icmp .ne 8, 3) := by decide +kernel
theorem dX1_eatPonies_23 : decode cX1_eatPonies 23 = .ok (.aload_n 0, 1) := by decide +kernel
theorem dX1_eatPonies_24 : decode cX1_eatPonies 24 = .ok (.iload_n 1, 1) := by decide +kernel
theorem dX1_eatPonies_25 : decode cX1_eatPonies 25 = .ok (.invokevirtual 78, 3) := by decide +kernel
theorem dX1_eatPonies_28 : decode cX1_eatPonies 28 = .ok (.iinc 1 (-1), 3) := by decide +kernel
theorem dX1_eatPonies_31 : decode cX1_eatPonies 31 = .ok (.goto (-24), 3) := by decide +kernel
theorem dX1_eatPonies_34 : decode cX1_eatPonies 34 = .ok (.return_, 1) := by decide +kernel
set_option maxRecDepth 20000 in
theorem ggX1_eatBeasts_X3_at : GoodIn wsX1_eatBeasts wsX3_at := goodIn_r _ [7] (by decide +kernel) (by decide +kernel)
set_option maxRecDepth 20000 in
theorem gX1_eatBeasts_X3_at_n22 : GoodIn wsX1_eatBeasts (wsX3_at) := ggX1_eatBeasts_X3_at
set_option maxRecDepth 20000 in
theorem ggX1_eatBeasts_X3_isOf : GoodIn wsX1_eatBeasts wsX3_isOf := goodIn_r _ [9] (by decide +kernel) (by decide +kernel)
set_option maxRecDepth 20000 in
theorem gX1_eatBeasts_X3_isOf_n81 : GoodIn wsX1_eatBeasts (wsX3_isOf) := ggX1_eatBeasts_X3_isOf
set_option maxRecDepth 20000 in
theorem ggX1_eatBeasts_X1_devour : GoodIn wsX1_eatBeasts wsX1_devour := goodIn_r _ [14, 15, 4, 16, 3, 2, 17, 18, 19, 20, 5, 6, 7, 21, 22, 23, 24, 25, 26, 27, 28] (by decide +kernel) (by decide +kernel)
set_option maxRecDepth 20000 in
theorem gX1_eatBeasts_X1_devour : GoodIn wsX1_eatBeasts (wsV RX1 78 RX1 yX1_devour wsX1_devour) := goodIn_app (goodIn_of _ (by decide +kernel)) ggX1_eatBeasts_X1_devour
theorem dX1_eatBeasts_0 : decode cX1_eatBeasts 0 = .ok (.aload_n 0, 1) := by decide +kernel
theorem dX1_eatBeasts_1 : decode cX1_eatBeasts 1 = .ok (.getfield 18, 3) := by decide +kernel
theorem dX1_eatBeasts_4 : decode cX1_eatBeasts 4 = .ok (.iconst 1, 1) := by decide +kernel
theorem dX1_eatBeasts_5 : decode cX1_eatBeasts 5 = .ok (.isub, 1) := by decide +kernel
theorem dX1_eatBeasts_6 : decode cX1_eatBeasts 6 = .ok (.istore_n 1, 1) := by decide +kernel
theorem dX1_eatBeasts_7 : decode cX1_eatBeasts 7 = .ok (.iload_n 1, 1) := by decide +kernel
theorem dX1_eatBeasts_8 : decode cX1_eatBeasts 8 = .ok (.ifCond .lt 47, 3) := by decide +kernel
theorem dX1_eatBeasts_11 : decode cX1_eatBeasts 11 = .ok (.aload_n 0, 1) := by decide +kernel
theorem dX1_eatBeasts_12 : decode cX1_eatBeasts 12 = .ok (.getfield 43, 3) := by decide +kernel
theorem dX1_eatBeasts_15 : decode cX1_eatBeasts 15 = .ok (.aload_n 0, 1) := by decide +kernel
theorem dX1_eatBeasts_16 : decode cX1_eatBeasts 16 = .ok (.getfield 46, 3) := by decide +kernel
theorem dX1_eatBeasts_19 : decode cX1_eatBeasts 19 = .ok (.if_icmp .ge 36, 3) := by decide +kernel
theorem dX1_eatBeasts_22 : decode cX1_eatBeasts 22 = .ok (.aload_n 0, 1) := by decide +kernel
theorem dX1_eatBeasts_23 : decode cX1_eatBeasts 23 = .ok (.getfield 9, 3) := by decide +kernel
theorem dX1_eatBeasts_26 : decode cX1_eatBeasts 26 = .ok (.iload_n 1, 1) := by decide +kernel
theorem dX1_eatBeasts_27 : decode cX1_eatBeasts 27 = .ok (.invokestatic 22, 3) := by decide +kernel
theorem dX1_eatBeasts_30 : decode cX1_eatBeasts 30 = .ok (.istore_n 2, 1) := by decide +kernel
theorem dX1_eatBeasts_31 : decode cX1_eatBeasts 31 = .ok (.iload_n 2, 1) := by decide +kernel
theorem dX1_eatBeasts_32 : decode cX1_eatBeasts 32 = .ok (.iconst 1, 1) := by decide +kernel
theorem dX1_eatBeasts_33 : decode cX1_eatBeasts 33 = .ok (.if_icmp .eq 11, 3) := by decide +kernel
theorem dX1_eatBeasts_36 : decode cX1_eatBeasts 36 = .ok (.iload_n 2, 1) := by decide +kernel
theorem dX1_eatBeasts_37 : decode cX1_eatBeasts 37 = .ok (.iconst 2, 1) := by decide +kernel
theorem dX1_eatBeasts_38 : decode cX1_eatBeasts 38 = .ok (.invokestatic 81, 3) := by decide +kernel
theorem dX1_eatBeasts_41 : decode cX1_eatBeasts 41 = .ok (.ifCond .eq 8, 3) := by decide +kernel
theorem dX1_eatBeasts_44 : decode cX1_eatBeasts 44 = .ok (.aload_n 0, 1) := by decide +kernel
theorem dX1_eatBeasts_45 : decode cX1_eatBeasts 45 = .ok (.iload_n 1, 1) := by decide +kernel
theorem dX1_eatBeasts_46 : decode cX1_eatBeasts 46 = .ok (.invokevirtual 78, 3) := by decide +kernel
theorem dX1_eatBeasts_49 : decode cX1_eatBeasts 49 = .ok (.iinc 1 (-1), 3) := by decide +kernel
theorem dX1_eatBeasts_52 : decode cX1_eatBeasts 52 = .ok (.goto (-45), 3) := by decide +kernel
theorem dX1_eatBeasts_55 : decode cX1_eatBeasts 55 = .ok (.return_, 1) := by decide +kernel
set_option maxRecDepth 20000 in
theorem ggX1_devour_X3_at : GoodIn wsX1_devour wsX3_at := goodIn_r _ [12] (by decide +kernel) (by decide +kernel)
set_option maxRecDepth 20000 in
theorem gX1_devour_X3_at_n22 : GoodIn wsX1_devour (wsX3_at) := ggX1_devour_X3_at
theorem dX1_devour_0 : decode cX1_devour 0 = .ok (.aload_n 0, 1) := by decide +kernel
theorem dX1_devour_1 : decode cX1_devour 1 = .ok (.getfield 40, 3) := by decide +kernel
theorem dX1_devour_4 : decode cX1_devour 4 = .ok (.iload_n 1, 1) := by decide +kernel
theorem dX1_devour_5 : decode cX1_devour 5 = .ok (.ishr, 1) := by decide +kernel
theorem dX1_devour_6 : decode cX1_devour 6 = .ok (.iconst 1, 1) := by decide +kernel
theorem dX1_devour_7 : decode cX1_devour 7 = .ok (.iand, 1) := by decide +kernel
theorem dX1_devour_8 : decode cX1_devour 8 = .ok (.ifCond .ne 4, 3) := by decide +kernel
theorem dX1_devour_11 : decode cX1_devour 11 = .ok (.return_, 1) := by decide +kernel
theorem dX1_devour_12 : decode cX1_devour 12 = .ok (.aload_n 0, 1) := by decide +kernel
theorem dX1_devour_13 : decode cX1_devour 13 = .ok (.getfield 9, 3) := by decide +kernel
theorem dX1_devour_16 : decode cX1_devour 16 = .ok (.iload_n 1, 1) := by decide +kernel
theorem dX1_devour_17 : decode cX1_devour 17 = .ok (.invokestatic 22, 3) := by decide +kernel
theorem dX1_devour_20 : decode cX1_devour 20 = .ok (.istore_n 2, 1) := by decide +kernel
theorem dX1_devour_21 : decode cX1_devour 21 = .ok (.aload_n 0, 1) := by decide +kernel
theorem dX1_devour_22 : decode cX1_devour 22 = .ok (.dup, 1) := by decide +kernel
theorem dX1_devour_23 : decode cX1_devour 23 = .ok (.getfield 40, 3) := by decide +kernel
theorem dX1_devour_26 : decode cX1_devour 26 = .ok (.iconst 1, 1) := by decide +kernel
theorem dX1_devour_27 : decode cX1_devour 27 = .ok (.iload_n 1, 1) := by decide +kernel
theorem dX1_devour_28 : decode cX1_devour 28 = .ok (.ishl, 1) := by decide +kernel
theorem dX1_devour_29 : decode cX1_devour 29 = .ok (.iconst (-1), 1) := by decide +kernel
theorem dX1_devour_30 : decode cX1_devour 30 = .ok (.ixor, 1) := by decide +kernel
theorem dX1_devour_31 : decode cX1_devour 31 = .ok (.iand, 1) := by decide +kernel
theorem dX1_devour_32 : decode cX1_devour 32 = .ok (.putfield 40, 3) := by decide +kernel
theorem dX1_devour_35 : decode cX1_devour 35 = .ok (.aload_n 0, 1) := by decide +kernel
theorem dX1_devour_36 : decode cX1_devour 36 = .ok (.dup, 1) := by decide +kernel
theorem dX1_devour_37 : decode cX1_devour 37 = .ok (.getfield 63, 3) := by decide +kernel
theorem dX1_devour_40 : decode cX1_devour 40 = .ok (.getstatic 56, 3) := by decide +kernel
theorem dX1_devour_43 : decode cX1_devour 43 = .ok (.iload_n 2, 1) := by decide +kernel
theorem dX1_devour_44 : decode cX1_devour 44 = .ok (.invokestatic 22, 3) := by decide +kernel
theorem dX1_devour_47 : decode cX1_devour 47 = .ok (.isub, 1) := by decide +kernel
theorem dX1_devour_48 : decode cX1_devour 48 = .ok (.putfield 63, 3) := by decide +kernel
theorem dX1_devour_51 : decode cX1_devour 51 = .ok (.aload_n 0, 1) := by decide +kernel
theorem dX1_devour_52 : decode cX1_devour 52 = .ok (.dup, 1) := by decide +kernel
theorem dX1_devour_53 : decode cX1_devour 53 = .ok (.getfield 46, 3) := by decide +kernel
theorem dX1_devour_56 : decode cX1_devour 56 = .ok (.getstatic 66, 3) := by decide +kernel
theorem dX1_devour_59 : decode cX1_devour 59 = .ok (.iload_n 2, 1) := by decide +kernel
theorem dX1_devour_60 : decode cX1_devour 60 = .ok (.invokestatic 22, 3) := by decide +kernel
theorem dX1_devour_63 : decode cX1_devour 63 = .ok (.isub, 1) := by decide +kernel
theorem dX1_devour_64 : decode cX1_devour 64 = .ok (.putfield 46, 3) := by decide +kernel
theorem dX1_devour_67 : decode cX1_devour 67 = .ok (.aload_n 0, 1) := by decide +kernel
theorem dX1_devour_68 : decode cX1_devour 68 = .ok (.aload_n 0, 1) := by decide +kernel
theorem dX1_devour_69 : decode cX1_devour 69 = .ok (.getfield 43, 3) := by decide +kernel
theorem dX1_devour_72 : decode cX1_devour 72 = .ok (.getstatic 85, 3) := by decide +kernel
theorem dX1_devour_75 : decode cX1_devour 75 = .ok (.iload_n 2, 1) := by decide +kernel
theorem dX1_devour_76 : decode cX1_devour 76 = .ok (.invokestatic 22, 3) := by decide +kernel
theorem dX1_devour_79 : decode cX1_devour 79 = .ok (.iadd, 1) := by decide +kernel
theorem dX1_devour_80 : decode cX1_devour 80 = .ok (.aload_n 0, 1) := by decide +kernel
theorem dX1_devour_81 : decode cX1_devour 81 = .ok (.getfield 63, 3) := by decide +kernel
theorem dX1_devour_84 : decode cX1_devour 84 = .ok (.invokestatic 69, 3) := by decide +kernel
theorem dX1_devour_87 : decode cX1_devour 87 = .ok (.putfield 43, 3) := by decide +kernel
theorem dX1_devour_90 : decode cX1_devour 90 = .ok (.return_, 1) := by decide +kernel
theorem dX1_dieOn_0 : decode cX1_dieOn 0 = .ok (.aload_n 0, 1) := by decide +kernel
theorem dX1_dieOn_1 : decode cX1_dieOn 1 = .ok (.iconst 0, 1) := by decide +kernel
theorem dX1_dieOn_2 : decode cX1_dieOn 2 = .ok (.putfield 40, 3) := by decide +kernel
theorem dX1_dieOn_5 : decode cX1_dieOn 5 = .ok (.aload_n 0, 1) := by decide +kernel
theorem dX1_dieOn_6 : decode cX1_dieOn 6 = .ok (.iconst 0, 1) := by decide +kernel
theorem dX1_dieOn_7 : decode cX1_dieOn 7 = .ok (.putfield 43, 3) := by decide +kernel
theorem dX1_dieOn_10 : decode cX1_dieOn 10 = .ok (.aload_n 0, 1) := by decide +kernel
theorem dX1_dieOn_11 : decode cX1_dieOn 11 = .ok (.iload_n 1, 1) := by decide +kernel
theorem dX1_dieOn_12 : decode cX1_dieOn 12 = .ok (.putfield 75, 3) := by decide +kernel
theorem dX1_dieOn_15 : decode cX1_dieOn 15 = .ok (.return_, 1) := by decide +kernel
set_option maxRecDepth 20000 in
theorem ggX1_takeUpAt_X3_at : GoodIn wsX1_takeUpAt wsX3_at := goodIn_r _ [10] (by decide +kernel) (by decide +kernel)
set_option maxRecDepth 20000 in
theorem gX1_takeUpAt_X3_at_n22 : GoodIn wsX1_takeUpAt (wsX3_at) := ggX1_takeUpAt_X3_at
set_option maxRecDepth 20000 in
theorem ggX1_takeUpAt_X3_put : GoodIn wsX1_takeUpAt wsX3_put := goodIn_r _ [12] (by decide +kernel) (by decide +kernel)
set_option maxRecDepth 20000 in
theorem gX1_takeUpAt_X3_put_n88 : GoodIn wsX1_takeUpAt (wsX3_put) := ggX1_takeUpAt_X3_put
theorem dX1_takeUpAt_0 : decode cX1_takeUpAt 0 = .ok (.aload_n 0, 1) := by decide +kernel
theorem dX1_takeUpAt_1 : decode cX1_takeUpAt 1 = .ok (.getfield 15, 3) := by decide +kernel
theorem dX1_takeUpAt_4 : decode cX1_takeUpAt 4 = .ok (.iload_n 1, 1) := by decide +kernel
theorem dX1_takeUpAt_5 : decode cX1_takeUpAt 5 = .ok (.iconst 1, 1) := by decide +kernel
theorem dX1_takeUpAt_6 : decode cX1_takeUpAt 6 = .ok (.isub, 1) := by decide +kernel
theorem dX1_takeUpAt_7 : decode cX1_takeUpAt 7 = .ok (.invokestatic 22, 3) := by decide +kernel
theorem dX1_takeUpAt_10 : decode cX1_takeUpAt 10 = .ok (.aload_n 0, 1) := by decide +kernel
theorem dX1_takeUpAt_11 : decode cX1_takeUpAt 11 = .ok (.getfield 63, 3) := by decide +kernel
theorem dX1_takeUpAt_14 : decode cX1_takeUpAt 14 = .ok (.aload_n 0, 1) := by decide +kernel
theorem dX1_takeUpAt_15 : decode cX1_takeUpAt 15 = .ok (.getfield 43, 3) := by decide +kernel
theorem dX1_takeUpAt_18 : decode cX1_takeUpAt 18 = .ok (.isub, 1) := by decide +kernel
theorem dX1_takeUpAt_19 : decode cX1_takeUpAt 19 = .ok (.invokestatic 69, 3) := by decide +kernel
theorem dX1_takeUpAt_22 : decode cX1_takeUpAt 22 = .ok (.istore_n 2, 1) := by decide +kernel
theorem dX1_takeUpAt_23 : decode cX1_takeUpAt 23 = .ok (.aload_n 0, 1) := by decide +kernel
theorem dX1_takeUpAt_24 : decode cX1_takeUpAt 24 = .ok (.getfield 15, 3) := by decide +kernel
theorem dX1_takeUpAt_27 : decode cX1_takeUpAt 27 = .ok (.iload_n 1, 1) := by decide +kernel
theorem dX1_takeUpAt_28 : decode cX1_takeUpAt 28 = .ok (.iconst 1, 1) := by decide +kernel
theorem dX1_takeUpAt_29 : decode cX1_takeUpAt 29 = .ok (.isub, 1) := by decide +kernel
theorem dX1_takeUpAt_30 : decode cX1_takeUpAt 30 = .ok (.aload_n 0, 1) := by decide +kernel
theorem dX1_takeUpAt_31 : decode cX1_takeUpAt 31 = .ok (.getfield 15, 3) := by decide +kernel
theorem dX1_takeUpAt_34 : decode cX1_takeUpAt 34 = .ok (.iload_n 1, 1) := by decide +kernel
theorem dX1_takeUpAt_35 : decode cX1_takeUpAt 35 = .ok (.iconst 1, 1) := by decide +kernel
theorem dX1_takeUpAt_36 : decode cX1_takeUpAt 36 = .ok (.isub, 1) := by decide +kernel
theorem dX1_takeUpAt_37 : decode cX1_takeUpAt 37 = .ok (.invokestatic 22, 3) := by decide +kernel
theorem dX1_takeUpAt_40 : decode cX1_takeUpAt 40 = .ok (.iload_n 2, 1) := by decide +kernel
theorem dX1_takeUpAt_41 : decode cX1_takeUpAt 41 = .ok (.isub, 1) := by decide +kernel
theorem dX1_takeUpAt_42 : decode cX1_takeUpAt 42 = .ok (.invokestatic 88, 3) := by decide +kernel
theorem dX1_takeUpAt_45 : decode cX1_takeUpAt 45 = .ok (.aload_n 0, 1) := by decide +kernel
theorem dX1_takeUpAt_46 : decode cX1_takeUpAt 46 = .ok (.dup, 1) := by decide +kernel
theorem dX1_takeUpAt_47 : decode cX1_takeUpAt 47 = .ok (.getfield 43, 3) := by decide +kernel
theorem dX1_takeUpAt_50 : decode cX1_takeUpAt 50 = .ok (.iload_n 2, 1) := by decide +kernel
theorem dX1_takeUpAt_51 : decode cX1_takeUpAt 51 = .ok (.iadd, 1) := by decide +kernel
theorem dX1_takeUpAt_52 : decode cX1_takeUpAt 52 = .ok (.putfield 43, 3) := by decide +kernel
theorem dX1_takeUpAt_55 : decode cX1_takeUpAt 55 = .ok (.return_, 1) := by decide +kernel
theorem dX2_init_0 : decode cX2_init 0 = .ok (.aload_n 0, 1) := by decide +kernel
theorem dX2_init_1 : decode cX2_init 1 = .ok (.invokespecial 3, 3) := by decide +kernel
theorem dX2_init_4 : decode cX2_init 4 = .ok (.aload_n 0, 1) := by decide +kernel
theorem dX2_init_5 : decode cX2_init 5 = .ok (.iconst 5, 1) := by decide +kernel
theorem dX2_init_6 : decode cX2_init 6 = .ok (.newarray .int, 2) := by decide +kernel
theorem dX2_init_8 : decode cX2_init 8 = .ok (.putfield 9, 3) := by decide +kernel
theorem dX2_init_11 : decode cX2_init 11 = .ok (.aload_n 0, 1) := by decide +kernel
theorem dX2_init_12 : decode cX2_init 12 = .ok (.bipush 6, 2) := by decide +kernel
theorem dX2_init_14 : decode cX2_init 14 = .ok (.newarray .int, 2) := by decide +kernel
theorem dX2_init_16 : decode cX2_init 16 = .ok (.putfield 15, 3) := by decide +kernel
theorem dX2_init_19 : decode cX2_init 19 = .ok (.aload_n 0, 1) := by decide +kernel
theorem dX2_init_20 : decode cX2_init 20 = .ok (.bipush 6, 2) := by decide +kernel
theorem dX2_init_22 : decode cX2_init 22 = .ok (.newarray .int, 2) := by decide +kernel
theorem dX2_init_24 : decode cX2_init 24 = .ok (.putfield 18, 3) := by decide +kernel
theorem dX2_init_27 : decode cX2_init 27 = .ok (.aload_n 0, 1) := by decide +kernel
theorem dX2_init_28 : decode cX2_init 28 = .ok (.bipush 6, 2) := by decide +kernel
theorem dX2_init_30 : decode cX2_init 30 = .ok (.newarray .int, 2) := by decide +kernel
theorem dX2_init_32 : decode cX2_init 32 = .ok (.putfield 21, 3) := by decide +kernel
theorem dX2_init_35 : decode cX2_init 35 = .ok (.aload_n 0, 1) := by decide +kernel
theorem dX2_init_36 : decode cX2_init 36 = .ok (.bipush 6, 2) := by decide +kernel
theorem dX2_init_38 : decode cX2_init 38 = .ok (.newarray .int, 2) := by decide +kernel
theorem dX2_init_40 : decode cX2_init 40 = .ok (.putfield 24, 3) := by decide +kernel
theorem dX2_init_43 : decode cX2_init 43 = .ok (.return_, 1) := by decide +kernel
theorem dX2_begin_0 : decode cX2_begin 0 = .ok (.aload_n 0, 1) := by decide +kernel
theorem dX2_begin_1 : decode cX2_begin 1 = .ok (.iload_n 1, 1) := by decide +kernel
theorem dX2_begin_2 : decode cX2_begin 2 = .ok (.putfield 27, 3) := by decide +kernel
theorem dX2_begin_5 : decode cX2_begin 5 = .ok (.aload_n 0, 1) := by decide +kernel
theorem dX2_begin_6 : decode cX2_begin 6 = .ok (.iconst 0, 1) := by decide +kernel
theorem dX2_begin_7 : decode cX2_begin 7 = .ok (.putfield 31, 3) := by decide +kernel
theorem dX2_begin_10 : decode cX2_begin 10 = .ok (.aload_n 0, 1) := by decide +kernel
theorem dX2_begin_11 : decode cX2_begin 11 = .ok (.iconst 0, 1) := by decide +kernel
theorem dX2_begin_12 : decode cX2_begin 12 = .ok (.putfield 34, 3) := by decide +kernel
theorem dX2_begin_15 : decode cX2_begin 15 = .ok (.aload_n 0, 1) := by decide +kernel
theorem dX2_begin_16 : decode cX2_begin 16 = .ok (.iconst 0, 1) := by decide +kernel
theorem dX2_begin_17 : decode cX2_begin 17 = .ok (.putfield 37, 3) := by decide +kernel
theorem dX2_begin_20 : decode cX2_begin 20 = .ok (.return_, 1) := by decide +kernel
set_option maxRecDepth 20000 in
theorem ggX2_note_X3_put : GoodIn wsX2_note wsX3_put := goodIn_r _ [8] (by decide +kernel) (by decide +kernel)
set_option maxRecDepth 20000 in
theorem gX2_note_X3_put_n40 : GoodIn wsX2_note (wsX3_put) := ggX2_note_X3_put
theorem dX2_note_0 : decode cX2_note 0 = .ok (.aload_n 0, 1) := by decide +kernel
theorem dX2_note_1 : decode cX2_note 1 = .ok (.getfield 15, 3) := by decide +kernel
theorem dX2_note_4 : decode cX2_note 4 = .ok (.aload_n 0, 1) := by decide +kernel
theorem dX2_note_5 : decode cX2_note 5 = .ok (.getfield 37, 3) := by decide +kernel
theorem dX2_note_8 : decode cX2_note 8 = .ok (.iload_n 1, 1) := by decide +kernel
theorem dX2_note_9 : decode cX2_note 9 = .ok (.invokestatic 40, 3) := by decide +kernel
theorem dX2_note_12 : decode cX2_note 12 = .ok (.aload_n 0, 1) := by decide +kernel
theorem dX2_note_13 : decode cX2_note 13 = .ok (.getfield 18, 3) := by decide +kernel
theorem dX2_note_16 : decode cX2_note 16 = .ok (.aload_n 0, 1) := by decide +kernel
theorem dX2_note_17 : decode cX2_note 17 = .ok (.getfield 37, 3) := by decide +kernel
theorem dX2_note_20 : decode cX2_note 20 = .ok (.iload_n 2, 1) := by decide +kernel
theorem dX2_note_21 : decode cX2_note 21 = .ok (.invokestatic 40, 3) := by decide +kernel
theorem dX2_note_24 : decode cX2_note 24 = .ok (.aload_n 0, 1) := by decide +kernel
theorem dX2_note_25 : decode cX2_note 25 = .ok (.getfield 21, 3) := by decide +kernel
theorem dX2_note_28 : decode cX2_note 28 = .ok (.aload_n 0, 1) := by decide +kernel
theorem dX2_note_29 : decode cX2_note 29 = .ok (.getfield 37, 3) := by decide +kernel
theorem dX2_note_32 : decode cX2_note 32 = .ok (.iload_n 3, 1) := by decide +kernel
theorem dX2_note_33 : decode cX2_note 33 = .ok (.invokestatic 40, 3) := by decide +kernel
theorem dX2_note_36 : decode cX2_note 36 = .ok (.aload_n 0, 1) := by decide +kernel
theorem dX2_note_37 : decode cX2_note 37 = .ok (.getfield 24, 3) := by decide +kernel
theorem dX2_note_40 : decode cX2_note 40 = .ok (.aload_n 0, 1) := by decide +kernel
theorem dX2_note_41 : decode cX2_note 41 = .ok (.getfield 37, 3) := by decide +kernel
theorem dX2_note_44 : decode cX2_note 44 = .ok (.iload 4, 2) := by decide +kernel
theorem dX2_note_46 : decode cX2_note 46 = .ok (.ifCond .eq 7, 3) := by decide +kernel
theorem dX2_note_49 : decode cX2_note 49 = .ok (.iconst 1, 1) := by decide +kernel
theorem dX2_note_50 : decode cX2_note 50 = .ok (.goto 4, 3) := by decide +kernel
theorem dX2_note_53 : decode cX2_note 53 = .ok (.iconst 0, 1) := by decide +kernel
theorem dX2_note_54 : decode cX2_note 54 = .ok (.invokestatic 40, 3) := by decide +kernel
theorem dX2_note_57 : decode cX2_note 57 = .ok (.aload_n 0, 1) := by decide +kernel
theorem dX2_note_58 : decode cX2_note 58 = .ok (.dup, 1) := by decide +kernel
theorem dX2_note_59 : decode cX2_note 59 = .ok (.getfield 37, 3) := by decide +kernel
theorem dX2_note_62 : decode cX2_note 62 = .ok (.iconst 1, 1) := by decide +kernel
theorem dX2_note_63 : decode cX2_note 63 = .ok (.iadd, 1) := by decide +kernel
theorem dX2_note_64 : decode cX2_note 64 = .ok (.putfield 37, 3) := by decide +kernel
theorem dX2_note_67 : decode cX2_note 67 = .ok (.return_, 1) := by decide +kernel
set_option maxRecDepth 20000 in
theorem ggX2_takeFrom_X3_copy : GoodIn wsX2_takeFrom wsX3_copy := goodIn_r _ [12, 13, 14, 11, 15, 16, 17, 18] (by decide +kernel) (by decide +kernel)
set_option maxRecDepth 20000 in
theorem gX2_takeFrom_X3_copy_n44 : GoodIn wsX2_takeFrom (wsX3_copy) := ggX2_takeFrom_X3_copy
theorem dX2_takeFrom_0 : decode cX2_takeFrom 0 = .ok (.aload_n 1, 1) := by decide +kernel
theorem dX2_takeFrom_1 : decode cX2_takeFrom 1 = .ok (.ifnonnull 4, 3) := by decide +kernel
theorem dX2_takeFrom_4 : decode cX2_takeFrom 4 = .ok (.return_, 1) := by decide +kernel
theorem dX2_takeFrom_5 : decode cX2_takeFrom 5 = .ok (.aload_n 0, 1) := by decide +kernel
theorem dX2_takeFrom_6 : decode cX2_takeFrom 6 = .ok (.aload_n 1, 1) := by decide +kernel
theorem dX2_takeFrom_7 : decode cX2_takeFrom 7 = .ok (.getfield 27, 3) := by decide +kernel
theorem dX2_takeFrom_10 : decode cX2_takeFrom 10 = .ok (.putfield 27, 3) := by decide +kernel
theorem dX2_takeFrom_13 : decode cX2_takeFrom 13 = .ok (.aload_n 0, 1) := by decide +kernel
theorem dX2_takeFrom_14 : decode cX2_takeFrom 14 = .ok (.aload_n 1, 1) := by decide +kernel
theorem dX2_takeFrom_15 : decode cX2_takeFrom 15 = .ok (.getfield 31, 3) := by decide +kernel
theorem dX2_takeFrom_18 : decode cX2_takeFrom 18 = .ok (.putfield 31, 3) := by decide +kernel
theorem dX2_takeFrom_21 : decode cX2_takeFrom 21 = .ok (.aload_n 0, 1) := by decide +kernel
theorem dX2_takeFrom_22 : decode cX2_takeFrom 22 = .ok (.aload_n 1, 1) := by decide +kernel
theorem dX2_takeFrom_23 : decode cX2_takeFrom 23 = .ok (.getfield 34, 3) := by decide +kernel
theorem dX2_takeFrom_26 : decode cX2_takeFrom 26 = .ok (.putfield 34, 3) := by decide +kernel
theorem dX2_takeFrom_29 : decode cX2_takeFrom 29 = .ok (.aload_n 0, 1) := by decide +kernel
theorem dX2_takeFrom_30 : decode cX2_takeFrom 30 = .ok (.aload_n 1, 1) := by decide +kernel
theorem dX2_takeFrom_31 : decode cX2_takeFrom 31 = .ok (.getfield 37, 3) := by decide +kernel
theorem dX2_takeFrom_34 : decode cX2_takeFrom 34 = .ok (.putfield 37, 3) := by decide +kernel
theorem dX2_takeFrom_37 : decode cX2_takeFrom 37 = .ok (.aload_n 1, 1) := by decide +kernel
theorem dX2_takeFrom_38 : decode cX2_takeFrom 38 = .ok (.getfield 9, 3) := by decide +kernel
theorem dX2_takeFrom_41 : decode cX2_takeFrom 41 = .ok (.aload_n 0, 1) := by decide +kernel
theorem dX2_takeFrom_42 : decode cX2_takeFrom 42 = .ok (.getfield 9, 3) := by decide +kernel
theorem dX2_takeFrom_45 : decode cX2_takeFrom 45 = .ok (.invokestatic 44, 3) := by decide +kernel
theorem dX2_takeFrom_48 : decode cX2_takeFrom 48 = .ok (.aload_n 1, 1) := by decide +kernel
theorem dX2_takeFrom_49 : decode cX2_takeFrom 49 = .ok (.getfield 15, 3) := by decide +kernel
theorem dX2_takeFrom_52 : decode cX2_takeFrom 52 = .ok (.aload_n 0, 1) := by decide +kernel
theorem dX2_takeFrom_53 : decode cX2_takeFrom 53 = .ok (.getfield 15, 3) := by decide +kernel
theorem dX2_takeFrom_56 : decode cX2_takeFrom 56 = .ok (.invokestatic 44, 3) := by decide +kernel
theorem dX2_takeFrom_59 : decode cX2_takeFrom 59 = .ok (.aload_n 1, 1) := by decide +kernel
theorem dX2_takeFrom_60 : decode cX2_takeFrom 60 = .ok (.getfield 18, 3) := by decide +kernel
theorem dX2_takeFrom_63 : decode cX2_takeFrom 63 = .ok (.aload_n 0, 1) := by decide +kernel
theorem dX2_takeFrom_64 : decode cX2_takeFrom 64 = .ok (.getfield 18, 3) := by decide +kernel
theorem dX2_takeFrom_67 : decode cX2_takeFrom 67 = .ok (.invokestatic 44, 3) := by decide +kernel
theorem dX2_takeFrom_70 : decode cX2_takeFrom 70 = .ok (.aload_n 1, 1) := by decide +kernel
theorem dX2_takeFrom_71 : decode cX2_takeFrom 71 = .ok (.getfield 21, 3) := by decide +kernel
theorem dX2_takeFrom_74 : decode cX2_takeFrom 74 = .ok (.aload_n 0, 1) := by decide +kernel
theorem dX2_takeFrom_75 : decode cX2_takeFrom 75 = .ok (.getfield 21, 3) := by decide +kernel
theorem dX2_takeFrom_78 : decode cX2_takeFrom 78 = .ok (.invokestatic 44, 3) := by decide +kernel
theorem dX2_takeFrom_81 : decode cX2_takeFrom 81 = .ok (.aload_n 1, 1) := by decide +kernel
theorem dX2_takeFrom_82 : decode cX2_takeFrom 82 = .ok (.getfield 24, 3) := by decide +kernel
theorem dX2_takeFrom_85 : decode cX2_takeFrom 85 = .ok (.aload_n 0, 1) := by decide +kernel
theorem dX2_takeFrom_86 : decode cX2_takeFrom 86 = .ok (.getfield 24, 3) := by decide +kernel
theorem dX2_takeFrom_89 : decode cX2_takeFrom 89 = .ok (.invokestatic 44, 3) := by decide +kernel
theorem dX2_takeFrom_92 : decode cX2_takeFrom 92 = .ok (.return_, 1) := by decide +kernel
set_option maxRecDepth 20000 in
theorem ggX3_init_X0_init : GoodIn wsX3_init wsX0_init := goodIn_r _ [20, 21, 2, 3, 17, 22, 36, 37] (by decide +kernel) (by decide +kernel)
set_option maxRecDepth 20000 in
theorem gX3_init_X0_init_n9 : GoodIn wsX3_init (wsX0_init) := ggX3_init_X0_init
set_option maxRecDepth 20000 in
theorem ggX3_init_X1_init : GoodIn wsX3_init wsX1_init := goodIn_r _ [24, 25, 2, 3, 17, 26, 27, 46, 47, 48, 49, 50, 51, 52, 53] (by decide +kernel) (by decide +kernel)
set_option maxRecDepth 20000 in
theorem gX3_init_X1_init_n18 : GoodIn wsX3_init (wsX1_init) := ggX3_init_X1_init
set_option maxRecDepth 20000 in
theorem ggX3_init_X2_init : GoodIn wsX3_init wsX2_init := goodIn_r _ [29, 30, 2, 3, 17, 31, 32, 33, 34, 35, 54, 55, 56, 57, 58, 59, 60, 61, 62] (by decide +kernel) (by decide +kernel)
set_option maxRecDepth 20000 in
theorem gX3_init_X2_init_n25 : GoodIn wsX3_init (wsX2_init) := ggX3_init_X2_init
