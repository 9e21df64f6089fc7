/-! the reference: what it asks -/
theorem le_nlt {x y : Int32} : decide (y < x) = !decide (x ≤ y) := by
  by_cases h : x ≤ y
  · rw [decide_eq_true h, decide_eq_false (i_nlt.mpr h)]; rfl
  · rw [decide_eq_false h, decide_eq_true (i_nle.mp h)]; rfl
theorem inb_o {x y v : Int32} : inb v.toInt64 x.toInt64 y.toInt64 = !(decide (v < x) || !decide (v ≤ y)) := by
  rw [inb_i, le_nlt (x := v) (y := y), Bool.not_or]
def noM (n : Nat) (x : Int32) : Bool := decide (x < 0) || !decide (x < nI n)
theorem pred_int : ∀ n, n < 7 → (nI n - 1).toInt = (n : Int) - 1 := by decide +kernel
theorem inb_mem {n : Nat} {x : Int32} (hn : n ≤ 6) : inb x.toInt64 0 (nI n - 1).toInt64 = !noM n x := by
  rw [show (0 : Int64) = (0 : Int32).toInt64 by decide, inb_o]
  unfold noM
  have h1 := pred_int n (by omega)
  have h2 := nI_toInt (n := n) (by omega)
  have : decide (x ≤ nI n - 1) = decide (x < nI n) := by
    apply decide_eq_decide.mpr
    simp only [Int32.lt_iff_toInt_lt, Int32.le_iff_toInt_le]
    omega
  rw [this]
theorem inb_cairn {n : Nat} {x : Int32} (hn : n ≠ 0) : inb x.toInt64 1 5 = !noCairn n x := by
  rw [show (1 : Int64) = (1 : Int32).toInt64 by decide, show (5 : Int64) = (5 : Int32).toInt64 by decide, inb_o]
  unfold noCairn
  rw [decide_eq_false hn, Bool.or_false]
theorem inb_people {n : Nat} {x : Int32} : inb x.toInt64 1 (nI (2 ^ n - 1)).toInt64 = !noPeople n x := by
  rw [show (1 : Int64) = (1 : Int32).toInt64 by decide, inb_o]
  rfl
theorem inb_stage {x : Int32} : inb x.toInt64 1 6 = !noStage x := by
  rw [show (1 : Int64) = (1 : Int32).toInt64 by decide, show (6 : Int64) = (6 : Int32).toInt64 by decide, inb_o]
  rfl
theorem inb_food {x : Int32} : inb x.toInt64 0 40 = !noFood x := by
  rw [show (0 : Int64) = (0 : Int32).toInt64 by decide, show (40 : Int64) = (40 : Int32).toInt64 by decide, inb_o]
  rfl
theorem b2n_t {b : Bool} (h : b2 (!b) = 0) : b = true := by cases b <;> first | rfl | exact absurd h (by decide)
theorem b2n_f {b : Bool} (h : ¬ b2 (!b) = 0) : b = false := by cases b <;> first | rfl | exact absurd rfl h
def E2 (i i' : Nat → Int32) : Prop := ∀ k, k ≠ 2 → i' k = i k
theorem end_eq : ∀ en, en < 16 → (nI en - 1 = -1 ↔ en = 0) := by decide +kernel
theorem end_6 : ∀ en, en < 16 → nI en - 1 + 6 = nI (en + 5) := by decide +kernel
theorem inb_dig {x : Int32} : inb x.toInt64 48 57 = (decide (48 ≤ x) && decide (x ≤ 57)) := by
  rw [show (48 : Int64) = (48 : Int32).toInt64 by decide, show (57 : Int64) = (57 : Int32).toInt64 by decide, inb_o, Bool.not_or, Bool.not_not, le_nlt, Bool.not_not]
theorem mul_nI (x y : Nat) : nI x * nI y = nI (x * y) := pk_mul x y
set_option maxHeartbeats 4000000 in
set_option maxRecDepth 100000 in
theorem m_lacks (l : Launch) (D : va_G) (cI : ClassId) (tt : Nat × Nat × Nat) (b : Nat → Nat) (i : Nat → Int32) (r : Nat → Nat → Int32) (h : Int64) (n : Nat) (hn : i 3 = nI n) (hn6 : n ≤ 6) : MetI (S := Unit) l yX4_lacks cX4_lacks 1 (some .boolean) (rm 0 0) D cI tt [.ref (b 0)] (mW cI b i r h) (fun q _ => q = b2 (decide (n = 0))) (fun _ => mW cI b i r h) := by
  refine met_ofI (by decide) (Nat.le_of_ble_eq_true rfl) ?_
  intro pP eE sS mM aV bB mE cC AA C hin
  refine z_conv (lv' := [(0, .ref (b 0))]) ⟨rfl, trivial⟩ rfl rfl ?_
  refine z_aload_n C (pc := 0) dX4_lacks_0 rfl ?_
  refine z_get C (pc := 1) 0 rfl rfl wf_X4 3 (by decide) rfl wl_X4_69 (v := .int (i 3)) rfl dX4_lacks_1 ?_
  refine z_if_ne C (pc := 4) (tgt := 11) dX4_lacks_4 (by decide) (fun c_1 => ?_) (fun c_1 => ?_)
  · refine z_iconst C (pc := 11) (v := 0) dX4_lacks_11 (by decide) ?_
    refine z_zret C (pc := 12) () dX4_lacks_12 rfl ?_ rfl
    have h0 : n ≠ 0 := nI_nz (hn ▸ c_1)
    simp [b2, h0]
  · refine z_iconst C (pc := 7) (v := 1) dX4_lacks_7 (by decide) ?_
    refine z_goto C (pc := 8) (tgt := 12) dX4_lacks_8 (by decide) ?_
    refine z_zret C (pc := 12) () dX4_lacks_12 rfl ?_ rfl
    have h0 : n = 0 := nI_z (by omega) (hn ▸ c_1)
    simp [b2, h0]

set_option maxHeartbeats 4000000 in
set_option maxRecDepth 100000 in
theorem m_isMember (l : Launch) (D : va_G) (cI : ClassId) (tt : Nat × Nat × Nat) (b : Nat → Nat) (i : Nat → Int32) (r : Nat → Nat → Int32) (h : Int64) (x : Int32) (n : Nat) (hn : i 3 = nI n) (hn6 : n ≤ 6) : MetI (S := Unit) l yX4_isMember cX4_isMember 2 (some .boolean) (rm 1 25) D cI tt [.ref (b 0), .int x] (mW cI b i r h) (fun q _ => q = b2 (!noM n x)) (fun _ => mW cI b i r h) := by
  refine met_ofI (by decide) (Nat.le_of_ble_eq_true rfl) ?_
  intro pP eE sS mM aV bB mE cC AA C hin
  refine z_conv (lv' := [(0, .ref (b 0)), (1, .int x)]) ⟨rfl, rfl, trivial⟩ rfl rfl ?_
  refine z_iload_n C (pc := 0) dX4_isMember_0 rfl ?_
  refine z_i2l C (pc := 1) dX4_isMember_1 ?_
  refine z_lconst C (pc := 2) (v := 0) dX4_isMember_2 (by decide) ?_
  refine z_aload_n C (pc := 3) dX4_isMember_3 rfl ?_
  refine z_get C (pc := 4) 0 rfl rfl wf_X4 3 (by decide) rfl wl_X4_69 (v := .int (i 3)) rfl dX4_isMember_4 ?_
  refine z_iconst C (pc := 7) (v := 1) dX4_isMember_7 (by decide) ?_
  refine z_isub C (pc := 8) dX4_isMember_8 ?_
  refine z_i2l C (pc := 9) dX4_isMember_9 ?_
  refine z_calli C (isC := []) rfl (by exact fun _ => rfl) (runS C (wc := []) (pc := 10) (rY' := rm 0 0) (nn := 3) (As := [.long x.toInt64, .long 0, .long (((i 3) - 1).toInt64)]) (rest := []) (m_in l D cI tt x.toInt64 0 (((i 3) - 1).toInt64)) rfl rfl ⟨rfl, rfl, ⟨Nat.le_of_ble_eq_true rfl, Nat.le_of_ble_eq_true rfl⟩, Nat.le_of_ble_eq_true rfl, Nat.le_of_ble_eq_true rfl⟩ wl_X4_43 ws_X4_in wi_X4 wc_X4_in (by decide +kernel) rfl rfl (Nat.le_of_ble_eq_true rfl) dX4_isMember_10) (fun r_1 u_1 h_1 => ?_)
  subst h_1
  refine z_ws (st' := [.int (b2 (inb x.toInt64 0 (((i 3) - 1).toInt64)))]) (ws' := (mW cI b i r h)) rfl rfl ?_
  refine z_zret C (pc := 13) () dX4_isMember_13 (by unfold b2; split <;> rfl) ?_ rfl
  rw [hn, inb_mem hn6]

set_option maxHeartbeats 4000000 in
set_option maxRecDepth 100000 in
theorem m_isCairn (l : Launch) (D : va_G) (cI : ClassId) (tt : Nat × Nat × Nat) (b : Nat → Nat) (i : Nat → Int32) (r : Nat → Nat → Int32) (h : Int64) (x : Int32) (n : Nat) (hn : i 3 = nI n) (hn6 : n ≤ 6) : MetI (S := Unit) l yX4_isCairn cX4_isCairn 2 (some .boolean) (rm 1 25) D cI tt [.ref (b 0), .int x] (mW cI b i r h) (fun q _ => q = b2 (!noCairn n x)) (fun _ => mW cI b i r h) := by
  refine met_ofI (by decide) (Nat.le_of_ble_eq_true rfl) ?_
  intro pP eE sS mM aV bB mE cC AA C hin
  refine z_conv (lv' := [(0, .ref (b 0)), (1, .int x)]) ⟨rfl, rfl, trivial⟩ rfl rfl ?_
  refine z_aload_n C (pc := 0) dX4_isCairn_0 rfl ?_
  refine z_calliF C (by exact fun _ => mW_ad) (runV C (wc := (mW cI b i r h)) (pc := 1) (rY' := rm 0 0) (nn := 0) (As := []) (rest := []) (m_lacks l D cI tt b i r h n hn hn6) (full_hC _) (full_nd _) ⟨rfl, rfl, ⟨Nat.le_of_ble_eq_true rfl, Nat.le_of_ble_eq_true rfl⟩, Nat.le_of_ble_eq_true rfl, Nat.le_of_ble_eq_true rfl⟩ wl_X4_87 wm_X4_lacks we_X4_lacks wi_X4 wc_X4_lacks (by decide +kernel) rfl 0 rfl rfl rfl rfl (Nat.le_of_ble_eq_true rfl) dX4_isCairn_1) (fun q_1 u_1 h_1 => ?_)
  subst h_1
  refine z_ws (st' := [.int (b2 (decide (n = 0)))]) (ws' := (mW cI b i r h)) rfl rfl ?_
  refine z_if_ne C (pc := 4) (tgt := 23) dX4_isCairn_4 (by decide) (fun c_2 => ?_) (fun c_2 => ?_)
  · have h0 : n = 0 := of_decide_eq_true (b2_t c_2)
    refine z_iconst C (pc := 23) (v := 0) dX4_isCairn_23 (by decide) ?_
    refine z_zret C (pc := 24) () dX4_isCairn_24 rfl ?_ rfl
    unfold noCairn; simp [b2, h0]
  · have h0 : n ≠ 0 := of_decide_eq_false (b2_f c_2)
    refine z_iload_n C (pc := 7) dX4_isCairn_7 rfl ?_
    refine z_i2l C (pc := 8) dX4_isCairn_8 ?_
    refine z_lconst C (pc := 9) (v := 1) dX4_isCairn_9 (by decide) ?_
    refine z_ldc2 C (pc := 10) (v := 5) wl_X4_91 dX4_isCairn_10 ?_
    refine z_calli C (isC := []) rfl (by exact fun _ => rfl) (runS C (wc := []) (pc := 13) (rY' := rm 0 0) (nn := 3) (As := [.long x.toInt64, .long 1, .long 5]) (rest := []) (m_in l D cI tt x.toInt64 1 5) rfl rfl ⟨rfl, rfl, ⟨Nat.le_of_ble_eq_true rfl, Nat.le_of_ble_eq_true rfl⟩, Nat.le_of_ble_eq_true rfl, Nat.le_of_ble_eq_true rfl⟩ wl_X4_43 ws_X4_in wi_X4 wc_X4_in (by decide +kernel) rfl rfl (Nat.le_of_ble_eq_true rfl) dX4_isCairn_13) (fun r_3 u_3 h_3 => ?_)
    subst h_3
    refine z_ws (st' := [.int (b2 (inb x.toInt64 1 5))]) (ws' := (mW cI b i r h)) rfl rfl ?_
    refine z_if_eq C (pc := 16) (tgt := 23) dX4_isCairn_16 (by decide) (fun c_4 => ?_) (fun c_4 => ?_)
    · refine z_iconst C (pc := 23) (v := 0) dX4_isCairn_23 (by decide) ?_
      refine z_zret C (pc := 24) () dX4_isCairn_24 rfl ?_ rfl
      have hc := b2_f c_4
      rw [inb_cairn h0] at hc
      rw [hc]; rfl
    · refine z_iconst C (pc := 19) (v := 1) dX4_isCairn_19 (by decide) ?_
      refine z_goto C (pc := 20) (tgt := 24) dX4_isCairn_20 (by decide) ?_
      refine z_zret C (pc := 24) () dX4_isCairn_24 rfl ?_ rfl
      have hc := b2_t c_4
      rw [inb_cairn h0] at hc
      rw [hc]; rfl

set_option maxHeartbeats 4000000 in
set_option maxRecDepth 100000 in
theorem m_areMembers (l : Launch) (D : va_G) (cI : ClassId) (tt : Nat × Nat × Nat) (b : Nat → Nat) (i : Nat → Int32) (r : Nat → Nat → Int32) (h : Int64) (x : Int32) (n : Nat) (hn : i 3 = nI n) (hn6 : n ≤ 6) : MetI (S := Unit) l yX4_areMembers cX4_areMembers 2 (some .boolean) (rm 1 25) D cI tt [.ref (b 0), .int x] (mW cI b i r h) (fun q _ => q = b2 (!noPeople n x)) (fun _ => mW cI b i r h) := by
  refine met_ofI (by decide) (Nat.le_of_ble_eq_true rfl) ?_
  intro pP eE sS mM aV bB mE cC AA C hin
  refine z_conv (lv' := [(0, .ref (b 0)), (1, .int x)]) ⟨rfl, rfl, trivial⟩ rfl rfl ?_
  refine z_iload_n C (pc := 0) dX4_areMembers_0 rfl ?_
  refine z_i2l C (pc := 1) dX4_areMembers_1 ?_
  refine z_lconst C (pc := 2) (v := 1) dX4_areMembers_2 (by decide) ?_
  refine z_iconst C (pc := 3) (v := 1) dX4_areMembers_3 (by decide) ?_
  refine z_aload_n C (pc := 4) dX4_areMembers_4 rfl ?_
  refine z_get C (pc := 5) 0 rfl rfl wf_X4 3 (by decide) rfl wl_X4_69 (v := .int (i 3)) rfl dX4_areMembers_5 ?_
  refine z_ishl C (pc := 8) dX4_areMembers_8 ?_
  refine z_iconst C (pc := 9) (v := 1) dX4_areMembers_9 (by decide) ?_
  refine z_isub C (pc := 10) dX4_areMembers_10 ?_
  refine z_i2l C (pc := 11) dX4_areMembers_11 ?_
  refine z_calli C (isC := []) rfl (by exact fun _ => rfl) (runS C (wc := []) (pc := 12) (rY' := rm 0 0) (nn := 3) (As := [.long x.toInt64, .long 1, .long (((1 <<< ((i 3) &&& 31)) - 1).toInt64)]) (rest := []) (m_in l D cI tt x.toInt64 1 (((1 <<< ((i 3) &&& 31)) - 1).toInt64)) rfl rfl ⟨rfl, rfl, ⟨Nat.le_of_ble_eq_true rfl, Nat.le_of_ble_eq_true rfl⟩, Nat.le_of_ble_eq_true rfl, Nat.le_of_ble_eq_true rfl⟩ wl_X4_43 ws_X4_in wi_X4 wc_X4_in (by decide +kernel) rfl rfl (Nat.le_of_ble_eq_true rfl) dX4_areMembers_12) (fun r_1 u_1 h_1 => ?_)
  subst h_1
  refine z_ws (st' := [.int (b2 (inb x.toInt64 1 (((1 <<< ((i 3) &&& 31)) - 1).toInt64)))]) (ws' := (mW cI b i r h)) rfl rfl ?_
  refine z_zret C (pc := 15) () dX4_areMembers_15 (by unfold b2; split <;> rfl) ?_ rfl
  rw [hn, one_shl n hn6, inb_people]

set_option maxHeartbeats 4000000 in
set_option maxRecDepth 100000 in
theorem m_isMarch (l : Launch) (D : va_G) (cI : ClassId) (tt : Nat × Nat × Nat) (b : Nat → Nat) (i : Nat → Int32) (r : Nat → Nat → Int32) (h : Int64) (x y f : Int32) (n : Nat) (hn : i 3 = nI n) (hn6 : n ≤ 6) : MetI (S := Unit) l yX4_isMarch cX4_isMarch 4 (some .boolean) (rm 2 46) D cI tt [.ref (b 0), .int x, .int y, .int f] (mW cI b i r h) (fun q _ => q = b2 (!noMarch n x y f)) (fun _ => mW cI b i r h) := by
  refine met_ofI (by decide) (Nat.le_of_ble_eq_true rfl) ?_
  intro pP eE sS mM aV bB mE cC AA C hin
  refine z_conv (lv' := [(0, .ref (b 0)), (1, .int x), (2, .int y), (3, .int f)]) ⟨rfl, rfl, rfl, rfl, trivial⟩ rfl rfl ?_
  refine z_aload_n C (pc := 0) dX4_isMarch_0 rfl ?_
  refine z_iload_n C (pc := 1) dX4_isMarch_1 rfl ?_
  refine z_calliF C (by exact fun _ => mW_ad) (runV C (wc := (mW cI b i r h)) (pc := 2) (rY' := rm 1 25) (nn := 1) (As := [.int x]) (rest := []) (m_areMembers l D cI tt b i r h x n hn hn6) (full_hC _) (full_nd _) ⟨rfl, rfl, ⟨Nat.le_of_ble_eq_true rfl, Nat.le_of_ble_eq_true rfl⟩, Nat.le_of_ble_eq_true rfl, Nat.le_of_ble_eq_true rfl⟩ wl_X4_163 wm_X4_areMembers we_X4_areMembers wi_X4 wc_X4_areMembers (by decide +kernel) rfl 0 rfl rfl rfl rfl (Nat.le_of_ble_eq_true rfl) dX4_isMarch_2) (fun q_1 u_1 h_1 => ?_)
  subst h_1
  refine z_ws (st' := [.int (b2 (!noPeople n x))]) (ws' := (mW cI b i r h)) rfl rfl ?_
  refine z_if_eq C (pc := 5) (tgt := 36) dX4_isMarch_5 (by decide) (fun c_2 => ?_) (fun c_2 => ?_)
  · have g1 := b2n_t c_2
    refine z_iconst C (pc := 36) (v := 0) dX4_isMarch_36 (by decide) ?_
    refine z_zret C (pc := 37) () dX4_isMarch_37 rfl ?_ rfl
    unfold noMarch
    simp_all [b2]
  · have g1 := b2n_f c_2
    refine z_iload_n C (pc := 8) dX4_isMarch_8 rfl ?_
    refine z_i2l C (pc := 9) dX4_isMarch_9 ?_
    refine z_lconst C (pc := 10) (v := 1) dX4_isMarch_10 (by decide) ?_
    refine z_ldc2 C (pc := 11) (v := 6) wl_X4_166 dX4_isMarch_11 ?_
    refine z_calli C (isC := []) rfl (by exact fun _ => rfl) (runS C (wc := []) (pc := 14) (rY' := rm 0 0) (nn := 3) (As := [.long y.toInt64, .long 1, .long 6]) (rest := []) (m_in l D cI tt y.toInt64 1 6) rfl rfl ⟨rfl, rfl, ⟨Nat.le_of_ble_eq_true rfl, Nat.le_of_ble_eq_true rfl⟩, Nat.le_of_ble_eq_true rfl, Nat.le_of_ble_eq_true rfl⟩ wl_X4_43 ws_X4_in wi_X4 wc_X4_in (by decide +kernel) rfl rfl (Nat.le_of_ble_eq_true rfl) dX4_isMarch_14) (fun r_3 u_3 h_3 => ?_)
    subst h_3
    refine z_ws (st' := [.int (b2 (inb y.toInt64 1 6))]) (ws' := (mW cI b i r h)) rfl rfl ?_
    refine z_if_eq C (pc := 17) (tgt := 36) dX4_isMarch_17 (by decide) (fun c_4 => ?_) (fun c_4 => ?_)
    · have g2 := b2_f c_4
      rw [inb_stage] at g2
      refine z_iconst C (pc := 36) (v := 0) dX4_isMarch_36 (by decide) ?_
      refine z_zret C (pc := 37) () dX4_isMarch_37 rfl ?_ rfl
      unfold noMarch
      simp_all [b2]
    · have g2 := b2_t c_4
      rw [inb_stage] at g2
      refine z_iload_n C (pc := 20) dX4_isMarch_20 rfl ?_
      refine z_i2l C (pc := 21) dX4_isMarch_21 ?_
      refine z_lconst C (pc := 22) (v := 0) dX4_isMarch_22 (by decide) ?_
      refine z_ldc2 C (pc := 23) (v := 40) wl_X4_168 dX4_isMarch_23 ?_
      refine z_calli C (isC := []) rfl (by exact fun _ => rfl) (runS C (wc := []) (pc := 26) (rY' := rm 0 0) (nn := 3) (As := [.long f.toInt64, .long 0, .long 40]) (rest := []) (m_in l D cI tt f.toInt64 0 40) rfl rfl ⟨rfl, rfl, ⟨Nat.le_of_ble_eq_true rfl, Nat.le_of_ble_eq_true rfl⟩, Nat.le_of_ble_eq_true rfl, Nat.le_of_ble_eq_true rfl⟩ wl_X4_43 ws_X4_in wi_X4 wc_X4_in (by decide +kernel) rfl rfl (Nat.le_of_ble_eq_true rfl) dX4_isMarch_26) (fun r_5 u_5 h_5 => ?_)
      subst h_5
      refine z_ws (st' := [.int (b2 (inb f.toInt64 0 40))]) (ws' := (mW cI b i r h)) rfl rfl ?_
      refine z_if_eq C (pc := 29) (tgt := 36) dX4_isMarch_29 (by decide) (fun c_6 => ?_) (fun c_6 => ?_)
      · have g3 := b2_f c_6
        rw [inb_food] at g3
        refine z_iconst C (pc := 36) (v := 0) dX4_isMarch_36 (by decide) ?_
        refine z_zret C (pc := 37) () dX4_isMarch_37 rfl ?_ rfl
        unfold noMarch
        simp_all [b2]
      · have g3 := b2_t c_6
        rw [inb_food] at g3
        refine z_iconst C (pc := 32) (v := 1) dX4_isMarch_32 (by decide) ?_
        refine z_goto C (pc := 33) (tgt := 37) dX4_isMarch_33 (by decide) ?_
        refine z_zret C (pc := 37) () dX4_isMarch_37 rfl ?_ rfl
        unfold noMarch
        simp_all [b2]

set_option maxHeartbeats 4000000 in
set_option maxRecDepth 100000 in
theorem m_isGood (l : Launch) (D : va_G) (cI : ClassId) (tt : Nat × Nat × Nat) (b : Nat → Nat) (i : Nat → Int32) (r : Nat → Nat → Int32) (h : Int64) (p en : Nat) (hp : p < 15) (he : en ≤ 7) (hen : i 2 = nI en - 1) : MetI (S := (Nat → Int32)) l yX4_isGood cX4_isGood 3 (some .boolean) (rm 1 25) D cI tt [.ref (b 0), .int (nI p)] (mW cI b i r h) (fun q i' => q = b2 (gdb (r 0) p en) ∧ i' 2 = nI (gde (r 0) p en) - 1 ∧ E2 i i') (fun i' => mW cI b i' r h) := by
  refine met_ofI (by decide) (Nat.le_of_ble_eq_true rfl) ?_
  intro pP eE sS mM aV bB mE cC AA C hin
  refine z_conv (lv' := [(0, .ref (b 0)), (1, .int (nI p))]) ⟨rfl, rfl, trivial⟩ rfl rfl ?_
  refine z_aload_n C (pc := 0) dX4_isGood_0 rfl ?_
  refine z_get C (pc := 1) 0 rfl rfl wf_X4 0 (by decide) rfl wl_X4_7 (v := .ref (b 1)) rfl dX4_isGood_1 ?_
  refine z_iload_n C (pc := 4) dX4_isGood_4 rfl ?_
  have h_1 : vp_in (nI p) 15 := by exact vp_in_nI hp (by decide)
  refine z_iald C (pc := 5) 1 rfl h_1 dX4_isGood_5 ?_
  refine z_seti (y := (r 0 p)) (by rw [nI_clamp (by omega)]) ?_
  refine z_istore_n C (pc := 6) (lv' := [(0, .ref (b 0)), (1, .int (nI p)), (2, .int (r 0 p))]) dX4_isGood_6 (Nat.le_of_ble_eq_true rfl) rfl rfl ?_
  refine z_aload_n C (pc := 7) dX4_isGood_7 rfl ?_
  refine z_get C (pc := 8) 0 rfl rfl wf_X4 2 (by decide) rfl wl_X4_50 (v := .int (i 2)) rfl dX4_isGood_8 ?_
  refine z_iconst C (pc := 11) (v := (-1)) dX4_isGood_11 (by decide) ?_
  refine z_icmp_eq C (pc := 12) (tgt := 46) dX4_isGood_12 (by decide) (fun c_2 => ?_) (fun c_2 => ?_)
  · rw [hen] at c_2
    have he0 : en = 0 := (end_eq en (by omega)).mp c_2
    refine z_iload_n C (pc := 46) dX4_isGood_46 rfl ?_
    refine z_bipush C (pc := 47) (v := 59) dX4_isGood_47 (by decide) ?_
    refine z_icmp_ne C (pc := 49) (tgt := 64) dX4_isGood_49 (by decide) (fun c_3 => ?_) (fun c_3 => ?_)
    · have hs : ¬ (r 0 p = 59 ∧ 2 ≤ p) := fun e => c_3 e.1
      refine z_iload_n C (pc := 64) dX4_isGood_64 rfl ?_
      refine z_bipush C (pc := 65) (v := 6) dX4_isGood_65 (by decide) ?_
      refine z_icmp_ge C (pc := 67) (tgt := 82) dX4_isGood_67 (by decide) (fun c_4 => ?_) (fun c_4 => ?_)
      · have h6 : ¬ p < 6 := fun e => nI_ge (a := p) (b := 6) e (by decide) c_4
        refine z_iconst C (pc := 82) (v := 0) dX4_isGood_82 (by decide) ?_
        refine z_zret C (pc := 83) i dX4_isGood_83 rfl ?_ rfl
        subst he0
        have hg : gde (r 0) p 0 = 0 := by unfold gde; rw [if_neg (by simp), if_neg hs]
        have hs2 : (decide (r 0 p = 59) && decide (2 ≤ p)) = false := by
          rw [← Bool.decide_and]; exact decide_eq_false hs
        refine ⟨?_, by rw [hg]; exact hen, fun _ _ => rfl⟩
        unfold gdb
        rw [if_neg (by simp), hs2]
        simp [b2, h6]
      · have h6 : p < 6 := lt_of_nI (n := 6) c_4 (by omega)
        refine z_iload_n C (pc := 70) dX4_isGood_70 rfl ?_
        refine z_calli C (isC := []) rfl (by exact fun _ => rfl) (runS C (wc := []) (pc := 71) (rY' := rm 0 0) (nn := 1) (As := [.int (r 0 p)]) (rest := []) (m_kindBy l D cI tt (r 0 p)) rfl rfl ⟨rfl, rfl, ⟨Nat.le_of_ble_eq_true rfl, Nat.le_of_ble_eq_true rfl⟩, Nat.le_of_ble_eq_true rfl, Nat.le_of_ble_eq_true rfl⟩ wl_X4_57 ws_X4_kindBy wi_X4 wc_X4_kindBy (by decide +kernel) rfl rfl (Nat.le_of_ble_eq_true rfl) dX4_isGood_71) (fun r_5 u_5 h_5 => ?_)
        subst h_5
        refine z_ws (st' := [.int (kindOfv (r 0 p))]) (ws' := (mW cI b i r h)) rfl rfl ?_
        refine z_iconst C (pc := 74) (v := (-1)) dX4_isGood_74 (by decide) ?_
        refine z_icmp_eq C (pc := 75) (tgt := 82) dX4_isGood_75 (by decide) (fun c_6 => ?_) (fun c_6 => ?_)
        · refine z_iconst C (pc := 82) (v := 0) dX4_isGood_82 (by decide) ?_
          refine z_zret C (pc := 83) i dX4_isGood_83 rfl ?_ rfl
          subst he0
          have hg : gde (r 0) p 0 = 0 := by unfold gde; rw [if_neg (by simp), if_neg hs]
          have hs2 : (decide (r 0 p = 59) && decide (2 ≤ p)) = false := by
            rw [← Bool.decide_and]; exact decide_eq_false hs
          refine ⟨?_, by rw [hg]; exact hen, fun _ _ => rfl⟩
          unfold gdb
          rw [if_neg (by simp), hs2]
          simp [b2, h6, c_6]
        · refine z_iconst C (pc := 78) (v := 1) dX4_isGood_78 (by decide) ?_
          refine z_goto C (pc := 79) (tgt := 83) dX4_isGood_79 (by decide) ?_
          refine z_zret C (pc := 83) i dX4_isGood_83 rfl ?_ rfl
          subst he0
          have hg : gde (r 0) p 0 = 0 := by unfold gde; rw [if_neg (by simp), if_neg hs]
          have hs2 : (decide (r 0 p = 59) && decide (2 ≤ p)) = false := by
            rw [← Bool.decide_and]; exact decide_eq_false hs
          refine ⟨?_, by rw [hg]; exact hen, fun _ _ => rfl⟩
          unfold gdb
          rw [if_neg (by simp), hs2]
          simp [b2, h6, c_6]
    · refine z_iload_n C (pc := 52) dX4_isGood_52 rfl ?_
      refine z_iconst C (pc := 53) (v := 1) dX4_isGood_53 (by decide) ?_
      refine z_icmp_le C (pc := 54) (tgt := 64) dX4_isGood_54 (by decide) (fun c_7 => ?_) (fun c_7 => ?_)
      · have hs : ¬ (r 0 p = 59 ∧ 2 ≤ p) := fun e => nI_nlt (a := p) (b := 2) e.2 (by omega) (by have hz := c_7; revert hz; simp only [Int32.lt_iff_toInt_lt, Int32.le_iff_toInt_le, nI_toInt (n := p) (by omega), show (1 : Int32).toInt = 1 from rfl, show (nI 2).toInt = 2 from rfl]; omega)
        refine z_iload_n C (pc := 64) dX4_isGood_64 rfl ?_
        refine z_bipush C (pc := 65) (v := 6) dX4_isGood_65 (by decide) ?_
        refine z_icmp_ge C (pc := 67) (tgt := 82) dX4_isGood_67 (by decide) (fun c_8 => ?_) (fun c_8 => ?_)
        · have h6 : ¬ p < 6 := fun e => nI_ge (a := p) (b := 6) e (by decide) c_8
          refine z_iconst C (pc := 82) (v := 0) dX4_isGood_82 (by decide) ?_
          refine z_zret C (pc := 83) i dX4_isGood_83 rfl ?_ rfl
          subst he0
          have hg : gde (r 0) p 0 = 0 := by unfold gde; rw [if_neg (by simp), if_neg hs]
          have hs2 : (decide (r 0 p = 59) && decide (2 ≤ p)) = false := by
            rw [← Bool.decide_and]; exact decide_eq_false hs
          refine ⟨?_, by rw [hg]; exact hen, fun _ _ => rfl⟩
          unfold gdb
          rw [if_neg (by simp), hs2]
          simp [b2, h6]
        · have h6 : p < 6 := lt_of_nI (n := 6) c_8 (by omega)
          refine z_iload_n C (pc := 70) dX4_isGood_70 rfl ?_
          refine z_calli C (isC := []) rfl (by exact fun _ => rfl) (runS C (wc := []) (pc := 71) (rY' := rm 0 0) (nn := 1) (As := [.int (r 0 p)]) (rest := []) (m_kindBy l D cI tt (r 0 p)) rfl rfl ⟨rfl, rfl, ⟨Nat.le_of_ble_eq_true rfl, Nat.le_of_ble_eq_true rfl⟩, Nat.le_of_ble_eq_true rfl, Nat.le_of_ble_eq_true rfl⟩ wl_X4_57 ws_X4_kindBy wi_X4 wc_X4_kindBy (by decide +kernel) rfl rfl (Nat.le_of_ble_eq_true rfl) dX4_isGood_71) (fun r_9 u_9 h_9 => ?_)
          subst h_9
          refine z_ws (st' := [.int (kindOfv (r 0 p))]) (ws' := (mW cI b i r h)) rfl rfl ?_
          refine z_iconst C (pc := 74) (v := (-1)) dX4_isGood_74 (by decide) ?_
          refine z_icmp_eq C (pc := 75) (tgt := 82) dX4_isGood_75 (by decide) (fun c_10 => ?_) (fun c_10 => ?_)
          · refine z_iconst C (pc := 82) (v := 0) dX4_isGood_82 (by decide) ?_
            refine z_zret C (pc := 83) i dX4_isGood_83 rfl ?_ rfl
            subst he0
            have hg : gde (r 0) p 0 = 0 := by unfold gde; rw [if_neg (by simp), if_neg hs]
            have hs2 : (decide (r 0 p = 59) && decide (2 ≤ p)) = false := by
              rw [← Bool.decide_and]; exact decide_eq_false hs
            refine ⟨?_, by rw [hg]; exact hen, fun _ _ => rfl⟩
            unfold gdb
            rw [if_neg (by simp), hs2]
            simp [b2, h6, c_10]
          · refine z_iconst C (pc := 78) (v := 1) dX4_isGood_78 (by decide) ?_
            refine z_goto C (pc := 79) (tgt := 83) dX4_isGood_79 (by decide) ?_
            refine z_zret C (pc := 83) i dX4_isGood_83 rfl ?_ rfl
            subst he0
            have hg : gde (r 0) p 0 = 0 := by unfold gde; rw [if_neg (by simp), if_neg hs]
            have hs2 : (decide (r 0 p = 59) && decide (2 ≤ p)) = false := by
              rw [← Bool.decide_and]; exact decide_eq_false hs
            refine ⟨?_, by rw [hg]; exact hen, fun _ _ => rfl⟩
            unfold gdb
            rw [if_neg (by simp), hs2]
            simp [b2, h6, c_10]
      · have h2 : 2 ≤ p := by
          have hz := c_7
          revert hz
          simp only [Int32.le_iff_toInt_le, nI_toInt (n := p) (by omega), show (1 : Int32).toInt = 1 from rfl]
          omega
        refine z_aload_n C (pc := 57) dX4_isGood_57 rfl ?_
        refine z_iload_n C (pc := 58) dX4_isGood_58 rfl ?_
        refine z_put C (pc := 59) 0 rfl rfl wf_X4 2 (by decide) rfl tyX4 tyX4_ok nmX4 rfl rfl rfl (Nat.le_of_ble_eq_true rfl) (ws' := (mW cI b (upd i 2 (nI p)) r h)) rfl wl_X4_50 dX4_isGood_59 ?_
        refine z_iconst C (pc := 62) (v := 1) dX4_isGood_62 (by decide) ?_
        refine z_zret C (pc := 63) (upd i 2 (nI p)) dX4_isGood_63 rfl ?_ rfl
        subst he0
        refine ⟨by unfold gdb; simp [b2, h2, c_3], ?_, fun k hk => upd_n hk⟩
        rw [upd_s, show gde (r 0) p 0 = p + 1 by unfold gde; simp [h2, c_3]]
        exact (nI_pred p).symm
  · rw [hen] at c_2
    have he1 : en ≠ 0 := fun e => c_2 ((end_eq en (by omega)).mpr e)
    have hg : gde (r 0) p en = en := if_pos he1
    refine z_iload_n C (pc := 15) dX4_isGood_15 rfl ?_
    refine z_aload_n C (pc := 16) dX4_isGood_16 rfl ?_
    refine z_get C (pc := 17) 0 rfl rfl wf_X4 2 (by decide) rfl wl_X4_50 (v := .int (i 2)) rfl dX4_isGood_17 ?_
    refine z_bipush C (pc := 20) (v := 6) dX4_isGood_20 (by decide) ?_
    refine z_iadd C (pc := 22) dX4_isGood_22 ?_
    refine z_icmp_ge C (pc := 23) (tgt := 44) dX4_isGood_23 (by decide) (fun c_11 => ?_) (fun c_11 => ?_)
    · rw [hen, end_6 en (by omega)] at c_11
      have h5 : ¬ p < en + 5 := fun e => nI_ge e (by omega) c_11
      refine z_iconst C (pc := 44) (v := 0) dX4_isGood_44 (by decide) ?_
      refine z_zret C (pc := 45) i dX4_isGood_45 rfl ?_ rfl
      refine ⟨?_, by rw [hg]; exact hen, fun _ _ => rfl⟩
      unfold gdb; rw [if_pos he1]; simp [b2, h5]
    · rw [hen, end_6 en (by omega)] at c_11
      have h5 : p < en + 5 := lt_of_nI c_11 (by omega)
      refine z_iload_n C (pc := 26) dX4_isGood_26 rfl ?_
      refine z_i2l C (pc := 27) dX4_isGood_27 ?_
      refine z_ldc2 C (pc := 28) (v := 48) wl_X4_53 dX4_isGood_28 ?_
      refine z_ldc2 C (pc := 31) (v := 57) wl_X4_55 dX4_isGood_31 ?_
      refine z_calli C (isC := []) rfl (by exact fun _ => rfl) (runS C (wc := []) (pc := 34) (rY' := rm 0 0) (nn := 3) (As := [.long ((r 0 p).toInt64), .long 48, .long 57]) (rest := []) (m_in l D cI tt ((r 0 p).toInt64) 48 57) rfl rfl ⟨rfl, rfl, ⟨Nat.le_of_ble_eq_true rfl, Nat.le_of_ble_eq_true rfl⟩, Nat.le_of_ble_eq_true rfl, Nat.le_of_ble_eq_true rfl⟩ wl_X4_43 ws_X4_in wi_X4 wc_X4_in (by decide +kernel) rfl rfl (Nat.le_of_ble_eq_true rfl) dX4_isGood_34) (fun r_12 u_12 h_12 => ?_)
      subst h_12
      refine z_ws (st' := [.int (b2 (inb ((r 0 p).toInt64) 48 57))]) (ws' := (mW cI b i r h)) rfl rfl ?_
      refine z_if_eq C (pc := 37) (tgt := 44) dX4_isGood_37 (by decide) (fun c_13 => ?_) (fun c_13 => ?_)
      · have hd := b2_f c_13
        rw [inb_dig] at hd
        refine z_iconst C (pc := 44) (v := 0) dX4_isGood_44 (by decide) ?_
        refine z_zret C (pc := 45) i dX4_isGood_45 rfl ?_ rfl
        refine ⟨?_, by rw [hg]; exact hen, fun _ _ => rfl⟩
        unfold gdb; rw [if_pos he1, hd]; simp [b2, h5]
      · have hd := b2_t c_13
        rw [inb_dig] at hd
        refine z_iconst C (pc := 40) (v := 1) dX4_isGood_40 (by decide) ?_
        refine z_goto C (pc := 41) (tgt := 45) dX4_isGood_41 (by decide) ?_
        refine z_zret C (pc := 45) i dX4_isGood_45 rfl ?_ rfl
        refine ⟨?_, by rw [hg]; exact hen, fun _ _ => rfl⟩
        unfold gdb; rw [if_pos he1, hd]; simp [b2, h5]

set_option maxHeartbeats 4000000 in
set_option maxRecDepth 100000 in
theorem m_faultOf (l : Launch) (D : va_G) (cI : ClassId) (tt : Nat × Nat × Nat) (b : Nat → Nat) (i : Nat → Int32) (r : Nat → Nat → Int32) (h : Int64) (L : Nat) (hl : i 1 = nI L) (hL : L ≤ 15) : MetI (S := (Nat → Int32)) l yX4_faultOf cX4_faultOf 2 (some .int) (rm 2 47) D cI tt [.ref (b 0)] (mW cI b i r h) (fun q i' => q = nI (scv (r 0) L 0 0).1 ∧ i' 2 = nI (scv (r 0) L 0 0).2 - 1 ∧ E2 i i') (fun i' => mW cI b i' r h) := by
  refine met_ofI (by decide) (Nat.le_of_ble_eq_true rfl) ?_
  intro pP eE sS mM aV bB mE cC AA C hin
  refine z_conv (lv' := [(0, .ref (b 0))]) ⟨rfl, trivial⟩ rfl rfl ?_
  refine z_aload_n C (pc := 0) dX4_faultOf_0 rfl ?_
  refine z_iconst C (pc := 1) (v := (-1)) dX4_faultOf_1 (by decide) ?_
  refine z_put C (pc := 2) 0 rfl rfl wf_X4 2 (by decide) rfl tyX4 tyX4_ok nmX4 rfl rfl rfl (Nat.le_of_ble_eq_true rfl) (ws' := (mW cI b (upd i 2 (-1)) r h)) rfl wl_X4_50 dX4_faultOf_2 ?_
  refine z_iconst C (pc := 5) (v := 0) dX4_faultOf_5 (by decide) ?_
  refine z_istore_n C (pc := 6) (lv' := [(0, .ref (b 0)), (1, .int 0)]) dX4_faultOf_6 (Nat.le_of_ble_eq_true rfl) rfl rfl ?_
  have key7 : ∀ (fu7 : Nat) (p en : Nat) (i' : Nat → Int32), L - p < fu7 → (p ≤ L) → (SI (r 0) p en) → (scv (r 0) (L - p) p en = scv (r 0) L 0 0) → (i' 2 = nI en - 1) → (E2 i i') → Z pP l eE (rm 2 47) sS mM aV bB mE cC D AA 2 0 0 (MQ bB (va_Qi (S := (Nat → Int32)) (fun q i' => q = nI (scv (r 0) L 0 0).1 ∧ i' 2 = nI (scv (r 0) L 0 0).2 - 1 ∧ E2 i i') (fun u t => va_P D vwCl ((fun i' => mW cI b i' r h) u) t.heap) AA) aV sS 0 0 AA) 7 [(0, .ref (b 0)), (1, .int (nI p))] [] (mW cI b i' r h) := by
    intro fu7
    induction fu7 with
    | zero => intro p en i' hfu7; exact absurd hfu7 (Nat.not_lt_zero _)
    | succ fu7 ih7 =>
      intro p en i' hfu7 hpl hsi heq hen hi
      refine z_iload_n C (pc := 7) dX4_faultOf_7 rfl ?_
      refine z_aload_n C (pc := 8) dX4_faultOf_8 rfl ?_
      refine z_get C (pc := 9) 0 rfl rfl wf_X4 1 (by decide) rfl wl_X4_47 (v := .int (i' 1)) rfl dX4_faultOf_9 ?_
      refine z_icmp_ge C (pc := 12) (tgt := 29) dX4_faultOf_12 (by decide) (fun c_1 => ?_) (fun c_1 => ?_)
      · rw [(hi 1 (by decide)).trans hl] at c_1
        have hpe : p = L := by
          have := ge_of_nI c_1 (by omega)
          omega
        refine z_iload_n C (pc := 29) dX4_faultOf_29 rfl ?_
        refine z_iret C (pc := 30) i' dX4_faultOf_30 ?_ rfl
        have hz : scv (r 0) L 0 0 = (p, en) := by rw [← heq, hpe, Nat.sub_self]; rfl
        rw [hz]
        exact ⟨rfl, hen, hi⟩
      · rw [(hi 1 (by decide)).trans hl] at c_1
        have hp : p < L := lt_of_nI c_1 (by omega)
        have hsc : scv (r 0) ((L - (p + 1)) + 1) p en = scv (r 0) L 0 0 := by rw [← heq, show L - p = (L - (p + 1)) + 1 by omega]
        refine z_aload_n C (pc := 15) dX4_faultOf_15 rfl ?_
        refine z_iload_n C (pc := 16) dX4_faultOf_16 rfl ?_
        refine z_calliF C (by exact fun _ => mW_ad) (runV C (wc := (mW cI b i' r h)) (pc := 17) (rY' := rm 1 25) (nn := 1) (As := [.int (nI p)]) (rest := []) (m_isGood l D cI tt b i' r h p en (by omega) hsi.2.2.2.1 hen) (full_hC _) (full_nd _) ⟨rfl, rfl, ⟨Nat.le_of_ble_eq_true rfl, Nat.le_of_ble_eq_true rfl⟩, Nat.le_of_ble_eq_true rfl, Nat.le_of_ble_eq_true rfl⟩ wl_X4_61 wm_X4_isGood we_X4_isGood wi_X4 wc_X4_isGood (by decide +kernel) rfl 0 rfl rfl rfl rfl (Nat.le_of_ble_eq_true rfl) dX4_faultOf_17) (fun q_2 u_2 h_2 => ?_)
        generalize u_2 = i2 at h_2 ⊢
        obtain ⟨k0, k1, k2⟩ := h_2
        subst k0
        refine z_ws (st' := [.int (b2 (gdb (r 0) p en))]) (ws' := (mW cI b i2 r h)) rfl rfl ?_
        refine z_if_eq C (pc := 20) (tgt := 29) dX4_faultOf_20 (by decide) (fun c_3 => ?_) (fun c_3 => ?_)
        · have hgo := b2_f c_3
          refine z_iload_n C (pc := 29) dX4_faultOf_29 rfl ?_
          refine z_iret C (pc := 30) i2 dX4_faultOf_30 ?_ rfl
          have hz : scv (r 0) L 0 0 = (p, en) := by rw [← hsc, scv_f hgo]
          have hg : gde (r 0) p en = en := by
            unfold gde
            by_cases e : en ≠ 0
            · rw [if_pos e]
            · rw [if_neg e]
              have e0 : en = 0 := Classical.not_not.mp e
              rw [if_neg]
              · exact e0.symm
              · rintro ⟨w1, w2⟩
                unfold gdb at hgo
                rw [if_neg e] at hgo
                simp [w1, w2] at hgo
          rw [hz]
          rw [hg] at k1
          exact ⟨rfl, k1, fun k hk => (k2 k hk).trans (hi k hk)⟩
        · have hgo := b2_t c_3
          refine z_iinc C (pc := 23) (v := ((nI p) + 1)) (lv' := [(0, .ref (b 0)), (1, .int ((nI p) + 1))]) dX4_faultOf_23 rfl rfl (Nat.le_of_ble_eq_true rfl) rfl rfl ?_
          refine z_goto C (pc := 26) (tgt := 7) dX4_faultOf_26 (by decide) ?_
          refine z_lv (lv' := [(0, .ref (b 0)), (1, .int (nI (p + 1)))]) ⟨rfl, lki (nI_1 p), trivial⟩ ?_
          exact ih7 (p + 1) (gde (r 0) p en) i2 (by omega) hp (SI_s hsi hgo) (by rw [scv_t hgo] at hsc; exact hsc) k1 (fun k hk => (k2 k hk).trans (hi k hk))
  refine z_lv (lv' := [(0, .ref (b 0)), (1, .int (nI 0))]) ⟨rfl, rfl, trivial⟩ ?_
  exact key7 (_ + 1) 0 0 (upd i 2 (-1)) (Nat.lt_succ_self _) (Nat.zero_le _) SI_0 rfl (by rw [upd_s]; decide) (fun k hk => upd_n hk)
