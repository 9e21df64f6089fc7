/-! the reference: its searches -/
theorem neg_41 : ∀ m, m < 42 → (nI m - 1 < 0 ↔ m = 0) := by decide +kernel
theorem ndv_s {Q : Nat → Bool} {m : Nat} (hm : m + 1 ≤ 41) : ndv Q (41 - m) m = if Q m = true then nI m else ndv Q (41 - (m + 1)) (m + 1) := by
  rw [show 41 - m = (41 - (m + 1)) + 1 by omega]
  rfl
theorem shl_2 : ∀ n, n ≤ 6 → 1 <<< (nI n &&& 31) = nI (2 ^ n) := by decide +kernel
theorem pcn_6 : ∀ x, x < 64 → pcn x ≤ 6 := by decide +kernel
theorem tmv_2 (ok : Nat → Bool) : ∀ s, (tmv ok s).2 = if (tmv ok s).1 = 0 then 7 else pcn (tmv ok s).1
  | 0 => rfl
  | s + 1 => by
    by_cases e : ok (s + 1) = true ∧ pcn (s + 1) < (tmv ok s).2
    · rw [tmv_s e]; exact (if_neg (Nat.succ_ne_zero s)).symm
    · rw [tmv_n e]; exact tmv_2 ok s
theorem none_ne {b : Nat} (hb : b < 2 ^ 31) : noneI b = -1 ↔ b = 0 := by
  unfold noneI
  by_cases e : b = 0
  · rw [if_pos e]; simp [e]
  · rw [if_neg e]
    refine ⟨fun h => ?_, fun h => absurd h e⟩
    have h2 := congrArg Int32.toInt h
    rw [nI_toInt hb] at h2
    have : (-1 : Int32).toInt = -1 := rfl
    omega
set_option maxHeartbeats 4000000 in
set_option maxRecDepth 100000 in
theorem m_needOfF (l : Launch) (D : va_G) (cI : ClassId) (tt : Nat × Nat × Nat) (b : Nat → Nat) (i : Nat → Int32) (r : Nat → Nat → Int32) (h : Int64) (kd : Nat → Nat) (n : Nat) (hv : PVm i r kd n) (x st : Nat) (hx : x < 2 ^ n) (hst : st ≤ 6) (hst1 : 1 ≤ st) (c : Nat → Nat) (hc : ∀ k, k < 5 → r 2 (k + 1) = nI (c k) ∧ c k ≤ 9) : MetI (S := ((Nat → Int32) × (Nat → Nat → Int32))) l yX4_needOf cX4_needOf 6 (some .int) (rm 7 162) D cI tt [.ref (b 0), .int (nI x), .int (nI st), .ref (b 3)] (mW cI b i r h) (fun q u => q = needv kd n x st c ∧ SPm i u.1 ∧ SRm r u.2) (fun u => mW cI b u.1 u.2 h) := by
  have hn6 := hv.2.1
  have hx6 := pow_le6 hn6
  refine met_ofI (by decide) (Nat.le_of_ble_eq_true rfl) ?_
  intro pP eE sS mM aV bB mE cC AA C hin
  refine z_conv (lv' := [(0, .ref (b 0)), (1, .int (nI x)), (2, .int (nI st)), (3, .ref (b 3))]) ⟨rfl, rfl, rfl, rfl, trivial⟩ rfl rfl ?_
  refine z_iconst C (pc := 0) (v := (-1)) dX4_needOf_0 (by decide) ?_
  refine z_istore C (pc := 1) (lv' := [(0, .ref (b 0)), (1, .int (nI x)), (2, .int (nI st)), (3, .ref (b 3)), (4, .int (-1))]) dX4_needOf_1 (Nat.le_of_ble_eq_true rfl) rfl rfl ?_
  refine z_bipush C (pc := 3) (v := 40) dX4_needOf_3 (by decide) ?_
  refine z_istore C (pc := 5) (lv' := [(0, .ref (b 0)), (1, .int (nI x)), (2, .int (nI st)), (3, .ref (b 3)), (4, .int (-1)), (5, .int 40)]) dX4_needOf_5 (Nat.le_of_ble_eq_true rfl) rfl rfl ?_
  have key7 : ∀ (fu7 : Nat) (m : Nat) (i' : Nat → Int32) (r' : Nat → Nat → Int32), m < fu7 → (m ≤ 41) → (SPm i i') → (SRm r r') → Z pP l eE (rm 7 162) sS mM aV bB mE cC D AA 6 0 0 (MQ bB (va_Qi (S := ((Nat → Int32) × (Nat → Nat → Int32))) (fun q u => q = needv kd n x st c ∧ SPm i u.1 ∧ SRm r u.2) (fun u t => va_P D vwCl ((fun u => mW cI b u.1 u.2 h) u) t.heap) AA) aV sS 0 0 AA) 7 [(0, .ref (b 0)), (1, .int (nI x)), (2, .int (nI st)), (3, .ref (b 3)), (4, .int (ndv (homeb kd n x st c) (41 - m) m)), (5, .int (nI m - 1))] [] (mW cI b i' r' h) := by
    intro fu7
    induction fu7 with
    | zero => intro m i' r' hfu7; exact absurd hfu7 (Nat.not_lt_zero _)
    | succ fu7 ih7 =>
      intro m i' r' hfu7 hm hsp hsr
      refine z_iload C (pc := 7) dX4_needOf_7 rfl ?_
      refine z_if_lt C (pc := 9) (tgt := 39) dX4_needOf_9 (by decide) (fun c_1 => ?_) (fun c_1 => ?_)
      · refine z_iload C (pc := 39) dX4_needOf_39 rfl ?_
        refine z_iret C (pc := 41) (i', r') dX4_needOf_41 ?_ rfl
        have hm0 := (neg_41 m (by omega)).mp c_1
        subst hm0
        exact ⟨rfl, hsp, hsr⟩
      · obtain ⟨k, rfl⟩ : ∃ k, m = k + 1 := ⟨m - 1, by have hm0 : m ≠ 0 := (fun e => c_1 ((neg_41 m (by omega)).mpr e)); omega⟩
        refine z_lv (lv' := [(0, .ref (b 0)), (1, .int (nI x)), (2, .int (nI st)), (3, .ref (b 3)), (4, .int (ndv (homeb kd n x st c) (41 - (k + 1)) (k + 1))), (5, .int (nI k))]) ⟨rfl, rfl, rfl, rfl, rfl, lki (nI_pred k), trivial⟩ ?_
        have hc2 : ∀ k, k < 5 → r' 2 (k + 1) = nI (c k) ∧ c k ≤ 9 := fun k hk => ⟨(congrFun (hsr 2 (by decide)) (k + 1)).trans (hc k hk).1, (hc k hk).2⟩
        have hv' := hv.sp hsp hsr
        refine z_aload_n C (pc := 12) dX4_needOf_12 rfl ?_
        refine z_iload_n C (pc := 13) dX4_needOf_13 rfl ?_
        refine z_iload_n C (pc := 14) dX4_needOf_14 rfl ?_
        refine z_iload C (pc := 15) dX4_needOf_15 rfl ?_
        refine z_aload_n C (pc := 17) dX4_needOf_17 rfl ?_
        refine z_calliF C (by exact fun _ => mW_ad) (runV C (wc := (mW cI b i' r' h)) (pc := 18) (rY' := rm 6 138) (nn := 4) (As := [.int (nI x), .int (nI st), .int (nI k), .ref (b 3)]) (rest := []) (m_comesHomeF l D cI tt b i' r' h kd n hv' x st k hx hst (by omega) c hc2 hst1) (full_hC _) (full_nd _) ⟨rfl, rfl, ⟨Nat.le_of_ble_eq_true rfl, Nat.le_of_ble_eq_true rfl⟩, Nat.le_of_ble_eq_true rfl, Nat.le_of_ble_eq_true rfl⟩ wl_X4_184 wm_X4_comesHome we_X4_comesHome wi_X4 wc_X4_comesHome (by decide +kernel) rfl 0 rfl rfl rfl rfl (Nat.le_of_ble_eq_true rfl) dX4_needOf_18) (fun q_2 u_2 h_2 => ?_)
        obtain ⟨i2, r2⟩ := u_2
        try dsimp only at h_2
        obtain ⟨k0, k1, k2⟩ := h_2
        subst k0
        refine z_ws (st' := [.int (b2 ((homeb kd n x st c) k))]) (ws' := (mW cI b i2 r2 h)) rfl rfl ?_
        refine z_if_eq C (pc := 21) (tgt := 29) dX4_needOf_21 (by decide) (fun c_3 => ?_) (fun c_3 => ?_)
        · have hP := b2_f c_3
          refine z_iload C (pc := 29) dX4_needOf_29 rfl ?_
          refine z_istore C (pc := 31) (lv' := [(0, .ref (b 0)), (1, .int (nI x)), (2, .int (nI st)), (3, .ref (b 3)), (4, .int (ndv (homeb kd n x st c) (41 - (k + 1)) (k + 1))), (5, .int (nI k))]) dX4_needOf_31 (Nat.le_of_ble_eq_true rfl) rfl rfl ?_
          refine z_iinc C (pc := 33) (v := ((nI k) + (-1))) (lv' := [(0, .ref (b 0)), (1, .int (nI x)), (2, .int (nI st)), (3, .ref (b 3)), (4, .int (ndv (homeb kd n x st c) (41 - (k + 1)) (k + 1))), (5, .int ((nI k) + (-1)))]) dX4_needOf_33 rfl rfl (Nat.le_of_ble_eq_true rfl) rfl rfl ?_
          refine z_goto C (pc := 36) (tgt := 7) dX4_needOf_36 (by decide) ?_
          refine z_lv (lv' := [(0, .ref (b 0)), (1, .int (nI x)), (2, .int (nI st)), (3, .ref (b 3)), (4, .int (ndv (homeb kd n x st c) (41 - k) k)), (5, .int (nI k - 1))]) ⟨rfl, rfl, rfl, rfl, lki (by rw [ndv_s hm, if_neg (by rw [hP]; decide)]), lki (add_m1 _), trivial⟩ ?_
          exact ih7 k i2 r2 (by omega) (by omega) (hsp.tr k1) (hsr.tr k2)
        · have hP := b2_t c_3
          refine z_iload C (pc := 24) dX4_needOf_24 rfl ?_
          refine z_goto C (pc := 26) (tgt := 31) dX4_needOf_26 (by decide) ?_
          refine z_istore C (pc := 31) (lv' := [(0, .ref (b 0)), (1, .int (nI x)), (2, .int (nI st)), (3, .ref (b 3)), (4, .int (nI k)), (5, .int (nI k))]) dX4_needOf_31 (Nat.le_of_ble_eq_true rfl) rfl rfl ?_
          refine z_iinc C (pc := 33) (v := ((nI k) + (-1))) (lv' := [(0, .ref (b 0)), (1, .int (nI x)), (2, .int (nI st)), (3, .ref (b 3)), (4, .int (nI k)), (5, .int ((nI k) + (-1)))]) dX4_needOf_33 rfl rfl (Nat.le_of_ble_eq_true rfl) rfl rfl ?_
          refine z_goto C (pc := 36) (tgt := 7) dX4_needOf_36 (by decide) ?_
          refine z_lv (lv' := [(0, .ref (b 0)), (1, .int (nI x)), (2, .int (nI st)), (3, .ref (b 3)), (4, .int (ndv (homeb kd n x st c) (41 - k) k)), (5, .int (nI k - 1))]) ⟨rfl, rfl, rfl, rfl, lki (by rw [ndv_s hm, if_pos hP]), lki (add_m1 _), trivial⟩ ?_
          exact ih7 k i2 r2 (by omega) (by omega) (hsp.tr k1) (hsr.tr k2)
  refine z_lv (lv' := [(0, .ref (b 0)), (1, .int (nI x)), (2, .int (nI st)), (3, .ref (b 3)), (4, .int (ndv (homeb kd n x st c) (41 - 41) 41)), (5, .int (nI 41 - 1))]) ⟨rfl, rfl, rfl, rfl, rfl, lki (by decide), trivial⟩ ?_
  exact key7 (_ + 1) 41 i r (Nat.lt_succ_self _) (Nat.le_refl _) SPm.rf SRm.rf

set_option maxHeartbeats 4000000 in
set_option maxRecDepth 100000 in
theorem m_needOfT (l : Launch) (D : va_G) (cI : ClassId) (tt : Nat × Nat × Nat) (b : Nat → Nat) (i : Nat → Int32) (r : Nat → Nat → Int32) (h : Int64) (kd : Nat → Nat) (n : Nat) (hv : PVm i r kd n) (x st : Nat) (hx : x < 2 ^ n) (hst : st ≤ 6) (hst1 : 1 ≤ st) (c : Nat → Nat) (hc : ∀ k, k < 5 → r 6 (k + 1) = nI (c k) ∧ c k ≤ 9) : MetI (S := ((Nat → Int32) × (Nat → Nat → Int32))) l yX4_needOf cX4_needOf 6 (some .int) (rm 7 162) D cI tt [.ref (b 0), .int (nI x), .int (nI st), .ref (b 7)] (mW cI b i r h) (fun q u => q = needv kd n x st c ∧ SPm i u.1 ∧ SRm r u.2) (fun u => mW cI b u.1 u.2 h) := by
  have hn6 := hv.2.1
  have hx6 := pow_le6 hn6
  refine met_ofI (by decide) (Nat.le_of_ble_eq_true rfl) ?_
  intro pP eE sS mM aV bB mE cC AA C hin
  refine z_conv (lv' := [(0, .ref (b 0)), (1, .int (nI x)), (2, .int (nI st)), (3, .ref (b 7))]) ⟨rfl, rfl, rfl, rfl, trivial⟩ rfl rfl ?_
  refine z_iconst C (pc := 0) (v := (-1)) dX4_needOf_0 (by decide) ?_
  refine z_istore C (pc := 1) (lv' := [(0, .ref (b 0)), (1, .int (nI x)), (2, .int (nI st)), (3, .ref (b 7)), (4, .int (-1))]) dX4_needOf_1 (Nat.le_of_ble_eq_true rfl) rfl rfl ?_
  refine z_bipush C (pc := 3) (v := 40) dX4_needOf_3 (by decide) ?_
  refine z_istore C (pc := 5) (lv' := [(0, .ref (b 0)), (1, .int (nI x)), (2, .int (nI st)), (3, .ref (b 7)), (4, .int (-1)), (5, .int 40)]) dX4_needOf_5 (Nat.le_of_ble_eq_true rfl) rfl rfl ?_
  have key7 : ∀ (fu7 : Nat) (m : Nat) (i' : Nat → Int32) (r' : Nat → Nat → Int32), m < fu7 → (m ≤ 41) → (SPm i i') → (SRm r r') → Z pP l eE (rm 7 162) sS mM aV bB mE cC D AA 6 0 0 (MQ bB (va_Qi (S := ((Nat → Int32) × (Nat → Nat → Int32))) (fun q u => q = needv kd n x st c ∧ SPm i u.1 ∧ SRm r u.2) (fun u t => va_P D vwCl ((fun u => mW cI b u.1 u.2 h) u) t.heap) AA) aV sS 0 0 AA) 7 [(0, .ref (b 0)), (1, .int (nI x)), (2, .int (nI st)), (3, .ref (b 7)), (4, .int (ndv (homeb kd n x st c) (41 - m) m)), (5, .int (nI m - 1))] [] (mW cI b i' r' h) := by
    intro fu7
    induction fu7 with
    | zero => intro m i' r' hfu7; exact absurd hfu7 (Nat.not_lt_zero _)
    | succ fu7 ih7 =>
      intro m i' r' hfu7 hm hsp hsr
      refine z_iload C (pc := 7) dX4_needOf_7 rfl ?_
      refine z_if_lt C (pc := 9) (tgt := 39) dX4_needOf_9 (by decide) (fun c_1 => ?_) (fun c_1 => ?_)
      · refine z_iload C (pc := 39) dX4_needOf_39 rfl ?_
        refine z_iret C (pc := 41) (i', r') dX4_needOf_41 ?_ rfl
        have hm0 := (neg_41 m (by omega)).mp c_1
        subst hm0
        exact ⟨rfl, hsp, hsr⟩
      · obtain ⟨k, rfl⟩ : ∃ k, m = k + 1 := ⟨m - 1, by have hm0 : m ≠ 0 := (fun e => c_1 ((neg_41 m (by omega)).mpr e)); omega⟩
        refine z_lv (lv' := [(0, .ref (b 0)), (1, .int (nI x)), (2, .int (nI st)), (3, .ref (b 7)), (4, .int (ndv (homeb kd n x st c) (41 - (k + 1)) (k + 1))), (5, .int (nI k))]) ⟨rfl, rfl, rfl, rfl, rfl, lki (nI_pred k), trivial⟩ ?_
        have hc2 : ∀ k, k < 5 → r' 6 (k + 1) = nI (c k) ∧ c k ≤ 9 := fun k hk => ⟨(congrFun (hsr 6 (by decide)) (k + 1)).trans (hc k hk).1, (hc k hk).2⟩
        have hv' := hv.sp hsp hsr
        refine z_aload_n C (pc := 12) dX4_needOf_12 rfl ?_
        refine z_iload_n C (pc := 13) dX4_needOf_13 rfl ?_
        refine z_iload_n C (pc := 14) dX4_needOf_14 rfl ?_
        refine z_iload C (pc := 15) dX4_needOf_15 rfl ?_
        refine z_aload_n C (pc := 17) dX4_needOf_17 rfl ?_
        refine z_calliF C (by exact fun _ => mW_ad) (runV C (wc := (mW cI b i' r' h)) (pc := 18) (rY' := rm 6 138) (nn := 4) (As := [.int (nI x), .int (nI st), .int (nI k), .ref (b 7)]) (rest := []) (m_comesHomeT l D cI tt b i' r' h kd n hv' x st k hx hst (by omega) c hc2 hst1) (full_hC _) (full_nd _) ⟨rfl, rfl, ⟨Nat.le_of_ble_eq_true rfl, Nat.le_of_ble_eq_true rfl⟩, Nat.le_of_ble_eq_true rfl, Nat.le_of_ble_eq_true rfl⟩ wl_X4_184 wm_X4_comesHome we_X4_comesHome wi_X4 wc_X4_comesHome (by decide +kernel) rfl 0 rfl rfl rfl rfl (Nat.le_of_ble_eq_true rfl) dX4_needOf_18) (fun q_2 u_2 h_2 => ?_)
        obtain ⟨i2, r2⟩ := u_2
        try dsimp only at h_2
        obtain ⟨k0, k1, k2⟩ := h_2
        subst k0
        refine z_ws (st' := [.int (b2 ((homeb kd n x st c) k))]) (ws' := (mW cI b i2 r2 h)) rfl rfl ?_
        refine z_if_eq C (pc := 21) (tgt := 29) dX4_needOf_21 (by decide) (fun c_3 => ?_) (fun c_3 => ?_)
        · have hP := b2_f c_3
          refine z_iload C (pc := 29) dX4_needOf_29 rfl ?_
          refine z_istore C (pc := 31) (lv' := [(0, .ref (b 0)), (1, .int (nI x)), (2, .int (nI st)), (3, .ref (b 7)), (4, .int (ndv (homeb kd n x st c) (41 - (k + 1)) (k + 1))), (5, .int (nI k))]) dX4_needOf_31 (Nat.le_of_ble_eq_true rfl) rfl rfl ?_
          refine z_iinc C (pc := 33) (v := ((nI k) + (-1))) (lv' := [(0, .ref (b 0)), (1, .int (nI x)), (2, .int (nI st)), (3, .ref (b 7)), (4, .int (ndv (homeb kd n x st c) (41 - (k + 1)) (k + 1))), (5, .int ((nI k) + (-1)))]) dX4_needOf_33 rfl rfl (Nat.le_of_ble_eq_true rfl) rfl rfl ?_
          refine z_goto C (pc := 36) (tgt := 7) dX4_needOf_36 (by decide) ?_
          refine z_lv (lv' := [(0, .ref (b 0)), (1, .int (nI x)), (2, .int (nI st)), (3, .ref (b 7)), (4, .int (ndv (homeb kd n x st c) (41 - k) k)), (5, .int (nI k - 1))]) ⟨rfl, rfl, rfl, rfl, lki (by rw [ndv_s hm, if_neg (by rw [hP]; decide)]), lki (add_m1 _), trivial⟩ ?_
          exact ih7 k i2 r2 (by omega) (by omega) (hsp.tr k1) (hsr.tr k2)
        · have hP := b2_t c_3
          refine z_iload C (pc := 24) dX4_needOf_24 rfl ?_
          refine z_goto C (pc := 26) (tgt := 31) dX4_needOf_26 (by decide) ?_
          refine z_istore C (pc := 31) (lv' := [(0, .ref (b 0)), (1, .int (nI x)), (2, .int (nI st)), (3, .ref (b 7)), (4, .int (nI k)), (5, .int (nI k))]) dX4_needOf_31 (Nat.le_of_ble_eq_true rfl) rfl rfl ?_
          refine z_iinc C (pc := 33) (v := ((nI k) + (-1))) (lv' := [(0, .ref (b 0)), (1, .int (nI x)), (2, .int (nI st)), (3, .ref (b 7)), (4, .int (nI k)), (5, .int ((nI k) + (-1)))]) dX4_needOf_33 rfl rfl (Nat.le_of_ble_eq_true rfl) rfl rfl ?_
          refine z_goto C (pc := 36) (tgt := 7) dX4_needOf_36 (by decide) ?_
          refine z_lv (lv' := [(0, .ref (b 0)), (1, .int (nI x)), (2, .int (nI st)), (3, .ref (b 7)), (4, .int (ndv (homeb kd n x st c) (41 - k) k)), (5, .int (nI k - 1))]) ⟨rfl, rfl, rfl, rfl, lki (by rw [ndv_s hm, if_pos hP]), lki (add_m1 _), trivial⟩ ?_
          exact ih7 k i2 r2 (by omega) (by omega) (hsp.tr k1) (hsr.tr k2)
  refine z_lv (lv' := [(0, .ref (b 0)), (1, .int (nI x)), (2, .int (nI st)), (3, .ref (b 7)), (4, .int (ndv (homeb kd n x st c) (41 - 41) 41)), (5, .int (nI 41 - 1))]) ⟨rfl, rfl, rfl, rfl, rfl, lki (by decide), trivial⟩ ?_
  exact key7 (_ + 1) 41 i r (Nat.lt_succ_self _) (Nat.le_refl _) SPm.rf SRm.rf

set_option maxHeartbeats 4000000 in
set_option maxRecDepth 100000 in
theorem m_farOfF (l : Launch) (D : va_G) (cI : ClassId) (tt : Nat × Nat × Nat) (b : Nat → Nat) (i : Nat → Int32) (r : Nat → Nat → Int32) (h : Int64) (kd : Nat → Nat) (n : Nat) (hv : PVm i r kd n) (x : Nat) (hx : x < 2 ^ n) (hx0 : x ≠ 0) (c : Nat → Nat) (hc : ∀ k, k < 5 → r 2 (k + 1) = nI (c k) ∧ c k ≤ 9) : MetI (S := ((Nat → Int32) × (Nat → Nat → Int32))) l yX4_farOf cX4_farOf 5 (some .int) (rm 8 187) D cI tt [.ref (b 0), .int (nI x), .ref (b 3)] (mW cI b i r h) (fun q u => q = nI (farv kd n x c) ∧ SPm i u.1 ∧ SRm r u.2) (fun u => mW cI b u.1 u.2 h) := by
  have hn6 := hv.2.1
  have hx6 := pow_le6 hn6
  refine met_ofI (by decide) (Nat.le_of_ble_eq_true rfl) ?_
  intro pP eE sS mM aV bB mE cC AA C hin
  refine z_conv (lv' := [(0, .ref (b 0)), (1, .int (nI x)), (2, .ref (b 3))]) ⟨rfl, rfl, rfl, trivial⟩ rfl rfl ?_
  refine z_iconst C (pc := 0) (v := 0) dX4_farOf_0 (by decide) ?_
  refine z_istore_n C (pc := 1) (lv' := [(0, .ref (b 0)), (1, .int (nI x)), (2, .ref (b 3)), (3, .int 0)]) dX4_farOf_1 (Nat.le_of_ble_eq_true rfl) rfl rfl ?_
  refine z_iconst C (pc := 2) (v := 1) dX4_farOf_2 (by decide) ?_
  refine z_istore C (pc := 3) (lv' := [(0, .ref (b 0)), (1, .int (nI x)), (2, .ref (b 3)), (3, .int 0), (4, .int 1)]) dX4_farOf_3 (Nat.le_of_ble_eq_true rfl) rfl rfl ?_
  have key5 : ∀ (fu5 : Nat) (s : Nat) (i' : Nat → Int32) (r' : Nat → Nat → Int32), 6 - s < fu5 → (s ≤ 6) → (SPm i i') → (SRm r r') → Z pP l eE (rm 8 187) sS mM aV bB mE cC D AA 5 0 0 (MQ bB (va_Qi (S := ((Nat → Int32) × (Nat → Nat → Int32))) (fun q u => q = nI (farv kd n x c) ∧ SPm i u.1 ∧ SRm r u.2) (fun u t => va_P D vwCl ((fun u => mW cI b u.1 u.2 h) u) t.heap) AA) aV sS 0 0 AA) 5 [(0, .ref (b 0)), (1, .int (nI x)), (2, .ref (b 3)), (3, .int (nI (frv (farb kd n x c) s))), (4, .int (nI (s + 1)))] [] (mW cI b i' r' h) := by
    intro fu5
    induction fu5 with
    | zero => intro s i' r' hfu5; exact absurd hfu5 (Nat.not_lt_zero _)
    | succ fu5 ih5 =>
      intro s i' r' hfu5 hs6 hsp hsr
      refine z_iload C (pc := 5) dX4_farOf_5 rfl ?_
      refine z_bipush C (pc := 7) (v := 7) dX4_farOf_7 (by decide) ?_
      refine z_icmp_ge C (pc := 9) (tgt := 37) dX4_farOf_9 (by decide) (fun c_1 => ?_) (fun c_1 => ?_)
      · refine z_iload_n C (pc := 37) dX4_farOf_37 rfl ?_
        refine z_iret C (pc := 38) (i', r') dX4_farOf_38 ?_ rfl
        have hse : s = 6 := by
          have := ge_of_nI (n := 7) (j := s + 1) c_1 (by decide)
          omega
        subst hse
        exact ⟨rfl, hsp, hsr⟩
      · have hs : s + 1 ≤ 6 := by
          have := lt_of_nI (n := 7) (j := s + 1) c_1 (by omega)
          omega
        have hc2 : ∀ k, k < 5 → r' 2 (k + 1) = nI (c k) ∧ c k ≤ 9 := fun k hk => ⟨(congrFun (hsr 2 (by decide)) (k + 1)).trans (hc k hk).1, (hc k hk).2⟩
        have hv' := hv.sp hsp hsr
        refine z_aload_n C (pc := 12) dX4_farOf_12 rfl ?_
        refine z_iload_n C (pc := 13) dX4_farOf_13 rfl ?_
        refine z_iload C (pc := 14) dX4_farOf_14 rfl ?_
        refine z_aload_n C (pc := 16) dX4_farOf_16 rfl ?_
        refine z_calliF C (by exact fun _ => mW_ad) (runV C (wc := (mW cI b i' r' h)) (pc := 17) (rY' := rm 7 162) (nn := 3) (As := [.int (nI x), .int (nI (s + 1)), .ref (b 3)]) (rest := []) (m_needOfF l D cI tt b i' r' h kd n hv' x (s + 1) hx hs (by omega) c hc2) (full_hC _) (full_nd _) ⟨rfl, rfl, ⟨Nat.le_of_ble_eq_true rfl, Nat.le_of_ble_eq_true rfl⟩, Nat.le_of_ble_eq_true rfl, Nat.le_of_ble_eq_true rfl⟩ wl_X4_188 wm_X4_needOf we_X4_needOf wi_X4 wc_X4_needOf (by decide +kernel) rfl 0 rfl rfl rfl rfl (Nat.le_of_ble_eq_true rfl) dX4_farOf_17) (fun q_2 u_2 h_2 => ?_)
        obtain ⟨i2, r2⟩ := u_2
        try dsimp only at h_2
        obtain ⟨k0, k1, k2⟩ := h_2
        subst k0
        refine z_ws (st' := [.int (needv kd n x (s + 1) c)]) (ws' := (mW cI b i2 r2 h)) rfl rfl ?_
        refine z_iconst C (pc := 20) (v := (-1)) dX4_farOf_20 (by decide) ?_
        refine z_icmp_ne C (pc := 21) (tgt := 28) dX4_farOf_21 (by decide) (fun c_3 => ?_) (fun c_3 => ?_)
        · have hP : (farb kd n x c) (s + 1) = true := by unfold farb; rw [decide_eq_true hx0, decide_eq_true (p := needv kd n x (s + 1) c ≠ -1) c_3]; rfl
          refine z_iload C (pc := 28) dX4_farOf_28 rfl ?_
          refine z_istore_n C (pc := 30) (lv' := [(0, .ref (b 0)), (1, .int (nI x)), (2, .ref (b 3)), (3, .int (nI (s + 1))), (4, .int (nI (s + 1)))]) dX4_farOf_30 (Nat.le_of_ble_eq_true rfl) rfl rfl ?_
          refine z_iinc C (pc := 31) (v := ((nI (s + 1)) + 1)) (lv' := [(0, .ref (b 0)), (1, .int (nI x)), (2, .ref (b 3)), (3, .int (nI (s + 1))), (4, .int ((nI (s + 1)) + 1))]) dX4_farOf_31 rfl rfl (Nat.le_of_ble_eq_true rfl) rfl rfl ?_
          refine z_goto C (pc := 34) (tgt := 5) dX4_farOf_34 (by decide) ?_
          refine z_lv (lv' := [(0, .ref (b 0)), (1, .int (nI x)), (2, .ref (b 3)), (3, .int (nI (frv (farb kd n x c) (s + 1)))), (4, .int (nI ((s + 1) + 1)))]) ⟨rfl, rfl, rfl, lki (by rw [frv_s hP]), lki (nI_1 _), trivial⟩ ?_
          exact ih5 (s + 1) i2 r2 (by omega) hs (hsp.tr k1) (hsr.tr k2)
        · have hP : (farb kd n x c) (s + 1) = false := by unfold farb; rw [decide_eq_false (p := needv kd n x (s + 1) c ≠ -1) (fun e => e c_3), Bool.and_false]
          refine z_iload_n C (pc := 24) dX4_farOf_24 rfl ?_
          refine z_goto C (pc := 25) (tgt := 30) dX4_farOf_25 (by decide) ?_
          refine z_istore_n C (pc := 30) (lv' := [(0, .ref (b 0)), (1, .int (nI x)), (2, .ref (b 3)), (3, .int (nI (frv (farb kd n x c) s))), (4, .int (nI (s + 1)))]) dX4_farOf_30 (Nat.le_of_ble_eq_true rfl) rfl rfl ?_
          refine z_iinc C (pc := 31) (v := ((nI (s + 1)) + 1)) (lv' := [(0, .ref (b 0)), (1, .int (nI x)), (2, .ref (b 3)), (3, .int (nI (frv (farb kd n x c) s))), (4, .int ((nI (s + 1)) + 1))]) dX4_farOf_31 rfl rfl (Nat.le_of_ble_eq_true rfl) rfl rfl ?_
          refine z_goto C (pc := 34) (tgt := 5) dX4_farOf_34 (by decide) ?_
          refine z_lv (lv' := [(0, .ref (b 0)), (1, .int (nI x)), (2, .ref (b 3)), (3, .int (nI (frv (farb kd n x c) (s + 1)))), (4, .int (nI ((s + 1) + 1)))]) ⟨rfl, rfl, rfl, lki (by rw [frv_n hP]), lki (nI_1 _), trivial⟩ ?_
          exact ih5 (s + 1) i2 r2 (by omega) hs (hsp.tr k1) (hsr.tr k2)
  refine z_lv (lv' := [(0, .ref (b 0)), (1, .int (nI x)), (2, .ref (b 3)), (3, .int (nI (frv (farb kd n x c) 0))), (4, .int (nI (0 + 1)))]) ⟨rfl, rfl, rfl, rfl, rfl, trivial⟩ ?_
  exact key5 (_ + 1) 0 i r (Nat.lt_succ_self _) (Nat.zero_le _) SPm.rf SRm.rf

set_option maxHeartbeats 4000000 in
set_option maxRecDepth 100000 in
theorem m_farOfT (l : Launch) (D : va_G) (cI : ClassId) (tt : Nat × Nat × Nat) (b : Nat → Nat) (i : Nat → Int32) (r : Nat → Nat → Int32) (h : Int64) (kd : Nat → Nat) (n : Nat) (hv : PVm i r kd n) (x : Nat) (hx : x < 2 ^ n) (hx0 : x ≠ 0) (c : Nat → Nat) (hc : ∀ k, k < 5 → r 6 (k + 1) = nI (c k) ∧ c k ≤ 9) : MetI (S := ((Nat → Int32) × (Nat → Nat → Int32))) l yX4_farOf cX4_farOf 5 (some .int) (rm 8 187) D cI tt [.ref (b 0), .int (nI x), .ref (b 7)] (mW cI b i r h) (fun q u => q = nI (farv kd n x c) ∧ SPm i u.1 ∧ SRm r u.2) (fun u => mW cI b u.1 u.2 h) := by
  have hn6 := hv.2.1
  have hx6 := pow_le6 hn6
  refine met_ofI (by decide) (Nat.le_of_ble_eq_true rfl) ?_
  intro pP eE sS mM aV bB mE cC AA C hin
  refine z_conv (lv' := [(0, .ref (b 0)), (1, .int (nI x)), (2, .ref (b 7))]) ⟨rfl, rfl, rfl, trivial⟩ rfl rfl ?_
  refine z_iconst C (pc := 0) (v := 0) dX4_farOf_0 (by decide) ?_
  refine z_istore_n C (pc := 1) (lv' := [(0, .ref (b 0)), (1, .int (nI x)), (2, .ref (b 7)), (3, .int 0)]) dX4_farOf_1 (Nat.le_of_ble_eq_true rfl) rfl rfl ?_
  refine z_iconst C (pc := 2) (v := 1) dX4_farOf_2 (by decide) ?_
  refine z_istore C (pc := 3) (lv' := [(0, .ref (b 0)), (1, .int (nI x)), (2, .ref (b 7)), (3, .int 0), (4, .int 1)]) dX4_farOf_3 (Nat.le_of_ble_eq_true rfl) rfl rfl ?_
  have key5 : ∀ (fu5 : Nat) (s : Nat) (i' : Nat → Int32) (r' : Nat → Nat → Int32), 6 - s < fu5 → (s ≤ 6) → (SPm i i') → (SRm r r') → Z pP l eE (rm 8 187) sS mM aV bB mE cC D AA 5 0 0 (MQ bB (va_Qi (S := ((Nat → Int32) × (Nat → Nat → Int32))) (fun q u => q = nI (farv kd n x c) ∧ SPm i u.1 ∧ SRm r u.2) (fun u t => va_P D vwCl ((fun u => mW cI b u.1 u.2 h) u) t.heap) AA) aV sS 0 0 AA) 5 [(0, .ref (b 0)), (1, .int (nI x)), (2, .ref (b 7)), (3, .int (nI (frv (farb kd n x c) s))), (4, .int (nI (s + 1)))] [] (mW cI b i' r' h) := by
    intro fu5
    induction fu5 with
    | zero => intro s i' r' hfu5; exact absurd hfu5 (Nat.not_lt_zero _)
    | succ fu5 ih5 =>
      intro s i' r' hfu5 hs6 hsp hsr
      refine z_iload C (pc := 5) dX4_farOf_5 rfl ?_
      refine z_bipush C (pc := 7) (v := 7) dX4_farOf_7 (by decide) ?_
      refine z_icmp_ge C (pc := 9) (tgt := 37) dX4_farOf_9 (by decide) (fun c_1 => ?_) (fun c_1 => ?_)
      · refine z_iload_n C (pc := 37) dX4_farOf_37 rfl ?_
        refine z_iret C (pc := 38) (i', r') dX4_farOf_38 ?_ rfl
        have hse : s = 6 := by
          have := ge_of_nI (n := 7) (j := s + 1) c_1 (by decide)
          omega
        subst hse
        exact ⟨rfl, hsp, hsr⟩
      · have hs : s + 1 ≤ 6 := by
          have := lt_of_nI (n := 7) (j := s + 1) c_1 (by omega)
          omega
        have hc2 : ∀ k, k < 5 → r' 6 (k + 1) = nI (c k) ∧ c k ≤ 9 := fun k hk => ⟨(congrFun (hsr 6 (by decide)) (k + 1)).trans (hc k hk).1, (hc k hk).2⟩
        have hv' := hv.sp hsp hsr
        refine z_aload_n C (pc := 12) dX4_farOf_12 rfl ?_
        refine z_iload_n C (pc := 13) dX4_farOf_13 rfl ?_
        refine z_iload C (pc := 14) dX4_farOf_14 rfl ?_
        refine z_aload_n C (pc := 16) dX4_farOf_16 rfl ?_
        refine z_calliF C (by exact fun _ => mW_ad) (runV C (wc := (mW cI b i' r' h)) (pc := 17) (rY' := rm 7 162) (nn := 3) (As := [.int (nI x), .int (nI (s + 1)), .ref (b 7)]) (rest := []) (m_needOfT l D cI tt b i' r' h kd n hv' x (s + 1) hx hs (by omega) c hc2) (full_hC _) (full_nd _) ⟨rfl, rfl, ⟨Nat.le_of_ble_eq_true rfl, Nat.le_of_ble_eq_true rfl⟩, Nat.le_of_ble_eq_true rfl, Nat.le_of_ble_eq_true rfl⟩ wl_X4_188 wm_X4_needOf we_X4_needOf wi_X4 wc_X4_needOf (by decide +kernel) rfl 0 rfl rfl rfl rfl (Nat.le_of_ble_eq_true rfl) dX4_farOf_17) (fun q_2 u_2 h_2 => ?_)
        obtain ⟨i2, r2⟩ := u_2
        try dsimp only at h_2
        obtain ⟨k0, k1, k2⟩ := h_2
        subst k0
        refine z_ws (st' := [.int (needv kd n x (s + 1) c)]) (ws' := (mW cI b i2 r2 h)) rfl rfl ?_
        refine z_iconst C (pc := 20) (v := (-1)) dX4_farOf_20 (by decide) ?_
        refine z_icmp_ne C (pc := 21) (tgt := 28) dX4_farOf_21 (by decide) (fun c_3 => ?_) (fun c_3 => ?_)
        · have hP : (farb kd n x c) (s + 1) = true := by unfold farb; rw [decide_eq_true hx0, decide_eq_true (p := needv kd n x (s + 1) c ≠ -1) c_3]; rfl
          refine z_iload C (pc := 28) dX4_farOf_28 rfl ?_
          refine z_istore_n C (pc := 30) (lv' := [(0, .ref (b 0)), (1, .int (nI x)), (2, .ref (b 7)), (3, .int (nI (s + 1))), (4, .int (nI (s + 1)))]) dX4_farOf_30 (Nat.le_of_ble_eq_true rfl) rfl rfl ?_
          refine z_iinc C (pc := 31) (v := ((nI (s + 1)) + 1)) (lv' := [(0, .ref (b 0)), (1, .int (nI x)), (2, .ref (b 7)), (3, .int (nI (s + 1))), (4, .int ((nI (s + 1)) + 1))]) dX4_farOf_31 rfl rfl (Nat.le_of_ble_eq_true rfl) rfl rfl ?_
          refine z_goto C (pc := 34) (tgt := 5) dX4_farOf_34 (by decide) ?_
          refine z_lv (lv' := [(0, .ref (b 0)), (1, .int (nI x)), (2, .ref (b 7)), (3, .int (nI (frv (farb kd n x c) (s + 1)))), (4, .int (nI ((s + 1) + 1)))]) ⟨rfl, rfl, rfl, lki (by rw [frv_s hP]), lki (nI_1 _), trivial⟩ ?_
          exact ih5 (s + 1) i2 r2 (by omega) hs (hsp.tr k1) (hsr.tr k2)
        · have hP : (farb kd n x c) (s + 1) = false := by unfold farb; rw [decide_eq_false (p := needv kd n x (s + 1) c ≠ -1) (fun e => e c_3), Bool.and_false]
          refine z_iload_n C (pc := 24) dX4_farOf_24 rfl ?_
          refine z_goto C (pc := 25) (tgt := 30) dX4_farOf_25 (by decide) ?_
          refine z_istore_n C (pc := 30) (lv' := [(0, .ref (b 0)), (1, .int (nI x)), (2, .ref (b 7)), (3, .int (nI (frv (farb kd n x c) s))), (4, .int (nI (s + 1)))]) dX4_farOf_30 (Nat.le_of_ble_eq_true rfl) rfl rfl ?_
          refine z_iinc C (pc := 31) (v := ((nI (s + 1)) + 1)) (lv' := [(0, .ref (b 0)), (1, .int (nI x)), (2, .ref (b 7)), (3, .int (nI (frv (farb kd n x c) s))), (4, .int ((nI (s + 1)) + 1))]) dX4_farOf_31 rfl rfl (Nat.le_of_ble_eq_true rfl) rfl rfl ?_
          refine z_goto C (pc := 34) (tgt := 5) dX4_farOf_34 (by decide) ?_
          refine z_lv (lv' := [(0, .ref (b 0)), (1, .int (nI x)), (2, .ref (b 7)), (3, .int (nI (frv (farb kd n x c) (s + 1)))), (4, .int (nI ((s + 1) + 1)))]) ⟨rfl, rfl, rfl, lki (by rw [frv_n hP]), lki (nI_1 _), trivial⟩ ?_
          exact ih5 (s + 1) i2 r2 (by omega) hs (hsp.tr k1) (hsr.tr k2)
  refine z_lv (lv' := [(0, .ref (b 0)), (1, .int (nI x)), (2, .ref (b 7)), (3, .int (nI (frv (farb kd n x c) 0))), (4, .int (nI (0 + 1)))]) ⟨rfl, rfl, rfl, rfl, rfl, trivial⟩ ?_
  exact key5 (_ + 1) 0 i r (Nat.lt_succ_self _) (Nat.zero_le _) SPm.rf SRm.rf

set_option maxHeartbeats 4000000 in
set_option maxRecDepth 100000 in
theorem m_teamOf (l : Launch) (D : va_G) (cI : ClassId) (tt : Nat × Nat × Nat) (b : Nat → Nat) (i : Nat → Int32) (r : Nat → Nat → Int32) (h : Int64) (kd : Nat → Nat) (n : Nat) (hv : PVm i r kd n) (al st : Nat) (hal : i 4 = nI al) (hst : st ≤ 6) (hst1 : 1 ≤ st) (c : Nat → Nat) (hc : ∀ k, k < 5 → r 2 (k + 1) = nI (c k) ∧ c k ≤ 9) : MetI (S := ((Nat → Int32) × (Nat → Nat → Int32))) l yX4_teamOf cX4_teamOf 5 (some .int) (rm 8 187) D cI tt [.ref (b 0), .int (nI st)] (mW cI b i r h) (fun q u => q = teamv kd n al st c ∧ SPm i u.1 ∧ SRm r u.2) (fun u => mW cI b u.1 u.2 h) := by
  have hn6 := hv.2.1
  have hx6 := pow_le6 hn6
  refine met_ofI (by decide) (Nat.le_of_ble_eq_true rfl) ?_
  intro pP eE sS mM aV bB mE cC AA C hin
  refine z_conv (lv' := [(0, .ref (b 0)), (1, .int (nI st))]) ⟨rfl, rfl, trivial⟩ rfl rfl ?_
  refine z_iconst C (pc := 0) (v := (-1)) dX4_teamOf_0 (by decide) ?_
  refine z_istore_n C (pc := 1) (lv' := [(0, .ref (b 0)), (1, .int (nI st)), (2, .int (-1))]) dX4_teamOf_1 (Nat.le_of_ble_eq_true rfl) rfl rfl ?_
  refine z_iconst C (pc := 2) (v := 1) dX4_teamOf_2 (by decide) ?_
  refine z_istore_n C (pc := 3) (lv' := [(0, .ref (b 0)), (1, .int (nI st)), (2, .int (-1)), (3, .int 1)]) dX4_teamOf_3 (Nat.le_of_ble_eq_true rfl) rfl rfl ?_
  have key4 : ∀ (fu4 : Nat) (s : Nat) (i' : Nat → Int32) (r' : Nat → Nat → Int32), 2 ^ n - s < fu4 → (s ≤ 2 ^ n - 1) → (SPm i i') → (SRm r r') → Z pP l eE (rm 8 187) sS mM aV bB mE cC D AA 5 0 0 (MQ bB (va_Qi (S := ((Nat → Int32) × (Nat → Nat → Int32))) (fun q u => q = teamv kd n al st c ∧ SPm i u.1 ∧ SRm r u.2) (fun u t => va_P D vwCl ((fun u => mW cI b u.1 u.2 h) u) t.heap) AA) aV sS 0 0 AA) 4 [(0, .ref (b 0)), (1, .int (nI st)), (2, .int (noneI (tmv (okb kd n al st c) s).1)), (3, .int (nI (s + 1)))] [] (mW cI b i' r' h) := by
    intro fu4
    induction fu4 with
    | zero => intro s i' r' hfu4; exact absurd hfu4 (Nat.not_lt_zero _)
    | succ fu4 ih4 =>
      intro s i' r' hfu4 hsm hsp hsr
      refine z_iload_n C (pc := 4) dX4_teamOf_4 rfl ?_
      refine z_iconst C (pc := 5) (v := 1) dX4_teamOf_5 (by decide) ?_
      refine z_aload_n C (pc := 6) dX4_teamOf_6 rfl ?_
      refine z_get C (pc := 7) 0 rfl rfl wf_X4 3 (by decide) rfl wl_X4_69 (v := .int (i' 3)) rfl dX4_teamOf_7 ?_
      refine z_ishl C (pc := 10) dX4_teamOf_10 ?_
      refine z_icmp_ge C (pc := 11) (tgt := 79) dX4_teamOf_11 (by decide) (fun c_1 => ?_) (fun c_1 => ?_)
      · refine z_iload_n C (pc := 79) dX4_teamOf_79 rfl ?_
        refine z_iret C (pc := 80) (i', r') dX4_teamOf_80 ?_ rfl
        rw [(hsp 3 (by omega)).trans hv.1, shl_2 n hn6] at c_1
        have hse : s = 2 ^ n - 1 := by
          have := ge_of_nI c_1 (by omega)
          omega
        subst hse
        exact ⟨rfl, hsp, hsr⟩
      · rw [(hsp 3 (by omega)).trans hv.1, shl_2 n hn6] at c_1
        have hsl : s + 1 < 2 ^ n := lt_of_nI c_1 (by omega)
        have htl := tmv_le (okb kd n al st c) s
        have ht2 := tmv_2 (okb kd n al st c) s
        have hp6 := pcn_6 (s + 1) (by omega)
        have hc2 : ∀ k, k < 5 → r' 2 (k + 1) = nI (c k) ∧ c k ≤ 9 := fun k hk => ⟨(congrFun (hsr 2 (by decide)) (k + 1)).trans (hc k hk).1, (hc k hk).2⟩
        have hv' := hv.sp hsp hsr
        refine z_iload_n C (pc := 14) dX4_teamOf_14 rfl ?_
        refine z_aload_n C (pc := 15) dX4_teamOf_15 rfl ?_
        refine z_get C (pc := 16) 0 rfl rfl wf_X4 4 (by decide) rfl wl_X4_72 (v := .int (i' 4)) rfl dX4_teamOf_16 ?_
        refine z_iconst C (pc := 19) (v := (-1)) dX4_teamOf_19 (by decide) ?_
        refine z_ixor C (pc := 20) dX4_teamOf_20 ?_
        refine z_iand C (pc := 21) dX4_teamOf_21 ?_
        refine z_if_ne C (pc := 22) (tgt := 45) dX4_teamOf_22 (by decide) (fun c_2 => ?_) (fun c_2 => ?_)
        · rw [(hsp 4 (by omega)).trans hal] at c_2
          have hno : ¬ ((okb kd n al st c) (s + 1) = true ∧ pcn (s + 1) < (tmv (okb kd n al st c) s).2) := fun e => by
            have h2 := e.1
            unfold okb at h2
            rw [decide_eq_false (p := deadv (nI (s + 1)) (nI al) = 0) c_2] at h2
            exact absurd h2 (by simp)
          refine z_iconst C (pc := 45) (v := 0) dX4_teamOf_45 (by decide) ?_
          refine z_istore C (pc := 46) (lv' := [(0, .ref (b 0)), (1, .int (nI st)), (2, .int (noneI (tmv (okb kd n al st c) s).1)), (3, .int (nI (s + 1))), (4, .int 0)]) dX4_teamOf_46 (Nat.le_of_ble_eq_true rfl) rfl rfl ?_
          refine z_iload C (pc := 48) dX4_teamOf_48 rfl ?_
          refine z_if_eq C (pc := 50) (tgt := 71) dX4_teamOf_50 (by decide) (fun c_3 => ?_) (fun c_3 => ?_)
          · refine z_iload_n C (pc := 71) dX4_teamOf_71 rfl ?_
            refine z_istore_n C (pc := 72) (lv' := [(0, .ref (b 0)), (1, .int (nI st)), (2, .int (noneI (tmv (okb kd n al st c) s).1)), (3, .int (nI (s + 1))), (4, .int 0)]) dX4_teamOf_72 (Nat.le_of_ble_eq_true rfl) rfl rfl ?_
            refine z_iinc C (pc := 73) (v := ((nI (s + 1)) + 1)) (lv' := [(0, .ref (b 0)), (1, .int (nI st)), (2, .int (noneI (tmv (okb kd n al st c) s).1)), (3, .int ((nI (s + 1)) + 1)), (4, .int 0)]) dX4_teamOf_73 rfl rfl (Nat.le_of_ble_eq_true rfl) rfl rfl ?_
            refine z_goto C (pc := 76) (tgt := 4) dX4_teamOf_76 (by decide) ?_
            refine z_lv (lv' := [(0, .ref (b 0)), (1, .int (nI st)), (2, .int (noneI (tmv (okb kd n al st c) (s + 1)).1)), (3, .int (nI ((s + 1) + 1)))]) ⟨rfl, rfl, lki (by rw [tmv_n hno]), lki (nI_1 _), trivial⟩ ?_
            exact ih4 (s + 1) i' r' (by omega) (by omega) hsp hsr
          · exact absurd c_3 (by decide)
        · rw [(hsp 4 (by omega)).trans hal] at c_2
          have hda : deadv (nI (s + 1)) (nI al) = 0 := c_2
          refine z_iload_n C (pc := 25) dX4_teamOf_25 rfl ?_
          refine z_iconst C (pc := 26) (v := (-1)) dX4_teamOf_26 (by decide) ?_
          refine z_icmp_eq C (pc := 27) (tgt := 41) dX4_teamOf_27 (by decide) (fun c_4 => ?_) (fun c_4 => ?_)
          · have hb0 := (none_ne (by omega)).mp c_4
            have hpc : pcn (s + 1) < (tmv (okb kd n al st c) s).2 := by rw [ht2, if_pos hb0]; omega
            refine z_iconst C (pc := 41) (v := 1) dX4_teamOf_41 (by decide) ?_
            refine z_goto C (pc := 42) (tgt := 46) dX4_teamOf_42 (by decide) ?_
            refine z_istore C (pc := 46) (lv' := [(0, .ref (b 0)), (1, .int (nI st)), (2, .int (noneI (tmv (okb kd n al st c) s).1)), (3, .int (nI (s + 1))), (4, .int 1)]) dX4_teamOf_46 (Nat.le_of_ble_eq_true rfl) rfl rfl ?_
            refine z_iload C (pc := 48) dX4_teamOf_48 rfl ?_
            refine z_if_eq C (pc := 50) (tgt := 71) dX4_teamOf_50 (by decide) (fun c_5 => ?_) (fun c_5 => ?_)
            · exact absurd c_5 (by decide)
            · refine z_aload_n C (pc := 53) dX4_teamOf_53 rfl ?_
              refine z_iload_n C (pc := 54) dX4_teamOf_54 rfl ?_
              refine z_iload_n C (pc := 55) dX4_teamOf_55 rfl ?_
              refine z_aload_n C (pc := 56) dX4_teamOf_56 rfl ?_
              refine z_get C (pc := 57) 0 rfl rfl wf_X4 9 (by decide) rfl wl_X4_16 (v := .ref (b 3)) rfl dX4_teamOf_57 ?_
              refine z_calliF C (by exact fun _ => mW_ad) (runV C (wc := (mW cI b i' r' h)) (pc := 60) (rY' := rm 7 162) (nn := 3) (As := [.int (nI (s + 1)), .int (nI st), .ref (b 3)]) (rest := []) (m_needOfF l D cI tt b i' r' h kd n hv' (s + 1) st hsl hst hst1 c hc2) (full_hC _) (full_nd _) ⟨rfl, rfl, ⟨Nat.le_of_ble_eq_true rfl, Nat.le_of_ble_eq_true rfl⟩, Nat.le_of_ble_eq_true rfl, Nat.le_of_ble_eq_true rfl⟩ wl_X4_188 wm_X4_needOf we_X4_needOf wi_X4 wc_X4_needOf (by decide +kernel) rfl 0 rfl rfl rfl rfl (Nat.le_of_ble_eq_true rfl) dX4_teamOf_60) (fun q_6 u_6 h_6 => ?_)
              obtain ⟨i6, r6⟩ := u_6
              try dsimp only at h_6
              obtain ⟨k0, k1, k2⟩ := h_6
              subst k0
              refine z_ws (st' := [.int (needv kd n (s + 1) st c)]) (ws' := (mW cI b i6 r6 h)) rfl rfl ?_
              refine z_iconst C (pc := 63) (v := (-1)) dX4_teamOf_63 (by decide) ?_
              refine z_icmp_eq C (pc := 64) (tgt := 71) dX4_teamOf_64 (by decide) (fun c_7 => ?_) (fun c_7 => ?_)
              · have hno : ¬ ((okb kd n al st c) (s + 1) = true ∧ pcn (s + 1) < (tmv (okb kd n al st c) s).2) := fun e => by
                  have h2 := e.1
                  unfold okb at h2
                  rw [decide_eq_false (p := needv kd n (s + 1) st c ≠ -1) (fun h => h c_7), Bool.and_false] at h2
                  exact absurd h2 (by decide)
                refine z_iload_n C (pc := 71) dX4_teamOf_71 rfl ?_
                refine z_istore_n C (pc := 72) (lv' := [(0, .ref (b 0)), (1, .int (nI st)), (2, .int (noneI (tmv (okb kd n al st c) s).1)), (3, .int (nI (s + 1))), (4, .int 1)]) dX4_teamOf_72 (Nat.le_of_ble_eq_true rfl) rfl rfl ?_
                refine z_iinc C (pc := 73) (v := ((nI (s + 1)) + 1)) (lv' := [(0, .ref (b 0)), (1, .int (nI st)), (2, .int (noneI (tmv (okb kd n al st c) s).1)), (3, .int ((nI (s + 1)) + 1)), (4, .int 1)]) dX4_teamOf_73 rfl rfl (Nat.le_of_ble_eq_true rfl) rfl rfl ?_
                refine z_goto C (pc := 76) (tgt := 4) dX4_teamOf_76 (by decide) ?_
                refine z_lv (lv' := [(0, .ref (b 0)), (1, .int (nI st)), (2, .int (noneI (tmv (okb kd n al st c) (s + 1)).1)), (3, .int (nI ((s + 1) + 1)))]) ⟨rfl, rfl, lki (by rw [tmv_n hno]), lki (nI_1 _), trivial⟩ ?_
                exact ih4 (s + 1) i6 r6 (by omega) (by omega) (hsp.tr k1) (hsr.tr k2)
              · have hok : (okb kd n al st c) (s + 1) = true ∧ pcn (s + 1) < (tmv (okb kd n al st c) s).2 := ⟨by unfold okb; rw [decide_eq_true hda, decide_eq_true (p := needv kd n (s + 1) st c ≠ -1) c_7]; rfl, hpc⟩
                refine z_iload_n C (pc := 67) dX4_teamOf_67 rfl ?_
                refine z_goto C (pc := 68) (tgt := 72) dX4_teamOf_68 (by decide) ?_
                refine z_istore_n C (pc := 72) (lv' := [(0, .ref (b 0)), (1, .int (nI st)), (2, .int (nI (s + 1))), (3, .int (nI (s + 1))), (4, .int 1)]) dX4_teamOf_72 (Nat.le_of_ble_eq_true rfl) rfl rfl ?_
                refine z_iinc C (pc := 73) (v := ((nI (s + 1)) + 1)) (lv' := [(0, .ref (b 0)), (1, .int (nI st)), (2, .int (nI (s + 1))), (3, .int ((nI (s + 1)) + 1)), (4, .int 1)]) dX4_teamOf_73 rfl rfl (Nat.le_of_ble_eq_true rfl) rfl rfl ?_
                refine z_goto C (pc := 76) (tgt := 4) dX4_teamOf_76 (by decide) ?_
                refine z_lv (lv' := [(0, .ref (b 0)), (1, .int (nI st)), (2, .int (noneI (tmv (okb kd n al st c) (s + 1)).1)), (3, .int (nI ((s + 1) + 1)))]) ⟨rfl, rfl, lki (by rw [tmv_s hok]; exact (noneI_s (by omega)).symm), lki (nI_1 _), trivial⟩ ?_
                exact ih4 (s + 1) i6 r6 (by omega) (by omega) (hsp.tr k1) (hsr.tr k2)
          · have hb0 : (tmv (okb kd n al st c) s).1 ≠ 0 := fun e => c_4 ((none_ne (by omega)).mpr e)
            refine z_iload_n C (pc := 30) dX4_teamOf_30 rfl ?_
            refine z_calli C (isC := []) rfl (by exact fun _ => rfl) (runS C (wc := []) (pc := 31) (rY' := rm 0 0) (nn := 1) (As := [.int (nI (s + 1))]) (rest := []) (m_ones l D cI tt (s + 1) (by omega)) rfl rfl ⟨rfl, rfl, ⟨Nat.le_of_ble_eq_true rfl, Nat.le_of_ble_eq_true rfl⟩, Nat.le_of_ble_eq_true rfl, Nat.le_of_ble_eq_true rfl⟩ wl_X4_196 ws_X4_ones wi_X4 wc_X4_ones (by decide +kernel) rfl rfl (Nat.le_of_ble_eq_true rfl) dX4_teamOf_31) (fun r_8 u_8 h_8 => ?_)
            have h_8 : r_8 = nI (pcn (s + 1)) := h_8.trans (by rw [ones_pcn _ (by omega)])
            subst h_8
            refine z_ws (st' := [.int (nI (pcn (s + 1)))]) (ws' := (mW cI b i' r' h)) rfl rfl ?_
            refine z_iload_n C (pc := 34) dX4_teamOf_34 rfl ?_
            refine z_seti (y := nI (tmv (okb kd n al st c) s).1) (noneI_s hb0) ?_
            refine z_calli C (isC := []) rfl (by exact fun _ => rfl) (runS C (wc := []) (pc := 35) (rY' := rm 0 0) (nn := 1) (As := [.int (nI (tmv (okb kd n al st c) s).1)]) (rest := [.int (nI (pcn (s + 1)))]) (m_ones l D cI tt (tmv (okb kd n al st c) s).1 (by omega)) rfl rfl ⟨rfl, rfl, ⟨Nat.le_of_ble_eq_true rfl, Nat.le_of_ble_eq_true rfl⟩, Nat.le_of_ble_eq_true rfl, Nat.le_of_ble_eq_true rfl⟩ wl_X4_196 ws_X4_ones wi_X4 wc_X4_ones (by decide +kernel) rfl rfl (Nat.le_of_ble_eq_true rfl) dX4_teamOf_35) (fun r_9 u_9 h_9 => ?_)
            have h_9 : r_9 = nI (pcn (tmv (okb kd n al st c) s).1) := h_9.trans (by rw [ones_pcn _ (by omega)])
            subst h_9
            refine z_ws (st' := [.int (nI (pcn (tmv (okb kd n al st c) s).1)), .int (nI (pcn (s + 1)))]) (ws' := (mW cI b i' r' h)) rfl rfl ?_
            refine z_icmp_ge C (pc := 38) (tgt := 45) dX4_teamOf_38 (by decide) (fun c_10 => ?_) (fun c_10 => ?_)
            · have hno : ¬ ((okb kd n al st c) (s + 1) = true ∧ pcn (s + 1) < (tmv (okb kd n al st c) s).2) := fun e => by
                have h2 := e.2
                rw [ht2, if_neg hb0] at h2
                exact nI_ge h2 (by have := pcn_6 (tmv (okb kd n al st c) s).1 (by omega); omega) c_10
              refine z_iconst C (pc := 45) (v := 0) dX4_teamOf_45 (by decide) ?_
              refine z_istore C (pc := 46) (lv' := [(0, .ref (b 0)), (1, .int (nI st)), (2, .int (noneI (tmv (okb kd n al st c) s).1)), (3, .int (nI (s + 1))), (4, .int 0)]) dX4_teamOf_46 (Nat.le_of_ble_eq_true rfl) rfl rfl ?_
              refine z_iload C (pc := 48) dX4_teamOf_48 rfl ?_
              refine z_if_eq C (pc := 50) (tgt := 71) dX4_teamOf_50 (by decide) (fun c_11 => ?_) (fun c_11 => ?_)
              · refine z_iload_n C (pc := 71) dX4_teamOf_71 rfl ?_
                refine z_istore_n C (pc := 72) (lv' := [(0, .ref (b 0)), (1, .int (nI st)), (2, .int (noneI (tmv (okb kd n al st c) s).1)), (3, .int (nI (s + 1))), (4, .int 0)]) dX4_teamOf_72 (Nat.le_of_ble_eq_true rfl) rfl rfl ?_
                refine z_iinc C (pc := 73) (v := ((nI (s + 1)) + 1)) (lv' := [(0, .ref (b 0)), (1, .int (nI st)), (2, .int (noneI (tmv (okb kd n al st c) s).1)), (3, .int ((nI (s + 1)) + 1)), (4, .int 0)]) dX4_teamOf_73 rfl rfl (Nat.le_of_ble_eq_true rfl) rfl rfl ?_
                refine z_goto C (pc := 76) (tgt := 4) dX4_teamOf_76 (by decide) ?_
                refine z_lv (lv' := [(0, .ref (b 0)), (1, .int (nI st)), (2, .int (noneI (tmv (okb kd n al st c) (s + 1)).1)), (3, .int (nI ((s + 1) + 1)))]) ⟨rfl, rfl, lki (by rw [tmv_n hno]), lki (nI_1 _), trivial⟩ ?_
                exact ih4 (s + 1) i' r' (by omega) (by omega) hsp hsr
              · exact absurd c_11 (by decide)
            · have hpc : pcn (s + 1) < (tmv (okb kd n al st c) s).2 := by
                rw [ht2, if_neg hb0]
                exact lt_of_nI c_10 (by omega)
              refine z_iconst C (pc := 41) (v := 1) dX4_teamOf_41 (by decide) ?_
              refine z_goto C (pc := 42) (tgt := 46) dX4_teamOf_42 (by decide) ?_
              refine z_istore C (pc := 46) (lv' := [(0, .ref (b 0)), (1, .int (nI st)), (2, .int (noneI (tmv (okb kd n al st c) s).1)), (3, .int (nI (s + 1))), (4, .int 1)]) dX4_teamOf_46 (Nat.le_of_ble_eq_true rfl) rfl rfl ?_
              refine z_iload C (pc := 48) dX4_teamOf_48 rfl ?_
              refine z_if_eq C (pc := 50) (tgt := 71) dX4_teamOf_50 (by decide) (fun c_12 => ?_) (fun c_12 => ?_)
              · exact absurd c_12 (by decide)
              · refine z_aload_n C (pc := 53) dX4_teamOf_53 rfl ?_
                refine z_iload_n C (pc := 54) dX4_teamOf_54 rfl ?_
                refine z_iload_n C (pc := 55) dX4_teamOf_55 rfl ?_
                refine z_aload_n C (pc := 56) dX4_teamOf_56 rfl ?_
                refine z_get C (pc := 57) 0 rfl rfl wf_X4 9 (by decide) rfl wl_X4_16 (v := .ref (b 3)) rfl dX4_teamOf_57 ?_
                refine z_calliF C (by exact fun _ => mW_ad) (runV C (wc := (mW cI b i' r' h)) (pc := 60) (rY' := rm 7 162) (nn := 3) (As := [.int (nI (s + 1)), .int (nI st), .ref (b 3)]) (rest := []) (m_needOfF l D cI tt b i' r' h kd n hv' (s + 1) st hsl hst hst1 c hc2) (full_hC _) (full_nd _) ⟨rfl, rfl, ⟨Nat.le_of_ble_eq_true rfl, Nat.le_of_ble_eq_true rfl⟩, Nat.le_of_ble_eq_true rfl, Nat.le_of_ble_eq_true rfl⟩ wl_X4_188 wm_X4_needOf we_X4_needOf wi_X4 wc_X4_needOf (by decide +kernel) rfl 0 rfl rfl rfl rfl (Nat.le_of_ble_eq_true rfl) dX4_teamOf_60) (fun q_13 u_13 h_13 => ?_)
                obtain ⟨i13, r13⟩ := u_13
                try dsimp only at h_13
                obtain ⟨k0, k1, k2⟩ := h_13
                subst k0
                refine z_ws (st' := [.int (needv kd n (s + 1) st c)]) (ws' := (mW cI b i13 r13 h)) rfl rfl ?_
                refine z_iconst C (pc := 63) (v := (-1)) dX4_teamOf_63 (by decide) ?_
                refine z_icmp_eq C (pc := 64) (tgt := 71) dX4_teamOf_64 (by decide) (fun c_14 => ?_) (fun c_14 => ?_)
                · have hno : ¬ ((okb kd n al st c) (s + 1) = true ∧ pcn (s + 1) < (tmv (okb kd n al st c) s).2) := fun e => by
                    have h2 := e.1
                    unfold okb at h2
                    rw [decide_eq_false (p := needv kd n (s + 1) st c ≠ -1) (fun h => h c_14), Bool.and_false] at h2
                    exact absurd h2 (by decide)
                  refine z_iload_n C (pc := 71) dX4_teamOf_71 rfl ?_
                  refine z_istore_n C (pc := 72) (lv' := [(0, .ref (b 0)), (1, .int (nI st)), (2, .int (noneI (tmv (okb kd n al st c) s).1)), (3, .int (nI (s + 1))), (4, .int 1)]) dX4_teamOf_72 (Nat.le_of_ble_eq_true rfl) rfl rfl ?_
                  refine z_iinc C (pc := 73) (v := ((nI (s + 1)) + 1)) (lv' := [(0, .ref (b 0)), (1, .int (nI st)), (2, .int (noneI (tmv (okb kd n al st c) s).1)), (3, .int ((nI (s + 1)) + 1)), (4, .int 1)]) dX4_teamOf_73 rfl rfl (Nat.le_of_ble_eq_true rfl) rfl rfl ?_
                  refine z_goto C (pc := 76) (tgt := 4) dX4_teamOf_76 (by decide) ?_
                  refine z_lv (lv' := [(0, .ref (b 0)), (1, .int (nI st)), (2, .int (noneI (tmv (okb kd n al st c) (s + 1)).1)), (3, .int (nI ((s + 1) + 1)))]) ⟨rfl, rfl, lki (by rw [tmv_n hno]), lki (nI_1 _), trivial⟩ ?_
                  exact ih4 (s + 1) i13 r13 (by omega) (by omega) (hsp.tr k1) (hsr.tr k2)
                · have hok : (okb kd n al st c) (s + 1) = true ∧ pcn (s + 1) < (tmv (okb kd n al st c) s).2 := ⟨by unfold okb; rw [decide_eq_true hda, decide_eq_true (p := needv kd n (s + 1) st c ≠ -1) c_14]; rfl, hpc⟩
                  refine z_iload_n C (pc := 67) dX4_teamOf_67 rfl ?_
                  refine z_goto C (pc := 68) (tgt := 72) dX4_teamOf_68 (by decide) ?_
                  refine z_istore_n C (pc := 72) (lv' := [(0, .ref (b 0)), (1, .int (nI st)), (2, .int (nI (s + 1))), (3, .int (nI (s + 1))), (4, .int 1)]) dX4_teamOf_72 (Nat.le_of_ble_eq_true rfl) rfl rfl ?_
                  refine z_iinc C (pc := 73) (v := ((nI (s + 1)) + 1)) (lv' := [(0, .ref (b 0)), (1, .int (nI st)), (2, .int (nI (s + 1))), (3, .int ((nI (s + 1)) + 1)), (4, .int 1)]) dX4_teamOf_73 rfl rfl (Nat.le_of_ble_eq_true rfl) rfl rfl ?_
                  refine z_goto C (pc := 76) (tgt := 4) dX4_teamOf_76 (by decide) ?_
                  refine z_lv (lv' := [(0, .ref (b 0)), (1, .int (nI st)), (2, .int (noneI (tmv (okb kd n al st c) (s + 1)).1)), (3, .int (nI ((s + 1) + 1)))]) ⟨rfl, rfl, lki (by rw [tmv_s hok]; exact (noneI_s (by omega)).symm), lki (nI_1 _), trivial⟩ ?_
                  exact ih4 (s + 1) i13 r13 (by omega) (by omega) (hsp.tr k1) (hsr.tr k2)
  refine z_lv (lv' := [(0, .ref (b 0)), (1, .int (nI st)), (2, .int (noneI (tmv (okb kd n al st c) 0).1)), (3, .int (nI (0 + 1)))]) ⟨rfl, rfl, rfl, rfl, trivial⟩ ?_
  exact key4 (_ + 1) 0 i r (Nat.lt_succ_self _) (Nat.zero_le _) SPm.rf SRm.rf
