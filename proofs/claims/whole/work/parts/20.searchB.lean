theorem need_ne {x : Int32} (h : ¬ x = -1) : decide (x ≠ -1) = true := decide_eq_true h
theorem frv_s {P : Nat → Bool} {s : Nat} (h : P (s + 1) = true) : frv P (s + 1) = s + 1 := by show (if _ then _ else _) = _; rw [if_pos h]
theorem frv_n {P : Nat → Bool} {s : Nat} (h : P (s + 1) = false) : frv P (s + 1) = frv P s := by show (if _ then _ else _) = _; rw [if_neg (by rw [h]; decide)]
theorem tmv_s {ok : Nat → Bool} {s : Nat} (h : ok (s + 1) = true ∧ pcn (s + 1) < (tmv ok s).2) : tmv ok (s + 1) = (s + 1, pcn (s + 1)) := by show (if _ then _ else _) = _; rw [if_pos h]
theorem tmv_n {ok : Nat → Bool} {s : Nat} (h : ¬ (ok (s + 1) = true ∧ pcn (s + 1) < (tmv ok s).2)) : tmv ok (s + 1) = tmv ok s := by show (if _ then _ else _) = _; rw [if_neg h]
theorem noneI_s {b : Nat} (h : b ≠ 0) : noneI b = nI b := if_neg h
theorem lt_nI_of {x y : Nat} (hx : x < 2 ^ 31) (hy : y < 2 ^ 31) : nI x < nI y ↔ x < y := nI_ltI hx hy
set_option maxHeartbeats 4000000 in
set_option maxRecDepth 100000 in
theorem c_farthestN (l : Launch) (D : va_G) (cI : ClassId) (tt : Nat × Nat × Nat) (a : Nat → Nat) (i : Nat → Int32) (r : Nat → Nat → Int32) (kd : Nat → Nat) (n : Nat) (hv : PV i r kd n) (x : Nat) (hx : x < 2 ^ n) (c : Nat → Nat) (hc : ∀ k, k < 5 → r 3 k = nI (c k) ∧ c k ≤ 9) : MetI (S := ((Nat → Int32) × (Nat → Nat → Int32))) l yX3_farthest cX3_farthest 4 (some .int) (rm 5 117) D cI tt [.ref (a 0), .int (nI x), .ref (a 7)] (cW cI a i r) (fun q u => q = nI (farv kd n x c) ∧ SP i u.1 ∧ SR r u.2) (fun u => cW cI a u.1 u.2) := by
  have hn6 := hv.2.1
  have hx6 := pow_le6 hn6
  refine met_ofI (by decide) (Nat.le_of_ble_eq_true rfl) ?_
  intro pP eE sS mM aV bB mE cC AA C hin
  refine z_conv (lv' := [(0, .ref (a 0)), (1, .int (nI x)), (2, .ref (a 7))]) ⟨rfl, rfl, rfl, trivial⟩ rfl rfl ?_
  refine z_bipush C (pc := 0) (v := 6) dX3_farthest_0 (by decide) ?_
  refine z_istore_n C (pc := 2) (lv' := [(0, .ref (a 0)), (1, .int (nI x)), (2, .ref (a 7)), (3, .int 6)]) dX3_farthest_2 (Nat.le_of_ble_eq_true rfl) rfl rfl ?_
  have key3 : ∀ (fu3 : Nat) (st : Nat) (i' : Nat → Int32) (r' : Nat → Nat → Int32), st < fu3 → (st ≤ 6) → (SP i i') → (SR r r') → (frv (farb kd n x c) st = farv kd n x c) → Z pP l eE (rm 5 117) sS mM aV bB mE cC D AA 4 0 0 (MQ bB (va_Qi (S := ((Nat → Int32) × (Nat → Nat → Int32))) (fun q u => q = nI (farv kd n x c) ∧ SP i u.1 ∧ SR r u.2) (fun u t => va_P D vwCl ((fun u => cW cI a u.1 u.2) u) t.heap) AA) aV sS 0 0 AA) 3 [(0, .ref (a 0)), (1, .int (nI x)), (2, .ref (a 7)), (3, .int (nI st))] [] (cW cI a i' r') := by
    intro fu3
    induction fu3 with
    | zero => intro st i' r' hfu3; exact absurd hfu3 (Nat.not_lt_zero _)
    | succ fu3 ih3 =>
      intro st i' r' hfu3 hs6 hsp hsr heq
      refine z_iload_n C (pc := 3) dX3_farthest_3 rfl ?_
      refine z_iconst C (pc := 4) (v := 1) dX3_farthest_4 (by decide) ?_
      refine z_icmp_lt C (pc := 5) (tgt := 31) dX3_farthest_5 (by decide) (fun c_1 => ?_) (fun c_1 => ?_)
      · have h0 : st = 0 := by
          have := lt_of_nI (n := 1) (i_nle.mpr c_1) (by omega)
          omega
        subst h0
        refine z_iconst C (pc := 31) (v := 0) dX3_farthest_31 (by decide) ?_
        refine z_iret C (pc := 32) (i', r') dX3_farthest_32 ?_ rfl
        exact ⟨by rw [← heq]; rfl, hsp, hsr⟩
      · obtain ⟨k, rfl⟩ : ∃ k, st = k + 1 := ⟨st - 1, by have h0 : st ≠ 0 := (fun h => c_1 (by rw [h]; decide)); omega⟩
        have hv2 := hv.sp hsp hsr
        have hc2 : ∀ k, k < 5 → r' 3 k = nI (c k) ∧ c k ≤ 9 := fun k hk => ⟨(congrFun (hsr 3 (by decide)) k).trans (hc k hk).1, (hc k hk).2⟩
        refine z_iload_n C (pc := 8) dX3_farthest_8 rfl ?_
        refine z_if_eq C (pc := 9) (tgt := 25) dX3_farthest_9 (by decide) (fun c_2 => ?_) (fun c_2 => ?_)
        · have hx0 : x = 0 := nI_z (by omega) c_2
          have hP : (farb kd n x c) (k + 1) = false := by unfold farb; rw [decide_eq_false (fun h => h hx0)]; rfl
          refine z_iinc C (pc := 25) (v := ((nI (k + 1)) + (-1))) (lv' := [(0, .ref (a 0)), (1, .int (nI x)), (2, .ref (a 7)), (3, .int ((nI (k + 1)) + (-1)))]) dX3_farthest_25 rfl rfl (Nat.le_of_ble_eq_true rfl) rfl rfl ?_
          refine z_goto C (pc := 28) (tgt := 3) dX3_farthest_28 (by decide) ?_
          refine z_lv (lv' := [(0, .ref (a 0)), (1, .int (nI x)), (2, .ref (a 7)), (3, .int (nI k))]) ⟨rfl, rfl, rfl, lki (pk_m1 k), trivial⟩ ?_
          exact ih3 k i' r' (by omega) (by omega) hsp hsr ((frv_n hP).symm.trans heq)
        · have hx0 : x ≠ 0 := nI_nz c_2
          refine z_aload_n C (pc := 12) dX3_farthest_12 rfl ?_
          refine z_iload_n C (pc := 13) dX3_farthest_13 rfl ?_
          refine z_iload_n C (pc := 14) dX3_farthest_14 rfl ?_
          refine z_aload_n C (pc := 15) dX3_farthest_15 rfl ?_
          refine z_calliF C (by exact fun _ => cW_ad) (runV C (wc := (cW cI a i' r')) (pc := 16) (rY' := rm 4 92) (nn := 3) (As := [.int (nI x), .int (nI (k + 1)), .ref (a 7)]) (rest := []) (c_leastFoodN l D cI tt a i' r' kd n hv2 x (k + 1) hx hs6 c hc2) (full_hC _) (full_nd _) ⟨rfl, rfl, ⟨Nat.le_of_ble_eq_true rfl, Nat.le_of_ble_eq_true rfl⟩, Nat.le_of_ble_eq_true rfl, Nat.le_of_ble_eq_true rfl⟩ wl_X3_159 wm_X3_leastFood we_X3_leastFood wi_X3 wc_X3_leastFood (by decide +kernel) rfl 0 rfl rfl rfl rfl (Nat.le_of_ble_eq_true rfl) dX3_farthest_16) (fun q_3 u_3 h_3 => ?_)
          obtain ⟨i3, r3⟩ := u_3
          try dsimp only at h_3
          obtain ⟨k0, k1, k2⟩ := h_3
          refine z_ws (st' := [.int q_3]) (ws' := (cW cI a i3 r3)) rfl rfl ?_
          refine z_iconst C (pc := 19) (v := (-1)) dX3_farthest_19 (by decide) ?_
          refine z_icmp_eq C (pc := 20) (tgt := 25) dX3_farthest_20 (by decide) (fun c_4 => ?_) (fun c_4 => ?_)
          · have hP : (farb kd n x c) (k + 1) = false := by unfold farb; rw [decide_eq_false (p := needv kd n x (k + 1) c ≠ -1) (fun h => h (k0 ▸ c_4)), Bool.and_false]
            refine z_iinc C (pc := 25) (v := ((nI (k + 1)) + (-1))) (lv' := [(0, .ref (a 0)), (1, .int (nI x)), (2, .ref (a 7)), (3, .int ((nI (k + 1)) + (-1)))]) dX3_farthest_25 rfl rfl (Nat.le_of_ble_eq_true rfl) rfl rfl ?_
            refine z_goto C (pc := 28) (tgt := 3) dX3_farthest_28 (by decide) ?_
            refine z_lv (lv' := [(0, .ref (a 0)), (1, .int (nI x)), (2, .ref (a 7)), (3, .int (nI k))]) ⟨rfl, rfl, rfl, lki (pk_m1 k), trivial⟩ ?_
            exact ih3 k i3 r3 (by omega) (by omega) (hsp.tr k1) (hsr.tr k2) ((frv_n hP).symm.trans heq)
          · have hP : (farb kd n x c) (k + 1) = true := by unfold farb; rw [decide_eq_true hx0, decide_eq_true (p := needv kd n x (k + 1) c ≠ -1) (fun h => c_4 (k0.trans h))]; rfl
            refine z_iload_n C (pc := 23) dX3_farthest_23 rfl ?_
            refine z_iret C (pc := 24) (i3, r3) dX3_farthest_24 ?_ rfl
            exact ⟨by rw [← heq, frv_s hP], hsp.tr k1, hsr.tr k2⟩
  refine z_lv (lv' := [(0, .ref (a 0)), (1, .int (nI x)), (2, .ref (a 7)), (3, .int (nI 6))]) ⟨rfl, rfl, rfl, rfl, trivial⟩ ?_
  exact key3 (_ + 1) 6 i r (Nat.lt_succ_self _) (Nat.le_refl _) SP.rf SR.rf rfl

set_option maxHeartbeats 4000000 in
set_option maxRecDepth 100000 in
theorem c_farthestW (l : Launch) (D : va_G) (cI : ClassId) (tt : Nat × Nat × Nat) (a : Nat → Nat) (i : Nat → Int32) (r : Nat → Nat → Int32) (kd : Nat → Nat) (n : Nat) (hv : PV i r kd n) (x : Nat) (hx : x < 2 ^ n) (c : Nat → Nat) (hc : ∀ k, k < 5 → r 13 k = nI (c k) ∧ c k ≤ 9) : MetI (S := ((Nat → Int32) × (Nat → Nat → Int32))) l yX3_farthest cX3_farthest 4 (some .int) (rm 5 117) D cI tt [.ref (a 0), .int (nI x), .ref (a 18)] (cW cI a i r) (fun q u => q = nI (farv kd n x c) ∧ SP i u.1 ∧ SR r u.2) (fun u => cW cI a u.1 u.2) := by
  have hn6 := hv.2.1
  have hx6 := pow_le6 hn6
  refine met_ofI (by decide) (Nat.le_of_ble_eq_true rfl) ?_
  intro pP eE sS mM aV bB mE cC AA C hin
  refine z_conv (lv' := [(0, .ref (a 0)), (1, .int (nI x)), (2, .ref (a 18))]) ⟨rfl, rfl, rfl, trivial⟩ rfl rfl ?_
  refine z_bipush C (pc := 0) (v := 6) dX3_farthest_0 (by decide) ?_
  refine z_istore_n C (pc := 2) (lv' := [(0, .ref (a 0)), (1, .int (nI x)), (2, .ref (a 18)), (3, .int 6)]) dX3_farthest_2 (Nat.le_of_ble_eq_true rfl) rfl rfl ?_
  have key3 : ∀ (fu3 : Nat) (st : Nat) (i' : Nat → Int32) (r' : Nat → Nat → Int32), st < fu3 → (st ≤ 6) → (SP i i') → (SR r r') → (frv (farb kd n x c) st = farv kd n x c) → Z pP l eE (rm 5 117) sS mM aV bB mE cC D AA 4 0 0 (MQ bB (va_Qi (S := ((Nat → Int32) × (Nat → Nat → Int32))) (fun q u => q = nI (farv kd n x c) ∧ SP i u.1 ∧ SR r u.2) (fun u t => va_P D vwCl ((fun u => cW cI a u.1 u.2) u) t.heap) AA) aV sS 0 0 AA) 3 [(0, .ref (a 0)), (1, .int (nI x)), (2, .ref (a 18)), (3, .int (nI st))] [] (cW cI a i' r') := by
    intro fu3
    induction fu3 with
    | zero => intro st i' r' hfu3; exact absurd hfu3 (Nat.not_lt_zero _)
    | succ fu3 ih3 =>
      intro st i' r' hfu3 hs6 hsp hsr heq
      refine z_iload_n C (pc := 3) dX3_farthest_3 rfl ?_
      refine z_iconst C (pc := 4) (v := 1) dX3_farthest_4 (by decide) ?_
      refine z_icmp_lt C (pc := 5) (tgt := 31) dX3_farthest_5 (by decide) (fun c_1 => ?_) (fun c_1 => ?_)
      · have h0 : st = 0 := by
          have := lt_of_nI (n := 1) (i_nle.mpr c_1) (by omega)
          omega
        subst h0
        refine z_iconst C (pc := 31) (v := 0) dX3_farthest_31 (by decide) ?_
        refine z_iret C (pc := 32) (i', r') dX3_farthest_32 ?_ rfl
        exact ⟨by rw [← heq]; rfl, hsp, hsr⟩
      · obtain ⟨k, rfl⟩ : ∃ k, st = k + 1 := ⟨st - 1, by have h0 : st ≠ 0 := (fun h => c_1 (by rw [h]; decide)); omega⟩
        have hv2 := hv.sp hsp hsr
        have hc2 : ∀ k, k < 5 → r' 13 k = nI (c k) ∧ c k ≤ 9 := fun k hk => ⟨(congrFun (hsr 13 (by decide)) k).trans (hc k hk).1, (hc k hk).2⟩
        refine z_iload_n C (pc := 8) dX3_farthest_8 rfl ?_
        refine z_if_eq C (pc := 9) (tgt := 25) dX3_farthest_9 (by decide) (fun c_2 => ?_) (fun c_2 => ?_)
        · have hx0 : x = 0 := nI_z (by omega) c_2
          have hP : (farb kd n x c) (k + 1) = false := by unfold farb; rw [decide_eq_false (fun h => h hx0)]; rfl
          refine z_iinc C (pc := 25) (v := ((nI (k + 1)) + (-1))) (lv' := [(0, .ref (a 0)), (1, .int (nI x)), (2, .ref (a 18)), (3, .int ((nI (k + 1)) + (-1)))]) dX3_farthest_25 rfl rfl (Nat.le_of_ble_eq_true rfl) rfl rfl ?_
          refine z_goto C (pc := 28) (tgt := 3) dX3_farthest_28 (by decide) ?_
          refine z_lv (lv' := [(0, .ref (a 0)), (1, .int (nI x)), (2, .ref (a 18)), (3, .int (nI k))]) ⟨rfl, rfl, rfl, lki (pk_m1 k), trivial⟩ ?_
          exact ih3 k i' r' (by omega) (by omega) hsp hsr ((frv_n hP).symm.trans heq)
        · have hx0 : x ≠ 0 := nI_nz c_2
          refine z_aload_n C (pc := 12) dX3_farthest_12 rfl ?_
          refine z_iload_n C (pc := 13) dX3_farthest_13 rfl ?_
          refine z_iload_n C (pc := 14) dX3_farthest_14 rfl ?_
          refine z_aload_n C (pc := 15) dX3_farthest_15 rfl ?_
          refine z_calliF C (by exact fun _ => cW_ad) (runV C (wc := (cW cI a i' r')) (pc := 16) (rY' := rm 4 92) (nn := 3) (As := [.int (nI x), .int (nI (k + 1)), .ref (a 18)]) (rest := []) (c_leastFoodW l D cI tt a i' r' kd n hv2 x (k + 1) hx hs6 c hc2) (full_hC _) (full_nd _) ⟨rfl, rfl, ⟨Nat.le_of_ble_eq_true rfl, Nat.le_of_ble_eq_true rfl⟩, Nat.le_of_ble_eq_true rfl, Nat.le_of_ble_eq_true rfl⟩ wl_X3_159 wm_X3_leastFood we_X3_leastFood wi_X3 wc_X3_leastFood (by decide +kernel) rfl 0 rfl rfl rfl rfl (Nat.le_of_ble_eq_true rfl) dX3_farthest_16) (fun q_3 u_3 h_3 => ?_)
          obtain ⟨i3, r3⟩ := u_3
          try dsimp only at h_3
          obtain ⟨k0, k1, k2⟩ := h_3
          refine z_ws (st' := [.int q_3]) (ws' := (cW cI a i3 r3)) rfl rfl ?_
          refine z_iconst C (pc := 19) (v := (-1)) dX3_farthest_19 (by decide) ?_
          refine z_icmp_eq C (pc := 20) (tgt := 25) dX3_farthest_20 (by decide) (fun c_4 => ?_) (fun c_4 => ?_)
          · have hP : (farb kd n x c) (k + 1) = false := by unfold farb; rw [decide_eq_false (p := needv kd n x (k + 1) c ≠ -1) (fun h => h (k0 ▸ c_4)), Bool.and_false]
            refine z_iinc C (pc := 25) (v := ((nI (k + 1)) + (-1))) (lv' := [(0, .ref (a 0)), (1, .int (nI x)), (2, .ref (a 18)), (3, .int ((nI (k + 1)) + (-1)))]) dX3_farthest_25 rfl rfl (Nat.le_of_ble_eq_true rfl) rfl rfl ?_
            refine z_goto C (pc := 28) (tgt := 3) dX3_farthest_28 (by decide) ?_
            refine z_lv (lv' := [(0, .ref (a 0)), (1, .int (nI x)), (2, .ref (a 18)), (3, .int (nI k))]) ⟨rfl, rfl, rfl, lki (pk_m1 k), trivial⟩ ?_
            exact ih3 k i3 r3 (by omega) (by omega) (hsp.tr k1) (hsr.tr k2) ((frv_n hP).symm.trans heq)
          · have hP : (farb kd n x c) (k + 1) = true := by unfold farb; rw [decide_eq_true hx0, decide_eq_true (p := needv kd n x (k + 1) c ≠ -1) (fun h => c_4 (k0.trans h))]; rfl
            refine z_iload_n C (pc := 23) dX3_farthest_23 rfl ?_
            refine z_iret C (pc := 24) (i3, r3) dX3_farthest_24 ?_ rfl
            exact ⟨by rw [← heq, frv_s hP], hsp.tr k1, hsr.tr k2⟩
  refine z_lv (lv' := [(0, .ref (a 0)), (1, .int (nI x)), (2, .ref (a 18)), (3, .int (nI 6))]) ⟨rfl, rfl, rfl, rfl, trivial⟩ ?_
  exact key3 (_ + 1) 6 i r (Nat.lt_succ_self _) (Nat.le_refl _) SP.rf SR.rf rfl

set_option maxHeartbeats 4000000 in
set_option maxRecDepth 100000 in
theorem c_fewest (l : Launch) (D : va_G) (cI : ClassId) (tt : Nat × Nat × Nat) (a : Nat → Nat) (i : Nat → Int32) (r : Nat → Nat → Int32) (kd : Nat → Nat) (n : Nat) (hv : PV i r kd n) (al st : Nat) (hal : i 10 = nI al) (hst : st ≤ 6) (c : Nat → Nat) (hc : ∀ k, k < 5 → r 3 k = nI (c k) ∧ c k ≤ 9) : MetI (S := ((Nat → Int32) × (Nat → Nat → Int32))) l yX3_fewest cX3_fewest 6 (some .int) (rm 5 117) D cI tt [.ref (a 0), .int (nI st)] (cW cI a i r) (fun q u => q = teamv kd n al st c ∧ SP i u.1 ∧ SR r u.2) (fun u => cW cI a u.1 u.2) := by
  have hn6 := hv.2.1
  have hx6 := pow_le6 hn6
  refine met_ofI (by decide) (Nat.le_of_ble_eq_true rfl) ?_
  intro pP eE sS mM aV bB mE cC AA C hin
  refine z_conv (lv' := [(0, .ref (a 0)), (1, .int (nI st))]) ⟨rfl, rfl, trivial⟩ rfl rfl ?_
  refine z_iconst C (pc := 0) (v := (-1)) dX3_fewest_0 (by decide) ?_
  refine z_istore_n C (pc := 1) (lv' := [(0, .ref (a 0)), (1, .int (nI st)), (2, .int (-1))]) dX3_fewest_1 (Nat.le_of_ble_eq_true rfl) rfl rfl ?_
  refine z_bipush C (pc := 2) (v := 7) dX3_fewest_2 (by decide) ?_
  refine z_istore_n C (pc := 4) (lv' := [(0, .ref (a 0)), (1, .int (nI st)), (2, .int (-1)), (3, .int 7)]) dX3_fewest_4 (Nat.le_of_ble_eq_true rfl) rfl rfl ?_
  refine z_iconst C (pc := 5) (v := 1) dX3_fewest_5 (by decide) ?_
  refine z_istore C (pc := 6) (lv' := [(0, .ref (a 0)), (1, .int (nI st)), (2, .int (-1)), (3, .int 7), (4, .int 1)]) dX3_fewest_6 (Nat.le_of_ble_eq_true rfl) rfl rfl ?_
  have key8 : ∀ (fu8 : Nat) (s : Nat) (i' : Nat → Int32) (r' : Nat → Nat → Int32), 2 ^ n - s < fu8 → (s ≤ 2 ^ n - 1) → (SP i i') → (SR r r') → Z pP l eE (rm 5 117) sS mM aV bB mE cC D AA 6 0 0 (MQ bB (va_Qi (S := ((Nat → Int32) × (Nat → Nat → Int32))) (fun q u => q = teamv kd n al st c ∧ SP i u.1 ∧ SR r u.2) (fun u t => va_P D vwCl ((fun u => cW cI a u.1 u.2) u) t.heap) AA) aV sS 0 0 AA) 8 [(0, .ref (a 0)), (1, .int (nI st)), (2, .int (noneI (tmv (okb kd n al st c) s).1)), (3, .int (nI (tmv (okb kd n al st c) s).2)), (4, .int (nI (s + 1)))] [] (cW cI a i' r') := by
    intro fu8
    induction fu8 with
    | zero => intro s i' r' hfu8; exact absurd hfu8 (Nat.not_lt_zero _)
    | succ fu8 ih8 =>
      intro s i' r' hfu8 hsm hsp hsr
      refine z_iload C (pc := 8) dX3_fewest_8 rfl ?_
      refine z_aload_n C (pc := 10) dX3_fewest_10 rfl ?_
      have hv2 := hv.sp hsp hsr
      refine z_get C (pc := 11) 0 rfl rfl wf_X3 1 (by decide) rfl wl_X3_19 (v := .ref (a 3)) rfl dX3_fewest_11 ?_
      refine z_calliF C (by exact fun _ => cW_ad) (runVN C (wc := (cW cI a i' r')) (pc := 14) (rY' := rm 0 0) (nn := 0) (As := []) (rest := [.int (nI (s + 1))]) (c_all l D cI tt a i' r' n hv2.1 hn6) (full_hC _) (full_nd _) ⟨rfl, rfl, ⟨Nat.le_of_ble_eq_true rfl, Nat.le_of_ble_eq_true rfl⟩, Nat.le_of_ble_eq_true rfl, Nat.le_of_ble_eq_true rfl⟩ wl_X3_70 wm_X1_all we_X1_all wi_X1 wc_X1_all (by decide +kernel) rfl 3 rfl rfl rfl rfl (Nat.le_of_ble_eq_true rfl) dX3_fewest_14) (fun q_1 u_1 h_1 => ?_)
      subst h_1
      refine z_ws (st' := [.int (nI (2 ^ n - 1)), .int (nI (s + 1))]) (ws' := (cW cI a i' r')) rfl rfl ?_
      refine z_icmp_gt C (pc := 17) (tgt := 83) dX3_fewest_17 (by decide) (fun c_2 => ?_) (fun c_2 => ?_)
      · refine z_iload_n C (pc := 83) dX3_fewest_83 rfl ?_
        refine z_iret C (pc := 84) (i', r') dX3_fewest_84 ?_ rfl
        have hse : s = 2 ^ n - 1 := by
          have := Nat.lt_of_not_le (fun h => nI_nlt (a := 2 ^ n - 1) (b := s + 1) h (by omega) c_2)
          omega
        subst hse
        exact ⟨rfl, hsp, hsr⟩
      · have hsl : s + 1 ≤ 2 ^ n - 1 := Nat.le_of_not_lt (fun h => c_2 (nI_lt h (by omega)))
        have hx : s + 1 < 2 ^ n := by omega
        have hc2 : ∀ k, k < 5 → r' 3 k = nI (c k) ∧ c k ≤ 9 := fun k hk => ⟨(congrFun (hsr 3 (by decide)) k).trans (hc k hk).1, (hc k hk).2⟩
        have hal2 : i' 10 = nI al := (hsp 10 (by omega)).trans hal
        refine z_aload_n C (pc := 20) dX3_fewest_20 rfl ?_
        refine z_iload C (pc := 21) dX3_fewest_21 rfl ?_
        refine z_calliF C (by exact fun _ => cW_ad) (runV C (wc := (cW cI a i' r')) (pc := 23) (rY' := rm 0 0) (nn := 1) (As := [.int (nI (s + 1))]) (rest := []) (c_anyIsDead l D cI tt a i' r' (nI (s + 1))) (full_hC _) (full_nd _) ⟨rfl, rfl, ⟨Nat.le_of_ble_eq_true rfl, Nat.le_of_ble_eq_true rfl⟩, Nat.le_of_ble_eq_true rfl, Nat.le_of_ble_eq_true rfl⟩ wl_X3_121 wm_X3_anyIsDead we_X3_anyIsDead wi_X3 wc_X3_anyIsDead (by decide +kernel) rfl 0 rfl rfl rfl rfl (Nat.le_of_ble_eq_true rfl) dX3_fewest_23) (fun q_3 u_3 h_3 => ?_)
        refine z_ws (st' := [.int q_3]) (ws' := (cW cI a i' r')) rfl rfl ?_
        refine z_if_ne C (pc := 26) (tgt := 42) dX3_fewest_26 (by decide) (fun c_4 => ?_) (fun c_4 => ?_)
        · have hno : ¬ (okb kd n al st c (s + 1) = true ∧ pcn (s + 1) < (tmv (okb kd n al st c) s).2) := fun h => by
            have h1 := b2_t (h_3 ▸ c_4)
            rw [hal2] at h1
            have h2 := h.1
            unfold okb at h2
            rw [decide_eq_false (of_decide_eq_true h1)] at h2
            exact absurd h2 (by simp)
          refine z_iconst C (pc := 42) (v := 0) dX3_fewest_42 (by decide) ?_
          refine z_istore C (pc := 43) (lv' := [(0, .ref (a 0)), (1, .int (nI st)), (2, .int (noneI (tmv (okb kd n al st c) s).1)), (3, .int (nI (tmv (okb kd n al st c) s).2)), (4, .int (nI (s + 1))), (5, .int 0)]) dX3_fewest_43 (Nat.le_of_ble_eq_true rfl) rfl rfl ?_
          refine z_iload C (pc := 45) dX3_fewest_45 rfl ?_
          refine z_if_eq C (pc := 47) (tgt := 77) dX3_fewest_47 (by decide) (fun c_5 => ?_) (fun c_5 => ?_)
          · refine z_iinc C (pc := 77) (v := ((nI (s + 1)) + 1)) (lv' := [(0, .ref (a 0)), (1, .int (nI st)), (2, .int (noneI (tmv (okb kd n al st c) s).1)), (3, .int (nI (tmv (okb kd n al st c) s).2)), (4, .int ((nI (s + 1)) + 1)), (5, .int 0)]) dX3_fewest_77 rfl rfl (Nat.le_of_ble_eq_true rfl) rfl rfl ?_
            refine z_goto C (pc := 80) (tgt := 8) dX3_fewest_80 (by decide) ?_
            refine z_lv (lv' := [(0, .ref (a 0)), (1, .int (nI st)), (2, .int (noneI (tmv (okb kd n al st c) (s + 1)).1)), (3, .int (nI (tmv (okb kd n al st c) (s + 1)).2)), (4, .int (nI ((s + 1) + 1)))]) ⟨rfl, rfl, lki (by rw [tmv_n hno]), lki (by rw [tmv_n hno]), lki (nI_1 _), trivial⟩ ?_
            exact ih8 (s + 1) i' r' (by omega) hsl hsp hsr
          · exact absurd c_5 (by decide)
        · have hda : deadv (nI (s + 1)) (nI al) = 0 := by
            have h1 := b2_f (h_3 ▸ c_4)
            rw [hal2] at h1
            exact Classical.not_not.mp (of_decide_eq_false h1)
          refine z_iload C (pc := 29) dX3_fewest_29 rfl ?_
          refine z_calli C (isC := []) rfl (by exact fun _ => rfl) (runS C (wc := []) (pc := 31) (rY' := rm 0 0) (nn := 1) (As := [.int (nI (s + 1))]) (rest := []) (c_bitCount l D cI tt (nI (s + 1))) rfl rfl ⟨rfl, rfl, ⟨Nat.le_of_ble_eq_true rfl, Nat.le_of_ble_eq_true rfl⟩, Nat.le_of_ble_eq_true rfl, Nat.le_of_ble_eq_true rfl⟩ wl_X3_187 ws_J6_bitCount_0f7a4 wi_J6 wc_J6_bitCount_0f7a4 (by decide +kernel) rfl rfl (Nat.le_of_ble_eq_true rfl) dX3_fewest_31) (fun r_6 u_6 h_6 => ?_)
          have h_6 : r_6 = nI (pcn (s + 1)) := h_6.trans (bc_pcn _ (by omega))
          subst h_6
          refine z_ws (st' := [.int (nI (pcn (s + 1)))]) (ws' := (cW cI a i' r')) rfl rfl ?_
          refine z_iload_n C (pc := 34) dX3_fewest_34 rfl ?_
          refine z_icmp_ge C (pc := 35) (tgt := 42) dX3_fewest_35 (by decide) (fun c_7 => ?_) (fun c_7 => ?_)
          · have hno : ¬ (okb kd n al st c (s + 1) = true ∧ pcn (s + 1) < (tmv (okb kd n al st c) s).2) := fun h => nI_ge h.2 (by have := tmv_7 (okb kd n al st c) s; omega) c_7
            refine z_iconst C (pc := 42) (v := 0) dX3_fewest_42 (by decide) ?_
            refine z_istore C (pc := 43) (lv' := [(0, .ref (a 0)), (1, .int (nI st)), (2, .int (noneI (tmv (okb kd n al st c) s).1)), (3, .int (nI (tmv (okb kd n al st c) s).2)), (4, .int (nI (s + 1))), (5, .int 0)]) dX3_fewest_43 (Nat.le_of_ble_eq_true rfl) rfl rfl ?_
            refine z_iload C (pc := 45) dX3_fewest_45 rfl ?_
            refine z_if_eq C (pc := 47) (tgt := 77) dX3_fewest_47 (by decide) (fun c_8 => ?_) (fun c_8 => ?_)
            · refine z_iinc C (pc := 77) (v := ((nI (s + 1)) + 1)) (lv' := [(0, .ref (a 0)), (1, .int (nI st)), (2, .int (noneI (tmv (okb kd n al st c) s).1)), (3, .int (nI (tmv (okb kd n al st c) s).2)), (4, .int ((nI (s + 1)) + 1)), (5, .int 0)]) dX3_fewest_77 rfl rfl (Nat.le_of_ble_eq_true rfl) rfl rfl ?_
              refine z_goto C (pc := 80) (tgt := 8) dX3_fewest_80 (by decide) ?_
              refine z_lv (lv' := [(0, .ref (a 0)), (1, .int (nI st)), (2, .int (noneI (tmv (okb kd n al st c) (s + 1)).1)), (3, .int (nI (tmv (okb kd n al st c) (s + 1)).2)), (4, .int (nI ((s + 1) + 1)))]) ⟨rfl, rfl, lki (by rw [tmv_n hno]), lki (by rw [tmv_n hno]), lki (nI_1 _), trivial⟩ ?_
              exact ih8 (s + 1) i' r' (by omega) hsl hsp hsr
            · exact absurd c_8 (by decide)
          · have hpc : pcn (s + 1) < (tmv (okb kd n al st c) s).2 := lt_of_nI c_7 (by have := pcn_le (s + 1); omega)
            refine z_iconst C (pc := 38) (v := 1) dX3_fewest_38 (by decide) ?_
            refine z_goto C (pc := 39) (tgt := 43) dX3_fewest_39 (by decide) ?_
            refine z_istore C (pc := 43) (lv' := [(0, .ref (a 0)), (1, .int (nI st)), (2, .int (noneI (tmv (okb kd n al st c) s).1)), (3, .int (nI (tmv (okb kd n al st c) s).2)), (4, .int (nI (s + 1))), (5, .int 1)]) dX3_fewest_43 (Nat.le_of_ble_eq_true rfl) rfl rfl ?_
            refine z_iload C (pc := 45) dX3_fewest_45 rfl ?_
            refine z_if_eq C (pc := 47) (tgt := 77) dX3_fewest_47 (by decide) (fun c_9 => ?_) (fun c_9 => ?_)
            · exact absurd c_9 (by decide)
            · refine z_aload_n C (pc := 50) dX3_fewest_50 rfl ?_
              refine z_iload C (pc := 51) dX3_fewest_51 rfl ?_
              refine z_iload_n C (pc := 53) dX3_fewest_53 rfl ?_
              refine z_aload_n C (pc := 54) dX3_fewest_54 rfl ?_
              refine z_get C (pc := 55) 0 rfl rfl wf_X3 2 (by decide) rfl wl_X3_26 (v := .ref (a 6)) rfl dX3_fewest_55 ?_
              refine z_getN C (pc := 58) 6 rfl rfl wf_X2 1 (by decide) rfl wl_X3_77 (v := .ref (a 7)) rfl dX3_fewest_58 ?_
              refine z_calliF C (by exact fun _ => cW_ad) (runV C (wc := (cW cI a i' r')) (pc := 61) (rY' := rm 4 92) (nn := 3) (As := [.int (nI (s + 1)), .int (nI st), .ref (a 7)]) (rest := []) (c_leastFoodN l D cI tt a i' r' kd n hv2 (s + 1) st hx hst c hc2) (full_hC _) (full_nd _) ⟨rfl, rfl, ⟨Nat.le_of_ble_eq_true rfl, Nat.le_of_ble_eq_true rfl⟩, Nat.le_of_ble_eq_true rfl, Nat.le_of_ble_eq_true rfl⟩ wl_X3_159 wm_X3_leastFood we_X3_leastFood wi_X3 wc_X3_leastFood (by decide +kernel) rfl 0 rfl rfl rfl rfl (Nat.le_of_ble_eq_true rfl) dX3_fewest_61) (fun q_10 u_10 h_10 => ?_)
              obtain ⟨i10, r10⟩ := u_10
              try dsimp only at h_10
              obtain ⟨k0, k1, k2⟩ := h_10
              refine z_ws (st' := [.int q_10]) (ws' := (cW cI a i10 r10)) rfl rfl ?_
              refine z_iconst C (pc := 64) (v := (-1)) dX3_fewest_64 (by decide) ?_
              refine z_icmp_eq C (pc := 65) (tgt := 77) dX3_fewest_65 (by decide) (fun c_11 => ?_) (fun c_11 => ?_)
              · have hno : ¬ (okb kd n al st c (s + 1) = true ∧ pcn (s + 1) < (tmv (okb kd n al st c) s).2) := fun h => by
                  have h2 := h.1
                  unfold okb at h2
                  rw [decide_eq_false (p := needv kd n (s + 1) st c ≠ -1) (fun h => h (k0 ▸ c_11)), Bool.and_false] at h2
                  exact absurd h2 (by decide)
                refine z_iinc C (pc := 77) (v := ((nI (s + 1)) + 1)) (lv' := [(0, .ref (a 0)), (1, .int (nI st)), (2, .int (noneI (tmv (okb kd n al st c) s).1)), (3, .int (nI (tmv (okb kd n al st c) s).2)), (4, .int ((nI (s + 1)) + 1)), (5, .int 1)]) dX3_fewest_77 rfl rfl (Nat.le_of_ble_eq_true rfl) rfl rfl ?_
                refine z_goto C (pc := 80) (tgt := 8) dX3_fewest_80 (by decide) ?_
                refine z_lv (lv' := [(0, .ref (a 0)), (1, .int (nI st)), (2, .int (noneI (tmv (okb kd n al st c) (s + 1)).1)), (3, .int (nI (tmv (okb kd n al st c) (s + 1)).2)), (4, .int (nI ((s + 1) + 1)))]) ⟨rfl, rfl, lki (by rw [tmv_n hno]), lki (by rw [tmv_n hno]), lki (nI_1 _), trivial⟩ ?_
                exact ih8 (s + 1) i10 r10 (by omega) hsl (hsp.tr k1) (hsr.tr k2)
              · have hok : okb kd n al st c (s + 1) = true ∧ pcn (s + 1) < (tmv (okb kd n al st c) s).2 := ⟨by unfold okb; rw [decide_eq_true hda, decide_eq_true (p := needv kd n (s + 1) st c ≠ -1) (fun h => c_11 (k0.trans h))]; rfl, hpc⟩
                refine z_iload C (pc := 68) dX3_fewest_68 rfl ?_
                refine z_istore_n C (pc := 70) (lv' := [(0, .ref (a 0)), (1, .int (nI st)), (2, .int (nI (s + 1))), (3, .int (nI (tmv (okb kd n al st c) s).2)), (4, .int (nI (s + 1))), (5, .int 1)]) dX3_fewest_70 (Nat.le_of_ble_eq_true rfl) rfl rfl ?_
                refine z_iload C (pc := 71) dX3_fewest_71 rfl ?_
                refine z_calli C (isC := []) rfl (by exact fun _ => rfl) (runS C (wc := []) (pc := 73) (rY' := rm 0 0) (nn := 1) (As := [.int (nI (s + 1))]) (rest := []) (c_bitCount l D cI tt (nI (s + 1))) rfl rfl ⟨rfl, rfl, ⟨Nat.le_of_ble_eq_true rfl, Nat.le_of_ble_eq_true rfl⟩, Nat.le_of_ble_eq_true rfl, Nat.le_of_ble_eq_true rfl⟩ wl_X3_187 ws_J6_bitCount_0f7a4 wi_J6 wc_J6_bitCount_0f7a4 (by decide +kernel) rfl rfl (Nat.le_of_ble_eq_true rfl) dX3_fewest_73) (fun r_12 u_12 h_12 => ?_)
                have h_12 : r_12 = nI (pcn (s + 1)) := h_12.trans (bc_pcn _ (by omega))
                subst h_12
                refine z_ws (st' := [.int (nI (pcn (s + 1)))]) (ws' := (cW cI a i10 r10)) rfl rfl ?_
                refine z_istore_n C (pc := 76) (lv' := [(0, .ref (a 0)), (1, .int (nI st)), (2, .int (nI (s + 1))), (3, .int (nI (pcn (s + 1)))), (4, .int (nI (s + 1))), (5, .int 1)]) dX3_fewest_76 (Nat.le_of_ble_eq_true rfl) rfl rfl ?_
                refine z_iinc C (pc := 77) (v := ((nI (s + 1)) + 1)) (lv' := [(0, .ref (a 0)), (1, .int (nI st)), (2, .int (nI (s + 1))), (3, .int (nI (pcn (s + 1)))), (4, .int ((nI (s + 1)) + 1)), (5, .int 1)]) dX3_fewest_77 rfl rfl (Nat.le_of_ble_eq_true rfl) rfl rfl ?_
                refine z_goto C (pc := 80) (tgt := 8) dX3_fewest_80 (by decide) ?_
                refine z_lv (lv' := [(0, .ref (a 0)), (1, .int (nI st)), (2, .int (noneI (tmv (okb kd n al st c) (s + 1)).1)), (3, .int (nI (tmv (okb kd n al st c) (s + 1)).2)), (4, .int (nI ((s + 1) + 1)))]) ⟨rfl, rfl, lki (by rw [tmv_s hok]; exact (noneI_s (by omega)).symm), lki (by rw [tmv_s hok]), lki (nI_1 _), trivial⟩ ?_
                exact ih8 (s + 1) i10 r10 (by omega) hsl (hsp.tr k1) (hsr.tr k2)
  refine z_lv (lv' := [(0, .ref (a 0)), (1, .int (nI st)), (2, .int (noneI (tmv (okb kd n al st c) 0).1)), (3, .int (nI (tmv (okb kd n al st c) 0).2)), (4, .int (nI (0 + 1)))]) ⟨rfl, rfl, rfl, rfl, rfl, trivial⟩ ?_
  exact key8 (_ + 1) 0 i r (Nat.lt_succ_self _) (Nat.zero_le _) SP.rf SR.rf
