theorem need_ne {x : Int32} (h : ¬ x = -1) : decide (x ≠ -1) = true := decide_eq_true h
theorem frv_s {P : Nat → Bool} {s : Nat} (h : P (s + 1) = true) : frv P (s + 1) = s + 1 := by show (if _ then _ else _) = _; rw [if_pos h]
theorem frv_n {P : Nat → Bool} {s : Nat} (h : P (s + 1) = false) : frv P (s + 1) = frv P s := by show (if _ then _ else _) = _; rw [if_neg (by rw [h]; decide)]
theorem tmv_s {ok : Nat → Bool} {s : Nat} (h : ok (s + 1) = true ∧ pcn (s + 1) < (tmv ok s).2) : tmv ok (s + 1) = (s + 1, pcn (s + 1)) := by show (if _ then _ else _) = _; rw [if_pos h]
theorem tmv_n {ok : Nat → Bool} {s : Nat} (h : ¬ (ok (s + 1) = true ∧ pcn (s + 1) < (tmv ok s).2)) : tmv ok (s + 1) = tmv ok s := by show (if _ then _ else _) = _; rw [if_neg h]
theorem noneI_s {b : Nat} (h : b ≠ 0) : noneI b = nI b := if_neg h
theorem lt_nI_of {x y : Nat} (hx : x < 2 ^ 31) (hy : y < 2 ^ 31) : nI x < nI y ↔ x < y := nI_ltI hx hy
set_option maxHeartbeats 4000000 in
set_option maxRecDepth 100000 in
theorem c_farthestN (l : Launch) (D : va_G) (cI : ClassId) (tt : Nat × Nat × Nat) (a : Nat → Nat) (i : Nat → Int32) (r : Nat → Nat → Int32) (kd : Nat → Nat) (n : Nat) (hv : PV i r kd n) (x : Nat) (hx : x < 2 ^ n) (c : Nat → Nat) (hc : ∀ k, k < 5 → r 3 k = nI (c k) ∧ c k ≤ 9) : MetI (S := ((Nat → Int32) × (Nat → Nat → Int32))) l yX3_farthest cX3_farthest 4 (some .int) (rm 5 117) D cI tt [.ref (a 0), .int (nI x), .ref (a 7)] (cW cI a i r) (fun q u => q = nI (farv kd n x c) ∧ SP i u.1 ∧ SR r u.2) (fun u => cW cI a u.1 u.2) := by
  have hn6 := hv.2.1
  have hx6 := pow_le6 hn6
  refine met_ofI (by decide) (Nat.le_of_ble_eq_true rfl) ?_
  intro pP eE sS mM aV bB mE cC AA C hin
  refine z_conv (lv' := [(0, .ref (a 0)), (1, .int (nI x)), (2, .ref (a 7))]) ⟨rfl, rfl, rfl, trivial⟩ rfl rfl ?_
  refine z_bipush C (pc := 0) (v := 6) dX3_farthest_0 (by decide) ?_
  refine z_istore_n C (pc := 2) (lv' := [(0, .ref (a 0)), (1, .int (nI x)), (2, .ref (a 7)), (3, .int 6)]) dX3_farthest_2 (Nat.le_of_ble_eq_true rfl) rfl rfl ?_
  have key3 : ∀ (fu3 : Nat) (st : Nat) (i' : Nat → Int32) (r' : Nat → Nat → Int32), st < fu3 → (st ≤ 6) → (SP i i') → (SR r r') → (frv (farb kd n x c) st = farv kd n x c) → Z pP l eE (rm 5 117) sS mM aV bB mE cC D AA 4 0 0 (MQ bB (va_Qi (S := ((Nat → Int32) × (Nat → Nat → Int32))) (fun q u => q = nI (farv kd n x c) ∧ SP i u.1 ∧ SR r u.2) (fun u t => va_P D vwCl ((fun u => cW cI a u.1 u.2) u) t.heap) AA) aV sS 0 0 AA) 3 [(0, .ref (a 0)), (1, .int (nI x)), (2, .ref (a 7)), (3, .int (nI st))] [] (cW cI a i' r') := by
    intro fu3
    induction fu3 with
    | zero => intro st i' r' hfu3; exact absurd hfu3 (Nat.not_lt_zero _)
    | succ fu3 ih3 =>
      intro st i' r' hfu3 hs6 hsp hsr heq
      refine z_iload_n C (pc := 3) dX3_farthest_3 rfl ?_
      refine z_iconst C (pc := 4) (v := 1) dX3_farthest_4 (by decide) ?_
      refine z_icmp_lt C (pc := 5) (tgt := 31) dX3_farthest_5 (by decide) (fun c_1 => ?_) (fun c_1 => ?_)
      · have h0 : st = 0 := by
          have := lt_of_nI (n := 1) (i_nle.mpr c_1) (by omega)
          omega
        subst h0
        refine z_iconst C (pc := 31) (v := 0) dX3_farthest_31 (by decide) ?_
        refine z_iret C (pc := 32) (i', r') dX3_farthest_32 ?_ rfl
        exact ⟨by rw [← heq]; rfl, hsp, hsr⟩
      · obtain ⟨k, rfl⟩ : ∃ k, st = k + 1 := ⟨st - 1, by have h0 : st ≠ 0 := (fun h => c_1 (by rw [h]; decide)); omega⟩
        have hv2 := hv.sp hsp hsr
        have hc2 : ∀ k, k < 5 → r' 3 k = nI (c k) ∧ c k ≤ 9 := fun k hk => ⟨(congrFun (hsr 3 (by decide)) k).trans (hc k hk).1, (hc k hk).2⟩
        refine z_iload_n C (pc := 8) dX3_farthest_8 rfl ?_
        refine z_if_eq C (pc := 9) (tgt := 25) dX3_farthest_9 (by decide) (fun c_2 => ?_) (fun c_2 => ?_)
        · have hx0 : x = 0 := nI_z (by omega) c_2
          have hP : (farb kd n x c) (k + 1) = false := by unfold farb; rw [decide_eq_false (fun h => h hx0)]; rfl
          refine z_iinc C (pc := 25) (v := ((nI (k + 1)) + (-1))) (lv' := [(0, .ref (a 0)), (1, .int (nI x)), (2, .ref (a 7)), (3, .int ((nI (k + 1)) + (-1)))]) dX3_farthest_25 rfl rfl (Nat.le_of_ble_eq_true rfl) rfl rfl ?_
          refine z_goto C (pc := 28) (tgt := 3) dX3_farthest_28 (by decide) ?_
          refine z_lv (lv' := [(0, .ref (a 0)), (1, .int (nI x)), (2, .ref (a 7)), (3, .int (nI k))]) ⟨rfl, rfl, rfl, lki (pk_m1 k), trivial⟩ ?_
          exact ih3 k i' r' (by omega) (by omega) hsp hsr ((frv_n hP).symm.trans heq)
        · have hx0 : x ≠ 0 := nI_nz c_2
          refine z_aload_n C (pc := 12) dX3_farthest_12 rfl ?_
          refine z_iload_n C (pc := 13) dX3_farthest_13 rfl ?_
          refine z_iload_n C (pc := 14) dX3_farthest_14 rfl ?_
          refine z_aload_n C (pc := 15) dX3_farthest_15 rfl ?_
          refine z_calliF C (by exact fun _ => cW_ad) (runV C (wc := (cW cI a i' r')) (pc := 16) (rY' := rm 4 92) (nn := 3) (As := [.int (nI x), .int (nI (k + 1)), .ref (a 7)]) (rest := []) (c_leastFoodN l D cI tt a i' r' kd n hv2 x (k + 1) hx hs6 c hc2) (full_hC _) (full_nd _) ⟨rfl, rfl, ⟨Nat.le_of_ble_eq_true rfl, Nat.le_of_ble_eq_true rfl⟩, Nat.le_of_ble_eq_true rfl, Nat.le_of_ble_eq_true rfl⟩ wl_X3_159 wm_X3_leastFood we_X3_leastFood wi_X3 wc_X3_leastFood (by decide +kernel) rfl 0 rfl rfl rfl rfl (Nat.le_of_ble_eq_true rfl) dX3_farthest_16) (fun q_3 u_3 h_3 => ?_)
          obtain ⟨i3, r3⟩ := u_3
          try dsimp only at h_3
          obtain ⟨k0, k1, k2⟩ := h_3
          refine z_ws (st' := [.int q_3]) (ws' := (cW cI a i3 r3)) rfl rfl ?_
          refine z_iconst C (pc := 19) (v := (-1)) dX3_farthest_19 (by decide) ?_
          refine z_icmp_eq C (pc := 20) (tgt := 25) dX3_farthest_20 (by decide) (fun c_4 => ?_) (fun c_4 => ?_)
          · have hP : (farb kd n x c) (k + 1) = false := by unfold farb; rw [decide_eq_false (p := needv kd n x (k + 1) c ≠ -1) (fun h => h (k0 ▸ c_4)), Bool.and_false]
            refine z_iinc C (pc := 25) (v := ((nI (k + 1)) + (-1))) (lv' := [(0, .ref (a 0)), (1, .int (nI x)), (2, .ref (a 7)), (3, .int ((nI (k + 1)) + (-1)))]) dX3_farthest_25 rfl rfl (Nat.le_of_ble_eq_true rfl) rfl rfl ?_
            refine z_goto C (pc := 28) (tgt := 3) dX3_farthest_28 (by decide) ?_
            refine z_lv (lv' := [(0, .ref (a 0)), (1, .int (nI x)), (2, .ref (a 7)), (3, .int (nI k))]) ⟨rfl, rfl, rfl, lki (pk_m1 k), trivial⟩ ?_
            exact ih3 k i3 r3 (by omega) (by omega) (hsp.tr k1) (hsr.tr k2) ((frv_n hP).symm.trans heq)
          · have hP : (farb kd n x c) (k + 1) = true := by unfold farb; rw [decide_eq_true hx0, decide_eq_true (p := needv kd n x (k + 1) c ≠ -1) (fun h => c_4 (k0.trans h))]; rfl
            refine z_iload_n C (pc := 23) dX3_farthest_23 rfl ?_
            refine z_iret C (pc := 24) (i3, r3) dX3_farthest_24 ?_ rfl
            exact ⟨by rw [← heq, frv_s hP], hsp.tr k1, hsr.tr k2⟩
  refine z_lv (lv' := [(0, .ref (a 0)), (1, .int (nI x)), (2, .ref (a 7)), (3, .int (nI 6))]) ⟨rfl, rfl, rfl, rfl, trivial⟩ ?_
  exact key3 (_ + 1) 6 i r (Nat.lt_succ_self _) (Nat.le_refl _) SP.rf SR.rf rfl

set_option maxHeartbeats 4000000 in
set_option maxRecDepth 100000 in
theorem c_farthestW (l : Launch) (D : va_G) (cI : ClassId) (tt : Nat × Nat × Nat) (a : Nat → Nat) (i : Nat → Int32) (r : Nat → Nat → Int32) (kd : Nat → Nat) (n : Nat) (hv : PV i r kd n) (x : Nat) (hx : x < 2 ^ n) (c : Nat → Nat) (hc : ∀ k, k < 5 → r 13 k = nI (c k) ∧ c k ≤ 9) : MetI (S := ((Nat → Int32) × (Nat → Nat → Int32))) l yX3_farthest cX3_farthest 4 (some .int) (rm 5 117) D cI tt [.ref (a 0), .int (nI x), .ref (a 18)] (cW cI a i r) (fun q u => q = nI (farv kd n x c) ∧ SP i u.1 ∧ SR r u.2) (fun u => cW cI a u.1 u.2) := by
  have hn6 := hv.2.1
  have hx6 := pow_le6 hn6
  refine met_ofI (by decide) (Nat.le_of_ble_eq_true rfl) ?_
  intro pP eE sS mM aV bB mE cC AA C hin
  refine z_conv (lv' := [(0, .ref (a 0)), (1, .int (nI x)), (2, .ref (a 18))]) ⟨rfl, rfl, rfl, trivial⟩ rfl rfl ?_
  refine z_bipush C (pc := 0) (v := 6) dX3_farthest_0 (by decide) ?_
  refine z_istore_n C (pc := 2) (lv' := [(0, .ref (a 0)), (1, .int (nI x)), (2, .ref (a 18)), (3, .int 6)]) dX3_farthest_2 (Nat.le_of_ble_eq_true rfl) rfl rfl ?_
  have key3 : ∀ (fu3 : Nat) (st : Nat) (i' : Nat → Int32) (r' : Nat → Nat → Int32), st < fu3 → (st ≤ 6) → (SP i i') → (SR r r') → (frv (farb kd n x c) st = farv kd n x c) → Z pP l eE (rm 5 117) sS mM aV bB mE cC D AA 4 0 0 (MQ bB (va_Qi (S := ((Nat → Int32) × (Nat → Nat → Int32))) (fun q u => q = nI (farv kd n x c) ∧ SP i u.1 ∧ SR r u.2) (fun u t => va_P D vwCl ((fun u => cW cI a u.1 u.2) u) t.heap) AA) aV sS 0 0 AA) 3 [(0, .ref (a 0)), (1, .int (nI x)), (2, .ref (a 18)), (3, .int (nI st))] [] (cW cI a i' r') := by
    intro fu3
    induction fu3 with
    | zero => intro st i' r' hfu3; exact absurd hfu3 (Nat.not_lt_zero _)
    | succ fu3 ih3 =>
      intro st i' r' hfu3 hs6 hsp hsr heq
      refine z_iload_n C (pc := 3) dX3_farthest_3 rfl ?_
      refine z_iconst C (pc := 4) (v := 1) dX3_farthest_4 (by decide) ?_
      refine z_icmp_lt C (pc := 5) (tgt := 31) dX3_farthest_5 (by decide) (fun c_1 => ?_) (fun c_1 => ?_)
      · have h0 : st = 0 := by
          have := lt_of_nI (n := 1) (i_nle.mpr c_1) (by omega)
          omega
        subst h0
        refine z_iconst C (pc := 31) (v := 0) dX3_farthest_31 (by decide) ?_
        refine z_iret C (pc := 32) (i', r') dX3_farthest_32 ?_ rfl
        exact ⟨by rw [← heq]; rfl, hsp, hsr⟩
      · obtain ⟨k, rfl⟩ : ∃ k, st = k + 1 := ⟨st - 1, by have h0 : st ≠ 0 := (fun h => c_1 (by rw [h]; decide)); omega⟩
        have hv2 := hv.sp hsp hsr
        have hc2 : ∀ k, k < 5 → r' 13 k = nI (c k) ∧ c k ≤ 9 := fun k hk => ⟨(congrFun (hsr 13 (by decide)) k).trans (hc k hk).1, (hc k hk).2⟩
        refine z_iload_n C (pc := 8) dX3_farthest_8 rfl ?_
        refine z_if_eq C (pc := 9) (tgt := 25) dX3_farthest_9 (by decide) (fun c_2 => ?_) (fun c_2 => ?_)
        · have hx0 : x = 0 := nI_z (by omega) c_2
          have hP : (farb kd n x c) (k + 1) = false := by unfold farb; rw [decide_eq_false (fun h => h hx0)]; rfl
          refine z_iinc C (pc := 25) (v := ((nI (k + 1)) + (-1))) (lv' := [(0, .ref (a 0)), (1, .int (nI x)), (2, .ref (a 18)), (3, .int ((nI (k + 1)) + (-1)))]) dX3_farthest_25 rfl rfl (Nat.le_of_ble_eq_true rfl) rfl rfl ?_
          refine z_goto C (pc := 28) (tgt := 3) dX3_farthest_28 (by decide) ?_
          refine z_lv (lv' := [(0, .ref (a 0)), (1, .int (nI x)), (2, .ref (a 18)), (3, .int (nI k))]) ⟨rfl, rfl, rfl, lki (pk_m1 k), trivial⟩ ?_
          exact ih3 k i' r' (by omega) (by omega) hsp hsr ((frv_n hP).symm.trans heq)
        · have hx0 : x ≠ 0 := nI_nz c_2
          refine z_aload_n C (pc := 12) dX3_farthest_12 rfl ?_
          refine z_iload_n C (pc := 13) dX3_farthest_13 rfl ?_
          refine z_iload_n C (pc := 14) dX3_farthest_14 rfl ?_
          refine z_aload_n C (pc := 15) dX3_farthest_15 rfl ?_
          refine z_calliF C (by exact fun _ => cW_ad) (runV C (wc := (cW cI a i' r')) (pc := 16) (rY' := rm 4 92) (nn := 3) (As := [.int (nI x), .int (nI (k + 1)), .ref (a 18)]) (rest := []) (c_leastFoodW l D cI tt a i' r' kd n hv2 x (k + 1) hx hs6 c hc2) (full_hC _) (full_nd _) ⟨rfl, rfl, ⟨Nat.le_of_ble_eq_true rfl, Nat.le_of_ble_eq_true rfl⟩, Nat.le_of_ble_eq_true rfl, Nat.le_of_ble_eq_true rfl⟩ wl_X3_159 wm_X3_leastFood we_X3_leastFood wi_X3 wc_X3_leastFood (by decide +kernel) rfl 0 rfl rfl rfl rfl (Nat.le_of_ble_eq_true rfl) dX3_farthest_16) (fun q_3 u_3 h_3 => ?_)
          obtain ⟨i3, r3⟩ := u_3
          try dsimp only at h_3
          obtain ⟨k0, k1, k2⟩ := h_3
          refine z_ws (st' := [.int q_3]) (ws' := (cW cI a i3 r3)) rfl rfl ?_
          refine z_iconst C (pc := 19) (v := (-1)) dX3_farthest_19 (by decide) ?_
          refine z_icmp_eq C (pc := 20) (tgt := 25) dX3_farthest_20 (by decide) (fun c_4 => ?_) (fun c_4 => ?_)
          · have hP : (farb kd n x c) (k + 1) = false := by unfold farb; rw [decide_eq_false (p := needv kd n x (k + 1) c ≠ -1) (fun h => h (k0 ▸ c_4)), Bool.and_false]
            refine z_iinc C (pc := 25) (v := ((nI (k + 1)) + (-1))) (lv' := [(0, .ref (a 0)), (1, .int (nI x)), (2, .ref (a 18)), (3, .int ((nI (k + 1)) + (-1)))]) dX3_farthest_25 rfl rfl (Nat.le_of_ble_eq_true rfl) rfl rfl ?_
            refine z_goto C (pc := 28) (tgt := 3) dX3_farthest_28 (by decide) ?_
            refine z_lv (lv' := [(0, .ref (a 0)), (1, .int (nI x)), (2, .ref (a 18)), (3, .int (nI k))]) ⟨rfl, rfl, rfl, lki (pk_m1 k), trivial⟩ ?_
            exact ih3 k i3 r3 (by omega) (by omega) (hsp.tr k1) (hsr.tr k2) ((frv_n hP).symm.trans heq)
          · have hP : (farb kd n x c) (k + 1) = true := by unfold farb; rw [decide_eq_true hx0, decide_eq_true (p := needv kd n x (k + 1) c ≠ -1) (fun h => c_4 (k0.trans h))]; rfl
            refine z_iload_n C (pc := 23) dX3_farthest_23 rfl ?_
            refine z_iret C (pc := 24) (i3, r3) dX3_farthest_24 ?_ rfl
            exact ⟨by rw [← heq, frv_s hP], hsp.tr k1, hsr.tr k2⟩
  refine z_lv (lv' := [(0, .ref (a 0)), (1, .int (nI x)), (2, .ref (a 18)), (3, .int (nI 6))]) ⟨rfl, rfl, rfl, rfl, trivial⟩ ?_
  exact key3 (_ + 1) 6 i r (Nat.lt_succ_self _) (Nat.le_refl _) SP.rf SR.rf rfl

