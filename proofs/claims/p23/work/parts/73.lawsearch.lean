/-! the law's searches -/
theorem run_alive1 {kd : Nat → Nat} {n st : Nat} {z : MS} (hz : z.2.2.2 = 0) : ∀ j, ((runv kd n st (j + 1) z).2.2.2 = 0 ↔ (runv kd n st (j + 1) z).1 ≠ 0)
  | 0 => by
    rw [run_s (j := 0) (by exact hz)]
    exact legv_alive (by decide)
  | j + 1 => by
    by_cases e : (runv kd n st (j + 1) z).2.2.2 = 0
    · rw [run_s e]; exact legv_alive (by omega)
    · have := runv_dead e 1
      rw [this]; exact run_alive1 hz j
theorem mar_alive {kd : Nat → Nat} {n x st f : Nat} {c : Nat → Nat} (h : 1 ≤ st) : ((marv kd n x st f c).2.2.2 = 0 ↔ (marv kd n x st f c).1 ≠ 0) := by
  have := run_alive1 (kd := kd) (n := n) (st := st) (z := (x, min f (sumk pls kd x n), c, 0)) rfl (2 * st - 1)
  rw [show 2 * st - 1 + 1 = 2 * st by omega] at this
  exact this
theorem ndv_s {Q : Nat → Bool} {m : Nat} (hm : m + 1 ≤ 41) : ndv Q (41 - m) m = if Q m = true then nI m else ndv Q (41 - (m + 1)) (m + 1) := by
  rw [show 41 - m = (41 - (m + 1)) + 1 by omega]
  rfl
theorem ndv_nn {P : Nat → Bool} : ∀ k f, k + f ≤ 41 → (ndv P k f < 0 ↔ ndv P k f = -1)
  | 0, _, _ => by show ((-1 : Int32) < 0 ↔ (-1 : Int32) = -1); decide
  | k + 1, f, h => by
    show ((if P f = true then nI f else ndv P k (f + 1)) < 0 ↔ (if P f = true then nI f else ndv P k (f + 1)) = -1)
    by_cases e : P f = true
    · rw [if_pos e]
      refine ⟨fun h2 => absurd h2 (nI_pos (by omega)), fun h2 => absurd (h2 ▸ (by decide : (-1 : Int32) < 0)) (nI_pos (n := f) (by omega))⟩
    · rw [if_neg e]
      exact ndv_nn k (f + 1) (by omega)
theorem DV_eq {f g : Nat → Int32} {c : Nat → Nat} (h : DV f c) (e : ∀ k, k < 9 → g k = f k) : DV g c := fun k hk => by rw [e (k + 1) (by omega)]; exact h k hk
theorem frv_s' {P : Nat → Bool} {s : Nat} (h : P (s + 1) = true) : frv P (s + 1) = s + 1 := by show (if _ then _ else _) = _; rw [if_pos h]
theorem frv_n' {P : Nat → Bool} {s : Nat} (h : P (s + 1) = false) : frv P (s + 1) = frv P s := by show (if _ then _ else _) = _; rw [if_neg (by rw [h]; decide)]
set_option maxHeartbeats 4000000 in
set_option maxRecDepth 100000 in
theorem g_home (l : Launch) (D : va_G) (cI : ClassId) (tt : Nat × Nat × Nat) (ab ad ac ar : Nat) (fb fd fc fr : Nat → Int32) (kd : Nat → Nat) (n : Nat) (hb : BV fb kd n) (c : Nat → Nat) (hd : DV fd c) (x st f : Nat) (hx : x < 2 ^ n) (hst : st ≤ 6) (hst1 : 1 ≤ st) (hf : f ≤ 40) : MetI (S := ((Nat → Int32) × (Nat → Int32))) l yL_home cL_home 7 (some .boolean) (rm 3 74) D cI tt [.ref ab, .ref ad, .ref ac, .ref ar, .int (nI x), .int (nI st), .int (nI f)] [(ab, .inl (cI, 7, .inl fb)), (ad, .inl (cI, 9, .inl fd)), (ac, .inl (cI, 9, .inl fc)), (ar, .inl (cI, 3, .inl fr))] (fun q _ => q = b2 (homeb kd n x st c f)) (fun u => [(ab, .inl (cI, 7, .inl fb)), (ad, .inl (cI, 9, .inl fd)), (ac, .inl (cI, 9, .inl u.1)), (ar, .inl (cI, 3, .inl u.2))]) := by
  have hn6 := hb.2.1
  have hx6 := pow_le6 hn6
  refine met_ofI (by decide) (Nat.le_of_ble_eq_true rfl) ?_
  intro pP eE sS mM aV bB mE cC AA C hin
  refine z_conv (lv' := [(0, .ref ab), (1, .ref ad), (2, .ref ac), (3, .ref ar), (4, .int (nI x)), (5, .int (nI st)), (6, .int (nI f))]) ⟨rfl, rfl, rfl, rfl, rfl, rfl, rfl, trivial⟩ rfl rfl ?_
  refine z_aload_n C (pc := 0) dL_home_0 rfl ?_
  refine z_aload_n C (pc := 1) dL_home_1 rfl ?_
  refine z_callv C (isC := [2, 1]) rfl (by exact fun _ => rfl) (runS C (wc := [(ac, .inl (cI, 9, .inl fc)), (ad, .inl (cI, 9, .inl fd))]) (pc := 2) (rY' := rm 0 0) (nn := 2) (As := [.ref ac, .ref ad]) (rest := []) (g_over l D cI tt ac ad fc fd) rfl rfl ⟨rfl, rfl, ⟨Nat.le_of_ble_eq_true rfl, Nat.le_of_ble_eq_true rfl⟩, Nat.le_of_ble_eq_true rfl, Nat.le_of_ble_eq_true rfl⟩ wl_L_34 ws_L_over wi_L wc_L_over (by decide +kernel) rfl rfl (Nat.le_of_ble_eq_true rfl) dL_home_2) (fun u_1 h_1 => ?_)
  have hdg := DV_eq hd h_1
  refine z_ws (st' := []) (ws' := [(ab, .inl (cI, 7, .inl fb)), (ad, .inl (cI, 9, .inl fd)), (ac, .inl (cI, 9, .inl u_1)), (ar, .inl (cI, 3, .inl fr))]) rfl rfl ?_
  refine z_aload_n C (pc := 5) dL_home_5 rfl ?_
  refine z_aload_n C (pc := 6) dL_home_6 rfl ?_
  refine z_aload_n C (pc := 7) dL_home_7 rfl ?_
  refine z_iload C (pc := 8) dL_home_8 rfl ?_
  refine z_iload C (pc := 10) dL_home_10 rfl ?_
  refine z_iload C (pc := 12) dL_home_12 rfl ?_
  refine z_callv C (isC := [0, 2, 3]) rfl (by exact fun _ => rfl) (runS C (wc := [(ab, .inl (cI, 7, .inl fb)), (ac, .inl (cI, 9, .inl u_1)), (ar, .inl (cI, 3, .inl fr))]) (pc := 14) (rY' := rm 2 45) (nn := 6) (As := [.ref ab, .ref ac, .ref ar, .int (nI x), .int (nI st), .int (nI f)]) (rest := []) (g_march l D cI tt ab ac ar fb u_1 fr kd n hb c hdg x st f hx hst hf) rfl rfl ⟨rfl, rfl, ⟨Nat.le_of_ble_eq_true rfl, Nat.le_of_ble_eq_true rfl⟩, Nat.le_of_ble_eq_true rfl, Nat.le_of_ble_eq_true rfl⟩ wl_L_38 ws_L_march wi_L wc_L_march (by decide +kernel) rfl rfl (Nat.le_of_ble_eq_true rfl) dL_home_14) (fun u_2 h_2 => ?_)
  obtain ⟨fc2, fr2⟩ := u_2
  try dsimp only at h_2
  have hm := h_2
  have hmk := mar_ok (kd := kd) (st := st) (f := f) hn6 hx (fun k hk => (hd k hk).2)
  refine z_ws (st' := []) (ws' := [(ab, .inl (cI, 7, .inl fb)), (ad, .inl (cI, 9, .inl fd)), (ac, .inl (cI, 9, .inl fc2)), (ar, .inl (cI, 3, .inl fr2))]) rfl rfl ?_
  refine z_aload_n C (pc := 17) dL_home_17 rfl ?_
  refine z_iconst C (pc := 18) (v := nI 0) dL_home_18 (by decide) ?_
  have h_3 : vp_in (nI 0) 3 := by exact vp_in_nI (by omega) (by decide)
  refine z_iald C (pc := 19) 3 rfl h_3 dL_home_19 ?_
  refine z_seti (y := (fr2 0)) (by rw [nI_clamp (by omega)]) ?_
  refine z_seti (y := nI (marv kd n x st f c).1) hm.1 ?_
  refine z_if_le C (pc := 20) (tgt := 27) dL_home_20 (by decide) (fun c_4 => ?_) (fun c_4 => ?_)
  · have h0 : homeb kd n x st c f = false := by
      unfold homeb
      apply decide_eq_false
      have h1 := (nI_leI (b := 0) (by have := hmk.1.1; omega) (by decide)).mp c_4
      exact fun e => (mar_alive hst1).mp e (by omega)
    refine z_iconst C (pc := 27) (v := nI 0) dL_home_27 (by decide) ?_
    refine z_zret C (pc := 28) (fc2, fr2) dL_home_28 rfl ?_ rfl
    exact (by rw [h0]; rfl)
  · have h0 : homeb kd n x st c f = true := by
      unfold homeb
      apply decide_eq_true
      exact (mar_alive hst1).mpr (fun e => c_4 (by rw [e]; decide))
    refine z_iconst C (pc := 23) (v := nI 1) dL_home_23 (by decide) ?_
    refine z_goto C (pc := 24) (tgt := 28) dL_home_24 (by decide) ?_
    refine z_zret C (pc := 28) (fc2, fr2) dL_home_28 rfl ?_ rfl
    exact (by rw [h0]; rfl)

set_option maxHeartbeats 4000000 in
set_option maxRecDepth 100000 in
theorem g_need (l : Launch) (D : va_G) (cI : ClassId) (tt : Nat × Nat × Nat) (ab ad ac ar : Nat) (fb fd fc fr : Nat → Int32) (kd : Nat → Nat) (n : Nat) (hb : BV fb kd n) (c : Nat → Nat) (hd : DV fd c) (x st : Nat) (hx : x < 2 ^ n) (hst : st ≤ 6) (hst1 : 1 ≤ st) : MetI (S := ((Nat → Int32) × (Nat → Int32))) l yL_need cL_need 7 (some .int) (rm 4 100) D cI tt [.ref ab, .ref ad, .ref ac, .ref ar, .int (nI x), .int (nI st)] [(ab, .inl (cI, 7, .inl fb)), (ad, .inl (cI, 9, .inl fd)), (ac, .inl (cI, 9, .inl fc)), (ar, .inl (cI, 3, .inl fr))] (fun q _ => q = needv kd n x st c) (fun u => [(ab, .inl (cI, 7, .inl fb)), (ad, .inl (cI, 9, .inl fd)), (ac, .inl (cI, 9, .inl u.1)), (ar, .inl (cI, 3, .inl u.2))]) := by
  have hn6 := hb.2.1
  have hx6 := pow_le6 hn6
  refine met_ofI (by decide) (Nat.le_of_ble_eq_true rfl) ?_
  intro pP eE sS mM aV bB mE cC AA C hin
  refine z_conv (lv' := [(0, .ref ab), (1, .ref ad), (2, .ref ac), (3, .ref ar), (4, .int (nI x)), (5, .int (nI st))]) ⟨rfl, rfl, rfl, rfl, rfl, rfl, trivial⟩ rfl rfl ?_
  refine z_iconst C (pc := 0) (v := nI 0) dL_need_0 (by decide) ?_
  refine z_istore C (pc := 1) (lv' := [(0, .ref ab), (1, .ref ad), (2, .ref ac), (3, .ref ar), (4, .int (nI x)), (5, .int (nI st)), (6, .int (nI 0))]) dL_need_1 (Nat.le_of_ble_eq_true rfl) rfl rfl ?_
  have key3 : ∀ (fu3 : Nat) (m : Nat) (fc' fr' : Nat → Int32), 41 - m < fu3 → (m ≤ 41) → (ndv (homeb kd n x st c) (41 - m) m = needv kd n x st c) → Z pP l eE (rm 4 100) sS mM aV bB mE cC D AA 7 0 0 (MQ bB (va_Qi (S := ((Nat → Int32) × (Nat → Int32))) (fun q _ => q = needv kd n x st c) (fun u t => va_P D vwCl ((fun u => [(ab, .inl (cI, 7, .inl fb)), (ad, .inl (cI, 9, .inl fd)), (ac, .inl (cI, 9, .inl u.1)), (ar, .inl (cI, 3, .inl u.2))]) u) t.heap) AA) aV sS 0 0 AA) 3 [(0, .ref ab), (1, .ref ad), (2, .ref ac), (3, .ref ar), (4, .int (nI x)), (5, .int (nI st)), (6, .int (nI m))] [] [(ab, .inl (cI, 7, .inl fb)), (ad, .inl (cI, 9, .inl fd)), (ac, .inl (cI, 9, .inl fc')), (ar, .inl (cI, 3, .inl fr'))] := by
    intro fu3
    induction fu3 with
    | zero => intro m fc' fr' hfu3; exact absurd hfu3 (Nat.not_lt_zero _)
    | succ fu3 ih3 =>
      intro m fc' fr' hfu3 hm41 heq
      refine z_iload C (pc := 3) dL_need_3 rfl ?_
      refine z_bipush C (pc := 5) (v := nI 41) dL_need_5 (by decide) ?_
      refine z_icmp_ge C (pc := 7) (tgt := 35) dL_need_7 (by decide) (fun c_1 => ?_) (fun c_1 => ?_)
      · refine z_iconst C (pc := 35) (v := (-1)) dL_need_35 (by decide) ?_
        refine z_iret C (pc := 36) (fc', fr') dL_need_36 ?_ rfl
        have hme : m = 41 := by
          have := ge_of_nI (n := 41) c_1 (by decide)
          omega
        subst hme
        exact heq
      · have hm : m + 1 ≤ 41 := lt_of_nI (n := 41) c_1 (by omega)
        refine z_aload_n C (pc := 10) dL_need_10 rfl ?_
        refine z_aload_n C (pc := 11) dL_need_11 rfl ?_
        refine z_aload_n C (pc := 12) dL_need_12 rfl ?_
        refine z_aload_n C (pc := 13) dL_need_13 rfl ?_
        refine z_iload C (pc := 14) dL_need_14 rfl ?_
        refine z_iload C (pc := 16) dL_need_16 rfl ?_
        refine z_iload C (pc := 18) dL_need_18 rfl ?_
        refine z_calli C (isC := [0, 1, 2, 3]) rfl (by exact fun _ => rfl) (runS C (wc := [(ab, .inl (cI, 7, .inl fb)), (ad, .inl (cI, 9, .inl fd)), (ac, .inl (cI, 9, .inl fc')), (ar, .inl (cI, 3, .inl fr'))]) (pc := 20) (rY' := rm 3 74) (nn := 7) (As := [.ref ab, .ref ad, .ref ac, .ref ar, .int (nI x), .int (nI st), .int (nI m)]) (rest := []) (g_home l D cI tt ab ad ac ar fb fd fc' fr' kd n hb c hd x st m hx hst hst1 (by omega)) rfl rfl ⟨rfl, rfl, ⟨Nat.le_of_ble_eq_true rfl, Nat.le_of_ble_eq_true rfl⟩, Nat.le_of_ble_eq_true rfl, Nat.le_of_ble_eq_true rfl⟩ wl_L_42 ws_L_home wi_L wc_L_home (by decide +kernel) rfl rfl (Nat.le_of_ble_eq_true rfl) dL_need_20) (fun r_2 u_2 h_2 => ?_)
        obtain ⟨fc2, fr2⟩ := u_2
        subst h_2
        refine z_ws (st' := [.int (b2 (homeb kd n x st c m))]) (ws' := [(ab, .inl (cI, 7, .inl fb)), (ad, .inl (cI, 9, .inl fd)), (ac, .inl (cI, 9, .inl fc2)), (ar, .inl (cI, 3, .inl fr2))]) rfl rfl ?_
        refine z_if_eq C (pc := 23) (tgt := 29) dL_need_23 (by decide) (fun c_3 => ?_) (fun c_3 => ?_)
        · have hP := b2_f c_3
          refine z_iinc C (pc := 29) (v := ((nI m) + 1)) (lv' := [(0, .ref ab), (1, .ref ad), (2, .ref ac), (3, .ref ar), (4, .int (nI x)), (5, .int (nI st)), (6, .int ((nI m) + 1))]) dL_need_29 rfl rfl (Nat.le_of_ble_eq_true rfl) rfl rfl ?_
          refine z_goto C (pc := 32) (tgt := 3) dL_need_32 (by decide) ?_
          refine z_lv (lv' := [(0, .ref ab), (1, .ref ad), (2, .ref ac), (3, .ref ar), (4, .int (nI x)), (5, .int (nI st)), (6, .int (nI (m + 1)))]) ⟨rfl, rfl, rfl, rfl, rfl, rfl, lki (nI_1 _), trivial⟩ ?_
          exact ih3 (m + 1) fc2 fr2 (by omega) hm (by rw [← heq, ndv_s hm, if_neg (by rw [hP]; decide)])
        · have hP := b2_t c_3
          refine z_iload C (pc := 26) dL_need_26 rfl ?_
          refine z_iret C (pc := 28) (fc2, fr2) dL_need_28 ?_ rfl
          rw [← heq, ndv_s hm, if_pos hP]
  refine z_lv (lv' := [(0, .ref ab), (1, .ref ad), (2, .ref ac), (3, .ref ar), (4, .int (nI x)), (5, .int (nI st)), (6, .int (nI 0))]) ⟨rfl, rfl, rfl, rfl, rfl, rfl, rfl, trivial⟩ ?_
  exact key3 (_ + 1) 0 fc fr (Nat.lt_succ_self _) (Nat.zero_le _) rfl

set_option maxHeartbeats 4000000 in
set_option maxRecDepth 100000 in
theorem g_far (l : Launch) (D : va_G) (cI : ClassId) (tt : Nat × Nat × Nat) (ab ad ac ar : Nat) (fb fd fc fr : Nat → Int32) (kd : Nat → Nat) (n : Nat) (hb : BV fb kd n) (c : Nat → Nat) (hd : DV fd c) (x : Nat) (hx : x < 2 ^ n) (hx0 : x ≠ 0) : MetI (S := ((Nat → Int32) × (Nat → Int32))) l yL_far cL_far 6 (some .int) (rm 5 126) D cI tt [.ref ab, .ref ad, .ref ac, .ref ar, .int (nI x)] [(ab, .inl (cI, 7, .inl fb)), (ad, .inl (cI, 9, .inl fd)), (ac, .inl (cI, 9, .inl fc)), (ar, .inl (cI, 3, .inl fr))] (fun q _ => q = nI (farv kd n x c)) (fun u => [(ab, .inl (cI, 7, .inl fb)), (ad, .inl (cI, 9, .inl fd)), (ac, .inl (cI, 9, .inl u.1)), (ar, .inl (cI, 3, .inl u.2))]) := by
  have hn6 := hb.2.1
  have hx6 := pow_le6 hn6
  refine met_ofI (by decide) (Nat.le_of_ble_eq_true rfl) ?_
  intro pP eE sS mM aV bB mE cC AA C hin
  refine z_conv (lv' := [(0, .ref ab), (1, .ref ad), (2, .ref ac), (3, .ref ar), (4, .int (nI x))]) ⟨rfl, rfl, rfl, rfl, rfl, trivial⟩ rfl rfl ?_
  refine z_bipush C (pc := 0) (v := nI 6) dL_far_0 (by decide) ?_
  refine z_istore C (pc := 2) (lv' := [(0, .ref ab), (1, .ref ad), (2, .ref ac), (3, .ref ar), (4, .int (nI x)), (5, .int (nI 6))]) dL_far_2 (Nat.le_of_ble_eq_true rfl) rfl rfl ?_
  have key4 : ∀ (fu4 : Nat) (m : Nat) (fc' fr' : Nat → Int32), m < fu4 → (m ≤ 6) → (frv (farb kd n x c) m = farv kd n x c) → Z pP l eE (rm 5 126) sS mM aV bB mE cC D AA 6 0 0 (MQ bB (va_Qi (S := ((Nat → Int32) × (Nat → Int32))) (fun q _ => q = nI (farv kd n x c)) (fun u t => va_P D vwCl ((fun u => [(ab, .inl (cI, 7, .inl fb)), (ad, .inl (cI, 9, .inl fd)), (ac, .inl (cI, 9, .inl u.1)), (ar, .inl (cI, 3, .inl u.2))]) u) t.heap) AA) aV sS 0 0 AA) 4 [(0, .ref ab), (1, .ref ad), (2, .ref ac), (3, .ref ar), (4, .int (nI x)), (5, .int (nI m))] [] [(ab, .inl (cI, 7, .inl fb)), (ad, .inl (cI, 9, .inl fd)), (ac, .inl (cI, 9, .inl fc')), (ar, .inl (cI, 3, .inl fr'))] := by
    intro fu4
    induction fu4 with
    | zero => intro m fc' fr' hfu4; exact absurd hfu4 (Nat.not_lt_zero _)
    | succ fu4 ih4 =>
      intro m fc' fr' hfu4 hm6 heq
      refine z_iload C (pc := 4) dL_far_4 rfl ?_
      refine z_if_le C (pc := 6) (tgt := 32) dL_far_6 (by decide) (fun c_1 => ?_) (fun c_1 => ?_)
      · refine z_iconst C (pc := 32) (v := nI 0) dL_far_32 (by decide) ?_
        refine z_iret C (pc := 33) (fc', fr') dL_far_33 ?_ rfl
        have hme : m = 0 := by
          have := (nI_leI (a := m) (b := 0) (by omega) (by decide)).mp c_1
          omega
        subst hme
        rw [← heq]; rfl
      · obtain ⟨s, rfl⟩ : ∃ s, m = s + 1 := ⟨m - 1, by have hm0 : m ≠ 0 := (fun h => c_1 (by rw [h]; decide)); omega⟩
        refine z_aload_n C (pc := 9) dL_far_9 rfl ?_
        refine z_aload_n C (pc := 10) dL_far_10 rfl ?_
        refine z_aload_n C (pc := 11) dL_far_11 rfl ?_
        refine z_aload_n C (pc := 12) dL_far_12 rfl ?_
        refine z_iload C (pc := 13) dL_far_13 rfl ?_
        refine z_iload C (pc := 15) dL_far_15 rfl ?_
        refine z_calli C (isC := [0, 1, 2, 3]) rfl (by exact fun _ => rfl) (runS C (wc := [(ab, .inl (cI, 7, .inl fb)), (ad, .inl (cI, 9, .inl fd)), (ac, .inl (cI, 9, .inl fc')), (ar, .inl (cI, 3, .inl fr'))]) (pc := 17) (rY' := rm 4 100) (nn := 6) (As := [.ref ab, .ref ad, .ref ac, .ref ar, .int (nI x), .int (nI (s + 1))]) (rest := []) (g_need l D cI tt ab ad ac ar fb fd fc' fr' kd n hb c hd x (s + 1) hx (by omega) (by omega)) rfl rfl ⟨rfl, rfl, ⟨Nat.le_of_ble_eq_true rfl, Nat.le_of_ble_eq_true rfl⟩, Nat.le_of_ble_eq_true rfl, Nat.le_of_ble_eq_true rfl⟩ wl_L_46 ws_L_need wi_L wc_L_need (by decide +kernel) rfl rfl (Nat.le_of_ble_eq_true rfl) dL_far_17) (fun r_2 u_2 h_2 => ?_)
        obtain ⟨fc2, fr2⟩ := u_2
        subst h_2
        refine z_ws (st' := [.int (needv kd n x (s + 1) c)]) (ws' := [(ab, .inl (cI, 7, .inl fb)), (ad, .inl (cI, 9, .inl fd)), (ac, .inl (cI, 9, .inl fc2)), (ar, .inl (cI, 3, .inl fr2))]) rfl rfl ?_
        refine z_if_lt C (pc := 20) (tgt := 26) dL_far_20 (by decide) (fun c_3 => ?_) (fun c_3 => ?_)
        · have hP : (farb kd n x c) (s + 1) = false := by unfold farb; rw [decide_eq_false (p := needv kd n x (s + 1) c ≠ -1) (fun e => e ((ndv_nn 41 0 (by decide)).mp c_3)), Bool.and_false]
          refine z_iinc C (pc := 26) (v := ((nI (s + 1)) + (-1))) (lv' := [(0, .ref ab), (1, .ref ad), (2, .ref ac), (3, .ref ar), (4, .int (nI x)), (5, .int ((nI (s + 1)) + (-1)))]) dL_far_26 rfl rfl (Nat.le_of_ble_eq_true rfl) rfl rfl ?_
          refine z_goto C (pc := 29) (tgt := 4) dL_far_29 (by decide) ?_
          refine z_lv (lv' := [(0, .ref ab), (1, .ref ad), (2, .ref ac), (3, .ref ar), (4, .int (nI x)), (5, .int (nI s))]) ⟨rfl, rfl, rfl, rfl, rfl, lki (pk_m1 _), trivial⟩ ?_
          exact ih4 s fc2 fr2 (by omega) (by omega) ((frv_n' hP).symm.trans heq)
        · have hP : (farb kd n x c) (s + 1) = true := by unfold farb; rw [decide_eq_true hx0, decide_eq_true (p := needv kd n x (s + 1) c ≠ -1) (fun e => c_3 ((ndv_nn 41 0 (by decide)).mpr e))]; rfl
          refine z_iload C (pc := 23) dL_far_23 rfl ?_
          refine z_iret C (pc := 25) (fc2, fr2) dL_far_25 ?_ rfl
          rw [← heq, frv_s' hP]
  refine z_lv (lv' := [(0, .ref ab), (1, .ref ad), (2, .ref ac), (3, .ref ar), (4, .int (nI x)), (5, .int (nI 6))]) ⟨rfl, rfl, rfl, rfl, rfl, rfl, trivial⟩ ?_
  exact key4 (_ + 1) 6 fc fr (Nat.lt_succ_self _) (Nat.le_refl _) rfl
