theorem two_mul_nI (st : Nat) : 2 * nI st = nI (2 * st) := pk_mul 2 st
def GO (i : Nat → Int32) (r : Nat → Nat → Int32) (i' : Nat → Int32) (r' : Nat → Nat → Int32) (z : MS) : Prop := SP i i' ∧ SR r r' ∧ i' 5 = nI z.1 ∧ i' 6 = nI z.2.1 ∧ i' 9 = nI z.2.2.2 ∧ ∀ k, k < 5 → r' 2 k = nI (z.2.2.1 k)
theorem mar_end {kd : Nat → Nat} {n st x f : Nat} {c : Nat → Nat} {j : Nat} (hj : j ≤ 2 * st) (h : (runv kd n st j (x, min f (sumk pls kd x n), c, 0)).2.2.2 ≠ 0) : marv kd n x st f c = runv kd n st j (x, min f (sumk pls kd x n), c, 0) := by
  have := runv_dead h (2 * st - j)
  rw [show j + (2 * st - j) = 2 * st by omega] at this
  exact this
theorem run_s {kd : Nat → Nat} {n st j : Nat} {z : MS} (h : (runv kd n st j z).2.2.2 = 0) : runv kd n st (j + 1) z = legv kd n st (j + 1) (runv kd n st j z) := by
  show (if _ then _ else _) = _
  rw [if_pos h]
theorem leg_die {kd : Nat → Nat} {n st j : Nat} {z : MS} {s : Nat × Nat} (hs : outv kd n st j (z.1, z.2.1) = s) (h : s.1 = 0 ∨ s.2 < sumk ets kd s.1 n) : legv kd n st j z = (0, 0, z.2.2.1, j) := by
  unfold legv; rw [hs]; dsimp only; rw [if_pos h]
theorem leg_out {kd : Nat → Nat} {n st j : Nat} {z : MS} {s : Nat × Nat} (hs : outv kd n st j (z.1, z.2.1) = s) (h : ¬ (s.1 = 0 ∨ s.2 < sumk ets kd s.1 n)) (h2 : j ≤ st) : legv kd n st j z = (s.1, s.2 - sumk ets kd s.1 n, z.2.2.1, 0) := by
  unfold legv; rw [hs]; dsimp only; rw [if_neg h, if_pos h2]
theorem leg_home {kd : Nat → Nat} {n st j : Nat} {z : MS} {s : Nat × Nat} (hs : outv kd n st j (z.1, z.2.1) = s) (h : ¬ (s.1 = 0 ∨ s.2 < sumk ets kd s.1 n)) (h2 : ¬ j ≤ st) : legv kd n st j z = (s.1, (takev kd n (2 * st - j) (s.1, s.2 - sumk ets kd s.1 n) z.2.2.1).1, (takev kd n (2 * st - j) (s.1, s.2 - sumk ets kd s.1 n) z.2.2.1).2, 0) := by
  unfold legv; rw [hs]; dsimp only; rw [if_neg h, if_neg h2]
theorem out_p {kd : Nat → Nat} {n st j : Nat} {s : Nat × Nat} (h1 : j ≤ st) (h2 : 3 ≤ j - 1) : outv kd n st j s = bea kd n n (pon kd n n s) := by unfold outv; rw [if_pos ⟨h1, h2⟩]
theorem out_n {kd : Nat → Nat} {n st j : Nat} {s : Nat × Nat} (h : ¬ (j ≤ st ∧ 3 ≤ j - 1)) : outv kd n st j s = bea kd n n s := by unfold outv; rw [if_neg h]
theorem mok0 {kd : Nat → Nat} {n x f : Nat} {c : Nat → Nat} (hx : x < 2 ^ n) (hc : ∀ k, k < 5 → c k ≤ 9) : MOK kd n (x, min f (sumk pls kd x n), c, 0) := ⟨⟨hx, Nat.min_le_right _ _⟩, hc, Or.inl rfl⟩
set_option maxHeartbeats 4000000 in
set_option maxRecDepth 100000 in
theorem c_go (l : Launch) (D : va_G) (cI : ClassId) (tt : Nat × Nat × Nat) (a : Nat → Nat) (i : Nat → Int32) (r : Nat → Nat → Int32) (kd : Nat → Nat) (n x st f : Nat) (hv : PV i r kd n) (hx : x < 2 ^ n) (hst : st ≤ 6) (hf : f ≤ 40) (c : Nat → Nat) (hc : ∀ k, k < 5 → r 2 k = nI (c k) ∧ c k ≤ 9) : MetI (S := ((Nat → Int32) × (Nat → Nat → Int32))) l yX1_go cX1_go 6 (some .boolean) (rm 3 67) D cI tt [.ref (a 3), .int (nI x), .int (nI st), .int (nI f)] (cW cI a i r) (fun q u => q = (if (marv kd n x st f c).2.2.2 = 0 then 1 else 0) ∧ GO i r u.1 u.2 (marv kd n x st f c)) (fun u => cW cI a u.1 u.2) := by
  have hn6 := hv.2.1
  have hx6 := pow_le6 hn6
  have hcc : ∀ k, k < 5 → c k ≤ 9 := fun k hk => (hc k hk).2
  refine met_ofI (by decide) (Nat.le_of_ble_eq_true rfl) ?_
  intro pP eE sS mM aV bB mE cC AA C hin
  refine z_conv (lv' := [(0, .ref (a 3)), (1, .int (nI x)), (2, .int (nI st)), (3, .int (nI f))]) ⟨rfl, rfl, rfl, rfl, trivial⟩ rfl rfl ?_
  refine z_aload_n C (pc := 0) dX1_go_0 rfl ?_
  refine z_iload_n C (pc := 1) dX1_go_1 rfl ?_
  refine z_iload_n C (pc := 2) dX1_go_2 rfl ?_
  refine z_callvF C (by exact fun _ => cW_ad) (runV C (wc := (cW cI a i r)) (pc := 3) (rY' := rm 2 45) (nn := 2) (As := [.int (nI x), .int (nI f)]) (rest := []) (c_setOut l D cI tt a i r kd n x f hv hx hf) (full_hC _) (full_nd _) ⟨rfl, rfl, ⟨Nat.le_of_ble_eq_true rfl, Nat.le_of_ble_eq_true rfl⟩, Nat.le_of_ble_eq_true rfl, Nat.le_of_ble_eq_true rfl⟩ wl_X1_30 wm_X1_setOut we_X1_setOut wi_X1 wc_X1_setOut (by decide +kernel) rfl 3 rfl rfl rfl rfl (Nat.le_of_ble_eq_true rfl) dX1_go_3) (fun u_1 h_1 => ?_)
  generalize u_1 = i1 at h_1 ⊢
  obtain ⟨q1, q2, q3⟩ := h_1
  refine z_ws (st' := []) (ws' := (cW cI a i1 r)) rfl rfl ?_
  refine z_iconst C (pc := 6) (v := 1) dX1_go_6 (by decide) ?_
  refine z_istore C (pc := 7) (lv' := [(0, .ref (a 3)), (1, .int (nI x)), (2, .int (nI st)), (3, .int (nI f)), (4, .int 1)]) dX1_go_7 (Nat.le_of_ble_eq_true rfl) rfl rfl ?_
  have key9 : ∀ (fu9 : Nat) (j : Nat) (i' : Nat → Int32) (r' : Nat → Nat → Int32), 2 * st - j < fu9 → (j ≤ 2 * st) → ((runv kd n st j (x, min f (sumk pls kd x n), c, 0)).2.2.2 = 0) → (SP i i') → (SR r r') → (i' 9 = 0) → (PS i' kd n (runv kd n st j (x, min f (sumk pls kd x n), c, 0)).1 (runv kd n st j (x, min f (sumk pls kd x n), c, 0)).2.1) → (∀ k, k < 5 → r' 2 k = nI ((runv kd n st j (x, min f (sumk pls kd x n), c, 0)).2.2.1 k)) → Z pP l eE (rm 3 67) sS mM aV bB mE cC D AA 6 0 0 (MQ bB (va_Qi (S := ((Nat → Int32) × (Nat → Nat → Int32))) (fun q u => q = (if (marv kd n x st f c).2.2.2 = 0 then 1 else 0) ∧ GO i r u.1 u.2 (marv kd n x st f c)) (fun u t => va_P D vwCl ((fun u => cW cI a u.1 u.2) u) t.heap) AA) aV sS 0 0 AA) 9 [(0, .ref (a 3)), (1, .int (nI x)), (2, .int (nI st)), (3, .int (nI f)), (4, .int (nI (j + 1)))] [] (cW cI a i' r') := by
    intro fu9
    induction fu9 with
    | zero => intro j i' r' hfu9; exact absurd hfu9 (Nat.not_lt_zero _)
    | succ fu9 ih9 =>
      intro j i' r' hfu9 hj hd hsp hsr h9 hps hc2
      refine z_iload C (pc := 9) dX1_go_9 rfl ?_
      refine z_iconst C (pc := 11) (v := 2) dX1_go_11 (by decide) ?_
      refine z_iload_n C (pc := 12) dX1_go_12 rfl ?_
      refine z_imul C (pc := 13) dX1_go_13 ?_
      refine z_icmp_gt C (pc := 14) (tgt := 111) dX1_go_14 (by decide) (fun c_2 => ?_) (fun c_2 => ?_)
      · have hje : j = 2 * st := by
          rw [two_mul_nI] at c_2
          have := Nat.lt_of_not_le (fun h => nI_nlt (a := 2 * st) (b := j + 1) h (by omega) c_2)
          omega
        refine z_iconst C (pc := 111) (v := 1) dX1_go_111 (by decide) ?_
        refine z_zret C (pc := 112) (i', r') dX1_go_112 rfl ?_ rfl
        subst hje
        have hme : marv kd n x st f c = (runv kd n st (2 * st) (x, min f (sumk pls kd x n), c, 0)) := rfl
        rw [hme]
        exact ⟨by rw [if_pos hd], hsp, hsr, hps.1, hps.2.1, by rw [hd]; exact h9, hc2⟩
      · have hjl : j + 1 ≤ 2 * st := by
          rw [two_mul_nI] at c_2
          exact Nat.le_of_not_lt (fun h => c_2 (nI_lt h (by omega)))
        have hv' := hv.sp hsp hsr
        have hmk := runv_ok (kd := kd) (st := st) hn6 j (x, min f (sumk pls kd x n), c, 0) (mok0 (kd := kd) (f := f) hx hcc)
        generalize hzz : (runv kd n st j (x, min f (sumk pls kd x n), c, 0)) = z at hd hps hc2 hmk
        have hok := hmk.1
        refine z_iload C (pc := 17) dX1_go_17 rfl ?_
        refine z_iload_n C (pc := 19) dX1_go_19 rfl ?_
        refine z_icmp_gt C (pc := 20) (tgt := 27) dX1_go_20 (by decide) (fun c_3 => ?_) (fun c_3 => ?_)
        · have hout : ¬ j + 1 ≤ st := fun h => nI_nlt h (by omega) c_3
          refine z_iconst C (pc := 27) (v := 0) dX1_go_27 (by decide) ?_
          refine z_istore C (pc := 28) (lv' := [(0, .ref (a 3)), (1, .int (nI x)), (2, .int (nI st)), (3, .int (nI f)), (4, .int (nI (j + 1))), (5, .int 0)]) dX1_go_28 (Nat.le_of_ble_eq_true rfl) rfl rfl ?_
          refine z_iload C (pc := 30) dX1_go_30 rfl ?_
          refine z_if_eq C (pc := 32) (tgt := 47) dX1_go_32 (by decide) (fun c_4 => ?_) (fun c_4 => ?_)
          · refine z_aload_n C (pc := 47) dX1_go_47 rfl ?_
            refine z_callvF C (by exact fun _ => cW_ad) (runV C (wc := (cW cI a i' r')) (pc := 48) (rY' := rm 2 43) (nn := 0) (As := []) (rest := []) (c_eatBeasts l D cI tt a i' r' kd n z.1 z.2.1 hv' hps hok) (full_hC _) (full_nd _) ⟨rfl, rfl, ⟨Nat.le_of_ble_eq_true rfl, Nat.le_of_ble_eq_true rfl⟩, Nat.le_of_ble_eq_true rfl, Nat.le_of_ble_eq_true rfl⟩ wl_X1_37 wm_X1_eatBeasts we_X1_eatBeasts wi_X1 wc_X1_eatBeasts (by decide +kernel) rfl 3 rfl rfl rfl rfl (Nat.le_of_ble_eq_true rfl) dX1_go_48) (fun u_5 h_5 => ?_)
            generalize u_5 = i5 at h_5 ⊢
            obtain ⟨b1, b2, b3⟩ := h_5
            have hsp2 := hsp.tr b1
            have h92 : i5 9 = 0 := b2.trans h9
            have hov : outv kd n st (j + 1) (z.1, z.2.1) = bea kd n n (z.1, z.2.1) := out_n (fun h => hout h.1)
            have oko := outv_ok (st := st) (j := j + 1) (s := (z.1, z.2.1)) hn6 hok
            rw [hov] at oko
            generalize bea kd n n (z.1, z.2.1) = s2 at hov b3 oko
            refine z_ws (st' := []) (ws' := (cW cI a i5 r')) rfl rfl ?_
            refine z_aload_n C (pc := 51) dX1_go_51 rfl ?_
            refine z_get C (pc := 52) 3 rfl rfl wf_X1 3 (by decide) rfl wl_X1_40 (v := .int (i5 5)) rfl dX1_go_52 ?_
            refine z_if_eq C (pc := 55) (tgt := 69) dX1_go_55 (by decide) (fun c_6 => ?_) (fun c_6 => ?_)
            · have hdie : s2.1 = 0 ∨ s2.2 < sumk ets kd s2.1 n := Or.inl (by
                rw [b3.1] at c_6
                exact (nI_eq (b := 0) (by have := oko.1; omega) (by omega)).mp c_6)
              refine z_aload_n C (pc := 69) dX1_go_69 rfl ?_
              refine z_iload C (pc := 70) dX1_go_70 rfl ?_
              refine z_callvF C (by exact fun _ => cW_ad) (runV C (wc := (cW cI a i5 r')) (pc := 72) (rY' := rm 0 0) (nn := 1) (As := [.int (nI (j + 1))]) (rest := []) (c_dieOn l D cI tt a i5 r' (nI (j + 1))) (full_hC _) (full_nd _) ⟨rfl, rfl, ⟨Nat.le_of_ble_eq_true rfl, Nat.le_of_ble_eq_true rfl⟩, Nat.le_of_ble_eq_true rfl, Nat.le_of_ble_eq_true rfl⟩ wl_X1_49 wm_X1_dieOn we_X1_dieOn wi_X1 wc_X1_dieOn (by decide +kernel) rfl 3 rfl rfl rfl rfl (Nat.le_of_ble_eq_true rfl) dX1_go_72) (fun u_7 h_7 => ?_)
              generalize u_7 = i7 at h_7 ⊢
              obtain ⟨e1, e5, e6, e9⟩ := h_7
              refine z_ws (st' := []) (ws' := (cW cI a i7 r')) rfl rfl ?_
              refine z_iconst C (pc := 75) (v := 0) dX1_go_75 (by decide) ?_
              refine z_zret C (pc := 76) (i7, r') dX1_go_76 rfl ?_ rfl
              have hrs : runv kd n st (j + 1) (x, min f (sumk pls kd x n), c, 0) = (0, 0, z.2.2.1, j + 1) := by rw [run_s (by rw [hzz]; exact hd), hzz]; exact leg_die hov hdie
              have hme : marv kd n x st f c = (0, 0, z.2.2.1, j + 1) := by rw [mar_end hjl (by rw [hrs]; simp), hrs]
              rw [hme]
              exact ⟨by simp, hsp2.tr e1, hsr, e5, e6, e9, hc2⟩
            · have hal : s2.1 ≠ 0 := fun h => c_6 (by rw [b3.1, h]; rfl)
              refine z_aload_n C (pc := 58) dX1_go_58 rfl ?_
              refine z_get C (pc := 59) 3 rfl rfl wf_X1 4 (by decide) rfl wl_X1_43 (v := .int (i5 6)) rfl dX1_go_59 ?_
              refine z_aload_n C (pc := 62) dX1_go_62 rfl ?_
              refine z_get C (pc := 63) 3 rfl rfl wf_X1 6 (by decide) rfl wl_X1_46 (v := .int (i5 8)) rfl dX1_go_63 ?_
              refine z_icmp_ge C (pc := 66) (tgt := 77) dX1_go_66 (by decide) (fun c_8 => ?_) (fun c_8 => ?_)
              · have hnd : ¬ (s2.1 = 0 ∨ s2.2 < sumk ets kd s2.1 n) := by
                  rw [b3.2.2.2, b3.2.1] at c_8
                  have := ge_of_nI c_8 (by have := et_le (kd := kd) (x := s2.1) hn6; omega)
                  omega
                have hsub : i' 0 = i' 0 := rfl
                refine z_aload_n C (pc := 77) dX1_go_77 rfl ?_
                refine z_dup C (pc := 78) dX1_go_78 rfl ?_
                refine z_get C (pc := 79) 3 rfl rfl wf_X1 4 (by decide) rfl wl_X1_43 (v := .int (i5 6)) rfl dX1_go_79 ?_
                refine z_aload_n C (pc := 82) dX1_go_82 rfl ?_
                refine z_get C (pc := 83) 3 rfl rfl wf_X1 6 (by decide) rfl wl_X1_46 (v := .int (i5 8)) rfl dX1_go_83 ?_
                refine z_isub C (pc := 86) dX1_go_86 ?_
                refine z_put C (pc := 87) 3 rfl rfl wf_X1 4 (by decide) rfl tyX1 tyX1_ok nmX1 rfl rfl rfl (Nat.le_of_ble_eq_true rfl) (ws' := (cW cI a (upd i5 6 ((i5 6) - (i5 8))) r')) rfl wl_X1_43 dX1_go_87 ?_
                refine z_iload C (pc := 90) dX1_go_90 rfl ?_
                refine z_if_ne C (pc := 92) (tgt := 105) dX1_go_92 (by decide) (fun c_9 => ?_) (fun c_9 => ?_)
                · exact absurd c_9 (by decide)
                · refine z_aload_n C (pc := 95) dX1_go_95 rfl ?_
                  refine z_iconst C (pc := 96) (v := 2) dX1_go_96 (by decide) ?_
                  refine z_iload_n C (pc := 97) dX1_go_97 rfl ?_
                  refine z_imul C (pc := 98) dX1_go_98 ?_
                  refine z_iload C (pc := 99) dX1_go_99 rfl ?_
                  refine z_isub C (pc := 101) dX1_go_101 ?_
                  refine z_seti (y := nI (2 * st - (j + 1))) (by rw [two_mul_nI, pk_sub hjl]) ?_
                  have hps2 : PS (upd i5 6 (i5 6 - i5 8)) kd n s2.1 (s2.2 - sumk ets kd s2.1 n) := ⟨by rw [upd_n (by decide)]; exact b3.1, by rw [upd_s, b3.2.1, b3.2.2.2, pk_sub (by omega)], by rw [upd_n (by decide)]; exact b3.2.2.1, by rw [upd_n (by decide)]; exact b3.2.2.2⟩
                  have hok2 : OK kd n s2.1 (s2.2 - sumk ets kd s2.1 n) := ⟨oko.1, Nat.le_trans (Nat.sub_le _ _) oko.2⟩
                  have hv3 := hv.sp (hsp2.up (k := 6) (v := i5 6 - i5 8) (by omega)) hsr
                  refine z_callvF C (by exact fun _ => cW_ad) (runV C (wc := (cW cI a (upd i5 6 ((i5 6) - (i5 8))) r')) (pc := 102) (rY' := rm 1 22) (nn := 1) (As := [.int (nI (2 * st - (j + 1)))]) (rest := []) (c_takeUpAt l D cI tt a (upd i5 6 ((i5 6) - (i5 8))) r' kd n s2.1 (s2.2 - sumk ets kd s2.1 n) hv3 hps2 hok2 z.2.2.1 (fun k hk => ⟨hc2 k hk, hmk.2.1 k hk⟩) (2 * st - (j + 1)) (by omega)) (full_hC _) (full_nd _) ⟨rfl, rfl, ⟨Nat.le_of_ble_eq_true rfl, Nat.le_of_ble_eq_true rfl⟩, Nat.le_of_ble_eq_true rfl, Nat.le_of_ble_eq_true rfl⟩ wl_X1_53 wm_X1_takeUpAt we_X1_takeUpAt wi_X1 wc_X1_takeUpAt (by decide +kernel) rfl 3 rfl rfl rfl rfl (Nat.le_of_ble_eq_true rfl) dX1_go_102) (fun u_10 h_10 => ?_)
                  obtain ⟨i10, r10⟩ := u_10
                  try dsimp only at h_10
                  obtain ⟨t1, t2, t3, t4, t5⟩ := h_10
                  have hrs : runv kd n st (j + 1) (x, min f (sumk pls kd x n), c, 0) = (s2.1, (takev kd n (2 * st - (j + 1)) (s2.1, s2.2 - sumk ets kd s2.1 n) z.2.2.1).1, (takev kd n (2 * st - (j + 1)) (s2.1, s2.2 - sumk ets kd s2.1 n) z.2.2.1).2, 0) := by rw [run_s (by rw [hzz]; exact hd), hzz]; exact leg_home hov hnd hout
                  refine z_ws (st' := []) (ws' := (cW cI a i10 r10)) rfl rfl ?_
                  refine z_iinc C (pc := 105) (v := ((nI (j + 1)) + 1)) (lv' := [(0, .ref (a 3)), (1, .int (nI x)), (2, .int (nI st)), (3, .int (nI f)), (4, .int ((nI (j + 1)) + 1)), (5, .int 0)]) dX1_go_105 rfl rfl (Nat.le_of_ble_eq_true rfl) rfl rfl ?_
                  refine z_goto C (pc := 108) (tgt := 9) dX1_go_108 (by decide) ?_
                  refine z_lv (lv' := [(0, .ref (a 3)), (1, .int (nI x)), (2, .int (nI st)), (3, .int (nI f)), (4, .int (nI ((j + 1) + 1)))]) ⟨rfl, rfl, rfl, rfl, lki (nI_1 _), trivial⟩ ?_
                  exact ih9 (j + 1) i10 r10 (by omega) hjl (by rw [hrs]) (hsp2.tr ((SP.rf.up (by omega)).tr t1)) (hsr.tr t2) (t3.trans (by rw [upd_n (by decide)]; exact h92)) (by rw [hrs]; exact t4) (by rw [hrs]; exact t5)
              · have hdie : s2.1 = 0 ∨ s2.2 < sumk ets kd s2.1 n := Or.inr (by
                  rw [b3.2.2.2, b3.2.1] at c_8
                  exact lt_of_nI c_8 (by have := oko.2; have := pl_le (kd := kd) (x := s2.1) hn6; omega))
                refine z_aload_n C (pc := 69) dX1_go_69 rfl ?_
                refine z_iload C (pc := 70) dX1_go_70 rfl ?_
                refine z_callvF C (by exact fun _ => cW_ad) (runV C (wc := (cW cI a i5 r')) (pc := 72) (rY' := rm 0 0) (nn := 1) (As := [.int (nI (j + 1))]) (rest := []) (c_dieOn l D cI tt a i5 r' (nI (j + 1))) (full_hC _) (full_nd _) ⟨rfl, rfl, ⟨Nat.le_of_ble_eq_true rfl, Nat.le_of_ble_eq_true rfl⟩, Nat.le_of_ble_eq_true rfl, Nat.le_of_ble_eq_true rfl⟩ wl_X1_49 wm_X1_dieOn we_X1_dieOn wi_X1 wc_X1_dieOn (by decide +kernel) rfl 3 rfl rfl rfl rfl (Nat.le_of_ble_eq_true rfl) dX1_go_72) (fun u_11 h_11 => ?_)
                generalize u_11 = i11 at h_11 ⊢
                obtain ⟨e1, e5, e6, e9⟩ := h_11
                refine z_ws (st' := []) (ws' := (cW cI a i11 r')) rfl rfl ?_
                refine z_iconst C (pc := 75) (v := 0) dX1_go_75 (by decide) ?_
                refine z_zret C (pc := 76) (i11, r') dX1_go_76 rfl ?_ rfl
                have hrs : runv kd n st (j + 1) (x, min f (sumk pls kd x n), c, 0) = (0, 0, z.2.2.1, j + 1) := by rw [run_s (by rw [hzz]; exact hd), hzz]; exact leg_die hov hdie
                have hme : marv kd n x st f c = (0, 0, z.2.2.1, j + 1) := by rw [mar_end hjl (by rw [hrs]; simp), hrs]
                rw [hme]
                exact ⟨by simp, hsp2.tr e1, hsr, e5, e6, e9, hc2⟩
          · exact absurd c_4 (by decide)
        · have hout : j + 1 ≤ st := Nat.le_of_not_lt (fun h => c_3 (nI_lt h (by omega)))
          refine z_iconst C (pc := 23) (v := 1) dX1_go_23 (by decide) ?_
          refine z_goto C (pc := 24) (tgt := 28) dX1_go_24 (by decide) ?_
          refine z_istore C (pc := 28) (lv' := [(0, .ref (a 3)), (1, .int (nI x)), (2, .int (nI st)), (3, .int (nI f)), (4, .int (nI (j + 1))), (5, .int 1)]) dX1_go_28 (Nat.le_of_ble_eq_true rfl) rfl rfl ?_
          refine z_iload C (pc := 30) dX1_go_30 rfl ?_
          refine z_if_eq C (pc := 32) (tgt := 47) dX1_go_32 (by decide) (fun c_12 => ?_) (fun c_12 => ?_)
          · exact absurd c_12 (by decide)
          · refine z_iload C (pc := 35) dX1_go_35 rfl ?_
            refine z_iconst C (pc := 37) (v := 1) dX1_go_37 (by decide) ?_
            refine z_isub C (pc := 38) dX1_go_38 ?_
            refine z_iconst C (pc := 39) (v := 3) dX1_go_39 (by decide) ?_
            refine z_icmp_lt C (pc := 40) (tgt := 47) dX1_go_40 (by decide) (fun c_13 => ?_) (fun c_13 => ?_)
            · have hsk : ¬ 3 ≤ j + 1 - 1 := by
                rw [nI_pred] at c_13
                exact fun h => nI_nlt (a := j) (b := 3) (by omega) (by omega) c_13
              refine z_aload_n C (pc := 47) dX1_go_47 rfl ?_
              refine z_callvF C (by exact fun _ => cW_ad) (runV C (wc := (cW cI a i' r')) (pc := 48) (rY' := rm 2 43) (nn := 0) (As := []) (rest := []) (c_eatBeasts l D cI tt a i' r' kd n z.1 z.2.1 hv' hps hok) (full_hC _) (full_nd _) ⟨rfl, rfl, ⟨Nat.le_of_ble_eq_true rfl, Nat.le_of_ble_eq_true rfl⟩, Nat.le_of_ble_eq_true rfl, Nat.le_of_ble_eq_true rfl⟩ wl_X1_37 wm_X1_eatBeasts we_X1_eatBeasts wi_X1 wc_X1_eatBeasts (by decide +kernel) rfl 3 rfl rfl rfl rfl (Nat.le_of_ble_eq_true rfl) dX1_go_48) (fun u_14 h_14 => ?_)
              generalize u_14 = i14 at h_14 ⊢
              obtain ⟨b1, b2, b3⟩ := h_14
              have hsp2 := hsp.tr b1
              have h92 : i14 9 = 0 := b2.trans h9
              have hov : outv kd n st (j + 1) (z.1, z.2.1) = bea kd n n (z.1, z.2.1) := out_n (fun h => hsk h.2)
              have oko := outv_ok (st := st) (j := j + 1) (s := (z.1, z.2.1)) hn6 hok
              rw [hov] at oko
              generalize bea kd n n (z.1, z.2.1) = s2 at hov b3 oko
              refine z_ws (st' := []) (ws' := (cW cI a i14 r')) rfl rfl ?_
              refine z_aload_n C (pc := 51) dX1_go_51 rfl ?_
              refine z_get C (pc := 52) 3 rfl rfl wf_X1 3 (by decide) rfl wl_X1_40 (v := .int (i14 5)) rfl dX1_go_52 ?_
              refine z_if_eq C (pc := 55) (tgt := 69) dX1_go_55 (by decide) (fun c_15 => ?_) (fun c_15 => ?_)
              · have hdie : s2.1 = 0 ∨ s2.2 < sumk ets kd s2.1 n := Or.inl (by
                  rw [b3.1] at c_15
                  exact (nI_eq (b := 0) (by have := oko.1; omega) (by omega)).mp c_15)
                refine z_aload_n C (pc := 69) dX1_go_69 rfl ?_
                refine z_iload C (pc := 70) dX1_go_70 rfl ?_
                refine z_callvF C (by exact fun _ => cW_ad) (runV C (wc := (cW cI a i14 r')) (pc := 72) (rY' := rm 0 0) (nn := 1) (As := [.int (nI (j + 1))]) (rest := []) (c_dieOn l D cI tt a i14 r' (nI (j + 1))) (full_hC _) (full_nd _) ⟨rfl, rfl, ⟨Nat.le_of_ble_eq_true rfl, Nat.le_of_ble_eq_true rfl⟩, Nat.le_of_ble_eq_true rfl, Nat.le_of_ble_eq_true rfl⟩ wl_X1_49 wm_X1_dieOn we_X1_dieOn wi_X1 wc_X1_dieOn (by decide +kernel) rfl 3 rfl rfl rfl rfl (Nat.le_of_ble_eq_true rfl) dX1_go_72) (fun u_16 h_16 => ?_)
                generalize u_16 = i16 at h_16 ⊢
                obtain ⟨e1, e5, e6, e9⟩ := h_16
                refine z_ws (st' := []) (ws' := (cW cI a i16 r')) rfl rfl ?_
                refine z_iconst C (pc := 75) (v := 0) dX1_go_75 (by decide) ?_
                refine z_zret C (pc := 76) (i16, r') dX1_go_76 rfl ?_ rfl
                have hrs : runv kd n st (j + 1) (x, min f (sumk pls kd x n), c, 0) = (0, 0, z.2.2.1, j + 1) := by rw [run_s (by rw [hzz]; exact hd), hzz]; exact leg_die hov hdie
                have hme : marv kd n x st f c = (0, 0, z.2.2.1, j + 1) := by rw [mar_end hjl (by rw [hrs]; simp), hrs]
                rw [hme]
                exact ⟨by simp, hsp2.tr e1, hsr, e5, e6, e9, hc2⟩
              · have hal : s2.1 ≠ 0 := fun h => c_15 (by rw [b3.1, h]; rfl)
                refine z_aload_n C (pc := 58) dX1_go_58 rfl ?_
                refine z_get C (pc := 59) 3 rfl rfl wf_X1 4 (by decide) rfl wl_X1_43 (v := .int (i14 6)) rfl dX1_go_59 ?_
                refine z_aload_n C (pc := 62) dX1_go_62 rfl ?_
                refine z_get C (pc := 63) 3 rfl rfl wf_X1 6 (by decide) rfl wl_X1_46 (v := .int (i14 8)) rfl dX1_go_63 ?_
                refine z_icmp_ge C (pc := 66) (tgt := 77) dX1_go_66 (by decide) (fun c_17 => ?_) (fun c_17 => ?_)
                · have hnd : ¬ (s2.1 = 0 ∨ s2.2 < sumk ets kd s2.1 n) := by
                    rw [b3.2.2.2, b3.2.1] at c_17
                    have := ge_of_nI c_17 (by have := et_le (kd := kd) (x := s2.1) hn6; omega)
                    omega
                  have hsub : i' 0 = i' 0 := rfl
                  refine z_aload_n C (pc := 77) dX1_go_77 rfl ?_
                  refine z_dup C (pc := 78) dX1_go_78 rfl ?_
                  refine z_get C (pc := 79) 3 rfl rfl wf_X1 4 (by decide) rfl wl_X1_43 (v := .int (i14 6)) rfl dX1_go_79 ?_
                  refine z_aload_n C (pc := 82) dX1_go_82 rfl ?_
                  refine z_get C (pc := 83) 3 rfl rfl wf_X1 6 (by decide) rfl wl_X1_46 (v := .int (i14 8)) rfl dX1_go_83 ?_
                  refine z_isub C (pc := 86) dX1_go_86 ?_
                  refine z_put C (pc := 87) 3 rfl rfl wf_X1 4 (by decide) rfl tyX1 tyX1_ok nmX1 rfl rfl rfl (Nat.le_of_ble_eq_true rfl) (ws' := (cW cI a (upd i14 6 ((i14 6) - (i14 8))) r')) rfl wl_X1_43 dX1_go_87 ?_
                  refine z_iload C (pc := 90) dX1_go_90 rfl ?_
                  refine z_if_ne C (pc := 92) (tgt := 105) dX1_go_92 (by decide) (fun c_18 => ?_) (fun c_18 => ?_)
                  · refine z_iinc C (pc := 105) (v := ((nI (j + 1)) + 1)) (lv' := [(0, .ref (a 3)), (1, .int (nI x)), (2, .int (nI st)), (3, .int (nI f)), (4, .int ((nI (j + 1)) + 1)), (5, .int 1)]) dX1_go_105 rfl rfl (Nat.le_of_ble_eq_true rfl) rfl rfl ?_
                    refine z_goto C (pc := 108) (tgt := 9) dX1_go_108 (by decide) ?_
                    have hrs : runv kd n st (j + 1) (x, min f (sumk pls kd x n), c, 0) = (s2.1, s2.2 - sumk ets kd s2.1 n, z.2.2.1, 0) := by rw [run_s (by rw [hzz]; exact hd), hzz]; exact leg_out hov hnd hout
                    have hps2 : PS (upd i14 6 (i14 6 - i14 8)) kd n s2.1 (s2.2 - sumk ets kd s2.1 n) := ⟨by rw [upd_n (by decide)]; exact b3.1, by rw [upd_s, b3.2.1, b3.2.2.2, pk_sub (by omega)], by rw [upd_n (by decide)]; exact b3.2.2.1, by rw [upd_n (by decide)]; exact b3.2.2.2⟩
                    refine z_lv (lv' := [(0, .ref (a 3)), (1, .int (nI x)), (2, .int (nI st)), (3, .int (nI f)), (4, .int (nI ((j + 1) + 1)))]) ⟨rfl, rfl, rfl, rfl, lki (nI_1 _), trivial⟩ ?_
                    exact ih9 (j + 1) (upd i14 6 ((i14 6) - (i14 8))) r' (by omega) hjl (by rw [hrs]) (hsp2.up (by omega)) hsr (by rw [upd_n (by decide)]; exact h92) (by rw [hrs]; exact hps2) (by rw [hrs]; exact hc2)
                  · exact absurd c_18 (by decide)
                · have hdie : s2.1 = 0 ∨ s2.2 < sumk ets kd s2.1 n := Or.inr (by
                    rw [b3.2.2.2, b3.2.1] at c_17
                    exact lt_of_nI c_17 (by have := oko.2; have := pl_le (kd := kd) (x := s2.1) hn6; omega))
                  refine z_aload_n C (pc := 69) dX1_go_69 rfl ?_
                  refine z_iload C (pc := 70) dX1_go_70 rfl ?_
                  refine z_callvF C (by exact fun _ => cW_ad) (runV C (wc := (cW cI a i14 r')) (pc := 72) (rY' := rm 0 0) (nn := 1) (As := [.int (nI (j + 1))]) (rest := []) (c_dieOn l D cI tt a i14 r' (nI (j + 1))) (full_hC _) (full_nd _) ⟨rfl, rfl, ⟨Nat.le_of_ble_eq_true rfl, Nat.le_of_ble_eq_true rfl⟩, Nat.le_of_ble_eq_true rfl, Nat.le_of_ble_eq_true rfl⟩ wl_X1_49 wm_X1_dieOn we_X1_dieOn wi_X1 wc_X1_dieOn (by decide +kernel) rfl 3 rfl rfl rfl rfl (Nat.le_of_ble_eq_true rfl) dX1_go_72) (fun u_19 h_19 => ?_)
                  generalize u_19 = i19 at h_19 ⊢
                  obtain ⟨e1, e5, e6, e9⟩ := h_19
                  refine z_ws (st' := []) (ws' := (cW cI a i19 r')) rfl rfl ?_
                  refine z_iconst C (pc := 75) (v := 0) dX1_go_75 (by decide) ?_
                  refine z_zret C (pc := 76) (i19, r') dX1_go_76 rfl ?_ rfl
                  have hrs : runv kd n st (j + 1) (x, min f (sumk pls kd x n), c, 0) = (0, 0, z.2.2.1, j + 1) := by rw [run_s (by rw [hzz]; exact hd), hzz]; exact leg_die hov hdie
                  have hme : marv kd n x st f c = (0, 0, z.2.2.1, j + 1) := by rw [mar_end hjl (by rw [hrs]; simp), hrs]
                  rw [hme]
                  exact ⟨by simp, hsp2.tr e1, hsr, e5, e6, e9, hc2⟩
            · have hsk : 3 ≤ j + 1 - 1 := by
                rw [nI_pred] at c_13
                have := Nat.le_of_not_lt (fun h => c_13 (nI_lt (a := j) (b := 3) h (by omega)))
                omega
              refine z_aload_n C (pc := 43) dX1_go_43 rfl ?_
              refine z_callvF C (by exact fun _ => cW_ad) (runV C (wc := (cW cI a i' r')) (pc := 44) (rY' := rm 2 43) (nn := 0) (As := []) (rest := []) (c_eatPonies l D cI tt a i' r' kd n z.1 z.2.1 hv' hps hok) (full_hC _) (full_nd _) ⟨rfl, rfl, ⟨Nat.le_of_ble_eq_true rfl, Nat.le_of_ble_eq_true rfl⟩, Nat.le_of_ble_eq_true rfl, Nat.le_of_ble_eq_true rfl⟩ wl_X1_34 wm_X1_eatPonies we_X1_eatPonies wi_X1 wc_X1_eatPonies (by decide +kernel) rfl 3 rfl rfl rfl rfl (Nat.le_of_ble_eq_true rfl) dX1_go_44) (fun u_20 h_20 => ?_)
              generalize u_20 = i20 at h_20 ⊢
              obtain ⟨k1, k2, k3⟩ := h_20
              have kok := pon_ok hn6 n (z.1, z.2.1) (Nat.le_refl _) hok
              have hv2 := hv'.sp k1 (SR.rf (r := r'))
              refine z_ws (st' := []) (ws' := (cW cI a i20 r')) rfl rfl ?_
              refine z_aload_n C (pc := 47) dX1_go_47 rfl ?_
              refine z_callvF C (by exact fun _ => cW_ad) (runV C (wc := (cW cI a i20 r')) (pc := 48) (rY' := rm 2 43) (nn := 0) (As := []) (rest := []) (c_eatBeasts l D cI tt a i20 r' kd n (pon kd n n (z.1, z.2.1)).1 (pon kd n n (z.1, z.2.1)).2 hv2 k3 kok) (full_hC _) (full_nd _) ⟨rfl, rfl, ⟨Nat.le_of_ble_eq_true rfl, Nat.le_of_ble_eq_true rfl⟩, Nat.le_of_ble_eq_true rfl, Nat.le_of_ble_eq_true rfl⟩ wl_X1_37 wm_X1_eatBeasts we_X1_eatBeasts wi_X1 wc_X1_eatBeasts (by decide +kernel) rfl 3 rfl rfl rfl rfl (Nat.le_of_ble_eq_true rfl) dX1_go_48) (fun u_21 h_21 => ?_)
              generalize u_21 = i21 at h_21 ⊢
              obtain ⟨b1, b2, b3⟩ := h_21
              have hsp2 := (hsp.tr k1).tr b1
              have h92 : i21 9 = 0 := b2.trans (k2.trans h9)
              have hov : outv kd n st (j + 1) (z.1, z.2.1) = bea kd n n (pon kd n n (z.1, z.2.1)) := out_p hout hsk
              have oko := outv_ok (st := st) (j := j + 1) (s := (z.1, z.2.1)) hn6 hok
              rw [hov] at oko
              generalize bea kd n n (pon kd n n (z.1, z.2.1)) = s2 at hov b3 oko
              refine z_ws (st' := []) (ws' := (cW cI a i21 r')) rfl rfl ?_
              refine z_aload_n C (pc := 51) dX1_go_51 rfl ?_
              refine z_get C (pc := 52) 3 rfl rfl wf_X1 3 (by decide) rfl wl_X1_40 (v := .int (i21 5)) rfl dX1_go_52 ?_
              refine z_if_eq C (pc := 55) (tgt := 69) dX1_go_55 (by decide) (fun c_22 => ?_) (fun c_22 => ?_)
              · have hdie : s2.1 = 0 ∨ s2.2 < sumk ets kd s2.1 n := Or.inl (by
                  rw [b3.1] at c_22
                  exact (nI_eq (b := 0) (by have := oko.1; omega) (by omega)).mp c_22)
                refine z_aload_n C (pc := 69) dX1_go_69 rfl ?_
                refine z_iload C (pc := 70) dX1_go_70 rfl ?_
                refine z_callvF C (by exact fun _ => cW_ad) (runV C (wc := (cW cI a i21 r')) (pc := 72) (rY' := rm 0 0) (nn := 1) (As := [.int (nI (j + 1))]) (rest := []) (c_dieOn l D cI tt a i21 r' (nI (j + 1))) (full_hC _) (full_nd _) ⟨rfl, rfl, ⟨Nat.le_of_ble_eq_true rfl, Nat.le_of_ble_eq_true rfl⟩, Nat.le_of_ble_eq_true rfl, Nat.le_of_ble_eq_true rfl⟩ wl_X1_49 wm_X1_dieOn we_X1_dieOn wi_X1 wc_X1_dieOn (by decide +kernel) rfl 3 rfl rfl rfl rfl (Nat.le_of_ble_eq_true rfl) dX1_go_72) (fun u_23 h_23 => ?_)
                generalize u_23 = i23 at h_23 ⊢
                obtain ⟨e1, e5, e6, e9⟩ := h_23
                refine z_ws (st' := []) (ws' := (cW cI a i23 r')) rfl rfl ?_
                refine z_iconst C (pc := 75) (v := 0) dX1_go_75 (by decide) ?_
                refine z_zret C (pc := 76) (i23, r') dX1_go_76 rfl ?_ rfl
                have hrs : runv kd n st (j + 1) (x, min f (sumk pls kd x n), c, 0) = (0, 0, z.2.2.1, j + 1) := by rw [run_s (by rw [hzz]; exact hd), hzz]; exact leg_die hov hdie
                have hme : marv kd n x st f c = (0, 0, z.2.2.1, j + 1) := by rw [mar_end hjl (by rw [hrs]; simp), hrs]
                rw [hme]
                exact ⟨by simp, hsp2.tr e1, hsr, e5, e6, e9, hc2⟩
              · have hal : s2.1 ≠ 0 := fun h => c_22 (by rw [b3.1, h]; rfl)
                refine z_aload_n C (pc := 58) dX1_go_58 rfl ?_
                refine z_get C (pc := 59) 3 rfl rfl wf_X1 4 (by decide) rfl wl_X1_43 (v := .int (i21 6)) rfl dX1_go_59 ?_
                refine z_aload_n C (pc := 62) dX1_go_62 rfl ?_
                refine z_get C (pc := 63) 3 rfl rfl wf_X1 6 (by decide) rfl wl_X1_46 (v := .int (i21 8)) rfl dX1_go_63 ?_
                refine z_icmp_ge C (pc := 66) (tgt := 77) dX1_go_66 (by decide) (fun c_24 => ?_) (fun c_24 => ?_)
                · have hnd : ¬ (s2.1 = 0 ∨ s2.2 < sumk ets kd s2.1 n) := by
                    rw [b3.2.2.2, b3.2.1] at c_24
                    have := ge_of_nI c_24 (by have := et_le (kd := kd) (x := s2.1) hn6; omega)
                    omega
                  have hsub : i' 0 = i' 0 := rfl
                  refine z_aload_n C (pc := 77) dX1_go_77 rfl ?_
                  refine z_dup C (pc := 78) dX1_go_78 rfl ?_
                  refine z_get C (pc := 79) 3 rfl rfl wf_X1 4 (by decide) rfl wl_X1_43 (v := .int (i21 6)) rfl dX1_go_79 ?_
                  refine z_aload_n C (pc := 82) dX1_go_82 rfl ?_
                  refine z_get C (pc := 83) 3 rfl rfl wf_X1 6 (by decide) rfl wl_X1_46 (v := .int (i21 8)) rfl dX1_go_83 ?_
                  refine z_isub C (pc := 86) dX1_go_86 ?_
                  refine z_put C (pc := 87) 3 rfl rfl wf_X1 4 (by decide) rfl tyX1 tyX1_ok nmX1 rfl rfl rfl (Nat.le_of_ble_eq_true rfl) (ws' := (cW cI a (upd i21 6 ((i21 6) - (i21 8))) r')) rfl wl_X1_43 dX1_go_87 ?_
                  refine z_iload C (pc := 90) dX1_go_90 rfl ?_
                  refine z_if_ne C (pc := 92) (tgt := 105) dX1_go_92 (by decide) (fun c_25 => ?_) (fun c_25 => ?_)
                  · refine z_iinc C (pc := 105) (v := ((nI (j + 1)) + 1)) (lv' := [(0, .ref (a 3)), (1, .int (nI x)), (2, .int (nI st)), (3, .int (nI f)), (4, .int ((nI (j + 1)) + 1)), (5, .int 1)]) dX1_go_105 rfl rfl (Nat.le_of_ble_eq_true rfl) rfl rfl ?_
                    refine z_goto C (pc := 108) (tgt := 9) dX1_go_108 (by decide) ?_
                    have hrs : runv kd n st (j + 1) (x, min f (sumk pls kd x n), c, 0) = (s2.1, s2.2 - sumk ets kd s2.1 n, z.2.2.1, 0) := by rw [run_s (by rw [hzz]; exact hd), hzz]; exact leg_out hov hnd hout
                    have hps2 : PS (upd i21 6 (i21 6 - i21 8)) kd n s2.1 (s2.2 - sumk ets kd s2.1 n) := ⟨by rw [upd_n (by decide)]; exact b3.1, by rw [upd_s, b3.2.1, b3.2.2.2, pk_sub (by omega)], by rw [upd_n (by decide)]; exact b3.2.2.1, by rw [upd_n (by decide)]; exact b3.2.2.2⟩
                    refine z_lv (lv' := [(0, .ref (a 3)), (1, .int (nI x)), (2, .int (nI st)), (3, .int (nI f)), (4, .int (nI ((j + 1) + 1)))]) ⟨rfl, rfl, rfl, rfl, lki (nI_1 _), trivial⟩ ?_
                    exact ih9 (j + 1) (upd i21 6 ((i21 6) - (i21 8))) r' (by omega) hjl (by rw [hrs]) (hsp2.up (by omega)) hsr (by rw [upd_n (by decide)]; exact h92) (by rw [hrs]; exact hps2) (by rw [hrs]; exact hc2)
                  · exact absurd c_25 (by decide)
                · have hdie : s2.1 = 0 ∨ s2.2 < sumk ets kd s2.1 n := Or.inr (by
                    rw [b3.2.2.2, b3.2.1] at c_24
                    exact lt_of_nI c_24 (by have := oko.2; have := pl_le (kd := kd) (x := s2.1) hn6; omega))
                  refine z_aload_n C (pc := 69) dX1_go_69 rfl ?_
                  refine z_iload C (pc := 70) dX1_go_70 rfl ?_
                  refine z_callvF C (by exact fun _ => cW_ad) (runV C (wc := (cW cI a i21 r')) (pc := 72) (rY' := rm 0 0) (nn := 1) (As := [.int (nI (j + 1))]) (rest := []) (c_dieOn l D cI tt a i21 r' (nI (j + 1))) (full_hC _) (full_nd _) ⟨rfl, rfl, ⟨Nat.le_of_ble_eq_true rfl, Nat.le_of_ble_eq_true rfl⟩, Nat.le_of_ble_eq_true rfl, Nat.le_of_ble_eq_true rfl⟩ wl_X1_49 wm_X1_dieOn we_X1_dieOn wi_X1 wc_X1_dieOn (by decide +kernel) rfl 3 rfl rfl rfl rfl (Nat.le_of_ble_eq_true rfl) dX1_go_72) (fun u_26 h_26 => ?_)
                  generalize u_26 = i26 at h_26 ⊢
                  obtain ⟨e1, e5, e6, e9⟩ := h_26
                  refine z_ws (st' := []) (ws' := (cW cI a i26 r')) rfl rfl ?_
                  refine z_iconst C (pc := 75) (v := 0) dX1_go_75 (by decide) ?_
                  refine z_zret C (pc := 76) (i26, r') dX1_go_76 rfl ?_ rfl
                  have hrs : runv kd n st (j + 1) (x, min f (sumk pls kd x n), c, 0) = (0, 0, z.2.2.1, j + 1) := by rw [run_s (by rw [hzz]; exact hd), hzz]; exact leg_die hov hdie
                  have hme : marv kd n x st f c = (0, 0, z.2.2.1, j + 1) := by rw [mar_end hjl (by rw [hrs]; simp), hrs]
                  rw [hme]
                  exact ⟨by simp, hsp2.tr e1, hsr, e5, e6, e9, hc2⟩
  refine z_lv (lv' := [(0, .ref (a 3)), (1, .int (nI x)), (2, .int (nI st)), (3, .int (nI f)), (4, .int (nI (0 + 1)))]) ⟨rfl, rfl, rfl, rfl, rfl, trivial⟩ ?_
  exact key9 (_ + 1) 0 i1 r (Nat.lt_succ_self _) (Nat.zero_le _) rfl q1 SR.rf q2 q3 (fun k hk => (hc k hk).1)
