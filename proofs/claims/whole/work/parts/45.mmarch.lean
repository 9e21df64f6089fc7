def GMm (i : Nat → Int32) (r : Nat → Nat → Int32) (i' : Nat → Int32) (r' : Nat → Nat → Int32) (m : MS) : Prop := GSm i r i' r' m ∧ i' 12 = nI m.2.2.2
theorem GMm.sp {i i' : Nat → Int32} {r r' : Nat → Nat → Int32} {m : MS} (h : GMm i r i' r' m) : SPm i i' := h.1.1
theorem GMm.sr {i i' : Nat → Int32} {r r' : Nat → Nat → Int32} {m : MS} (h : GMm i r i' r' m) : SRm r r' := h.1.2.1
theorem gt_nI {x y : Nat} (hx : x < 2 ^ 31) (hy : y < 2 ^ 31) : nI x < nI y ↔ x < y := nI_ltI hx hy
theorem run_day {kd : Nat → Nat} {n st : Nat} {x f : Nat} {c : Nat → Nat} : ∀ (j : Nat), j + 1 ≤ 2 * st → st ≤ 6 → (runv kd n st j (x, f, c, 0)).2.2.2 ≤ 12
  | 0, _, _ => Nat.zero_le _
  | j + 1, h, h2 => by
    by_cases e : (runv kd n st j (x, f, c, 0)).2.2.2 = 0
    · rw [run_s e]
      rcases leg_day (kd := kd) (n := n) (st := st) (j := j + 1) (z := runv kd n st j (x, f, c, 0)) with q | q
      · omega
      · omega
    · rw [runv_dead e 1]; exact run_day j (by omega) h2
set_option maxHeartbeats 4000000 in
set_option maxRecDepth 100000 in
theorem m_goMarchF (l : Launch) (D : va_G) (cI : ClassId) (tt : Nat × Nat × Nat) (b : Nat → Nat) (i : Nat → Int32) (r : Nat → Nat → Int32) (h : Int64) (kd : Nat → Nat) (n : Nat) (hv : PVm i r kd n) (x st f : Nat) (hx : x < 2 ^ n) (hst : st ≤ 6) (hf : f ≤ 40) (c : Nat → Nat) (hc : ∀ k, k < 5 → r 2 (k + 1) = nI (c k) ∧ c k ≤ 9) : MetV (S := ((Nat → Int32) × (Nat → Nat → Int32))) l yX4_goMarch cX4_goMarch 8 none (rm 5 111) D cI tt [.ref (b 0), .int (nI x), .int (nI st), .int (nI f), .ref (b 3)] (mW cI b i r h) (fun u => GMm i r u.1 u.2 (marv kd n x st f c)) (fun u => mW cI b u.1 u.2 h) := by
  have hn6 := hv.2.1
  have hx6 := pow_le6 hn6
  have hpl := pl_le (kd := kd) (x := x) hn6
  have hcc : ∀ k, k < 5 → c k ≤ 9 := fun k hk => (hc k hk).2
  refine met_ofV (by decide) (Nat.le_of_ble_eq_true rfl) ?_
  intro pP eE sS mM aV bB mE cC AA C hin
  refine z_conv (lv' := [(0, .ref (b 0)), (1, .int (nI x)), (2, .int (nI st)), (3, .int (nI f)), (4, .ref (b 3))]) ⟨rfl, rfl, rfl, rfl, rfl, trivial⟩ rfl rfl ?_
  refine z_aload C (pc := 0) dX4_goMarch_0 rfl ?_
  refine z_aload_n C (pc := 2) dX4_goMarch_2 rfl ?_
  refine z_get C (pc := 3) 0 rfl rfl wf_X4 13 (by decide) rfl wl_X4_19 (v := .ref (b 4)) rfl dX4_goMarch_3 ?_
  refine z_callv C (isC := [3, 4]) rfl (by exact fun _ => rfl) (runS C (wc := [(b 3, .inl (cI, 7, .inl (r 2))), (b 4, .inl (cI, 7, .inl (r 3)))]) (pc := 6) (rY' := rm 0 0) (nn := 2) (As := [.ref (b 3), .ref (b 4)]) (rest := []) (m_copy l D cI tt (b 3) 7 (b 4) 7 (r 2) (r 3) (by decide) (by decide)) rfl rfl ⟨rfl, rfl, ⟨Nat.le_of_ble_eq_true rfl, Nat.le_of_ble_eq_true rfl⟩, Nat.le_of_ble_eq_true rfl, Nat.le_of_ble_eq_true rfl⟩ wl_X4_148 ws_X4_copy wi_X4 wc_X4_copy (by decide +kernel) rfl rfl (Nat.le_of_ble_eq_true rfl) dX4_goMarch_6) (fun u_1 h_1 => ?_)
  subst h_1
  refine z_ws (st' := []) (ws' := (mW cI b i (va_up r 3 (cqv (r 2) (r 3) 7)) h)) rfl rfl ?_
  refine z_aload_n C (pc := 9) dX4_goMarch_9 rfl ?_
  refine z_iload_n C (pc := 10) dX4_goMarch_10 rfl ?_
  refine z_put C (pc := 11) 0 rfl rfl wf_X4 10 (by decide) rfl tyX4 tyX4_ok nmX4 rfl rfl rfl (Nat.le_of_ble_eq_true rfl) (ws' := (mW cI b (upd i 10 (nI x)) (va_up r 3 (cqv (r 2) (r 3) 7)) h)) rfl wl_X4_125 dX4_goMarch_11 ?_
  refine z_aload_n C (pc := 14) dX4_goMarch_14 rfl ?_
  refine z_iload_n C (pc := 15) dX4_goMarch_15 rfl ?_
  refine z_put C (pc := 16) 0 rfl rfl wf_X4 11 (by decide) rfl tyX4 tyX4_ok nmX4 rfl rfl rfl (Nat.le_of_ble_eq_true rfl) (ws' := (mW cI b (upd (upd i 10 (nI x)) 11 (nI f)) (va_up r 3 (cqv (r 2) (r 3) 7)) h)) rfl wl_X4_128 dX4_goMarch_16 ?_
  refine z_aload_n C (pc := 19) dX4_goMarch_19 rfl ?_
  refine z_callvF C (by exact fun _ => mW_ad) (runV C (wc := (mW cI b (upd (upd i 10 (nI x)) 11 (nI f)) (va_up r 3 (cqv (r 2) (r 3) 7)) h)) (pc := 20) (rY' := rm 2 44) (nn := 0) (As := []) (rest := []) (m_keepPulled l D cI tt b (upd (upd i 10 (nI x)) 11 (nI f)) (va_up r 3 (cqv (r 2) (r 3) 7)) h kd n (hv.sp ((SPm.rf.up (by omega)).up (by omega)) SRm.rf.up) x f (by omega) (by omega) ⟨by simp [upd], by simp [upd]⟩) (full_hC _) (full_nd _) ⟨rfl, rfl, ⟨Nat.le_of_ble_eq_true rfl, Nat.le_of_ble_eq_true rfl⟩, Nat.le_of_ble_eq_true rfl, Nat.le_of_ble_eq_true rfl⟩ wl_X4_131 wm_X4_keepPulled we_X4_keepPulled wi_X4 wc_X4_keepPulled (by decide +kernel) rfl 0 rfl rfl rfl rfl (Nat.le_of_ble_eq_true rfl) dX4_goMarch_20) (fun u_2 h_2 => ?_)
  generalize u_2 = i2 at h_2 ⊢
  obtain ⟨k1, k2, k3⟩ := h_2
  have k4 := ((SPm.rf (i := i)).up (k := 10) (v := nI x) (by omega)).up (k := 11) (v := nI f) (by omega)
  refine z_ws (st' := []) (ws' := (mW cI b i2 (va_up r 3 (cqv (r 2) (r 3) 7)) h)) rfl rfl ?_
  refine z_aload_n C (pc := 23) dX4_goMarch_23 rfl ?_
  refine z_iconst C (pc := 24) (v := 0) dX4_goMarch_24 (by decide) ?_
  refine z_put C (pc := 25) 0 rfl rfl wf_X4 12 (by decide) rfl tyX4 tyX4_ok nmX4 rfl rfl rfl (Nat.le_of_ble_eq_true rfl) (ws' := (mW cI b (upd i2 12 0) (va_up r 3 (cqv (r 2) (r 3) 7)) h)) rfl wl_X4_152 dX4_goMarch_25 ?_
  refine z_iconst C (pc := 28) (v := 1) dX4_goMarch_28 (by decide) ?_
  refine z_istore C (pc := 29) (lv' := [(0, .ref (b 0)), (1, .int (nI x)), (2, .int (nI st)), (3, .int (nI f)), (4, .ref (b 3)), (5, .int 1)]) dX4_goMarch_29 (Nat.le_of_ble_eq_true rfl) rfl rfl ?_
  have key31 : ∀ (fu31 : Nat) (j : Nat) (i' : Nat → Int32) (r' : Nat → Nat → Int32), 2 * st - j < fu31 → (j ≤ 2 * st) → (GMm i r i' r' (runv kd n st j (x, min f (sumk pls kd x n), c, 0))) → Z pP l eE (rm 5 111) sS mM aV bB mE cC D AA 8 0 0 (MQ bB (va_Qv (S := ((Nat → Int32) × (Nat → Nat → Int32))) (fun u => GMm i r u.1 u.2 (marv kd n x st f c)) (fun u t => va_P D vwCl ((fun u => mW cI b u.1 u.2 h) u) t.heap) AA) aV sS 0 0 AA) 31 [(0, .ref (b 0)), (1, .int (nI x)), (2, .int (nI st)), (3, .int (nI f)), (4, .ref (b 3)), (5, .int (nI (j + 1)))] [] (mW cI b i' r' h) := by
    intro fu31
    induction fu31 with
    | zero => intro j i' r' hfu31; exact absurd hfu31 (Nat.not_lt_zero _)
    | succ fu31 ih31 =>
      intro j i' r' hfu31 hj hgm
      refine z_iload C (pc := 31) dX4_goMarch_31 rfl ?_
      refine z_iconst C (pc := 33) (v := 2) dX4_goMarch_33 (by decide) ?_
      refine z_iload_n C (pc := 34) dX4_goMarch_34 rfl ?_
      refine z_imul C (pc := 35) dX4_goMarch_35 ?_
      refine z_icmp_gt C (pc := 36) (tgt := 108) dX4_goMarch_36 (by decide) (fun c_3 => ?_) (fun c_3 => ?_)
      · have hje : j = 2 * st := by
          rw [two_mul_nI] at c_3
          have := (gt_nI (x := 2 * st) (y := j + 1) (by omega) (by omega)).mp c_3
          omega
        refine z_vret C (pc := 108) (i', r') dX4_goMarch_108 ?_ rfl
        subst hje
        exact hgm
      · have hjl : j + 1 ≤ 2 * st := by
          rw [two_mul_nI] at c_3
          exact Nat.le_of_not_lt (fun h => c_3 (nI_lt h (by omega)))
        refine z_aload_n C (pc := 39) dX4_goMarch_39 rfl ?_
        refine z_get C (pc := 40) 0 rfl rfl wf_X4 12 (by decide) rfl wl_X4_152 (v := .int (i' 12)) rfl dX4_goMarch_40 ?_
        refine z_if_ne C (pc := 43) (tgt := 108) dX4_goMarch_43 (by decide) (fun c_4 => ?_) (fun c_4 => ?_)
        · have hdd : (runv kd n st j (x, min f (sumk pls kd x n), c, 0)).2.2.2 ≠ 0 := fun e => c_4 (by rw [hgm.2, e]; rfl)
          refine z_vret C (pc := 108) (i', r') dX4_goMarch_108 ?_ rfl
          have hm : (marv kd n x st f c) = (runv kd n st j (x, min f (sumk pls kd x n), c, 0)) := mar_end hj hdd
          rw [hm]; exact hgm
        · have hmk := runv_ok (kd := kd) (st := st) hn6 j (x, min f (sumk pls kd x n), c, 0) (mok0 (kd := kd) (f := f) hx hcc)
          have hdz : (runv kd n st j (x, min f (sumk pls kd x n), c, 0)).2.2.2 = 0 := by
            rw [hgm.2] at c_4
            have hday : (runv kd n st j (x, min f (sumk pls kd x n), c, 0)).2.2.2 ≤ 12 := run_day j hjl hst
            exact nI_z (by omega) c_4
          have hv' := hv.sp hgm.sp hgm.sr
          have hrs := run_s (j := j) (st := st) (kd := kd) (n := n) hdz
          generalize hzz : (runv kd n st j (x, min f (sumk pls kd x n), c, 0)) = z at hgm hmk hdz hrs
          have hc2 : ∀ k, k < 5 → r' 3 (k + 1) = nI (z.2.2.1 k) ∧ z.2.2.1 k ≤ 9 := fun k hk => ⟨hgm.1.2.2.2 k hk, hmk.2.1 k hk⟩
          refine z_iload C (pc := 46) dX4_goMarch_46 rfl ?_
          refine z_iload_n C (pc := 48) dX4_goMarch_48 rfl ?_
          refine z_icmp_gt C (pc := 49) (tgt := 56) dX4_goMarch_49 (by decide) (fun c_5 => ?_) (fun c_5 => ?_)
          · have hjs : ¬ j + 1 ≤ st := fun h => nI_nlt h (by omega) c_5
            refine z_iconst C (pc := 56) (v := 0) dX4_goMarch_56 (by decide) ?_
            refine z_istore C (pc := 57) (lv' := [(0, .ref (b 0)), (1, .int (nI x)), (2, .int (nI st)), (3, .int (nI f)), (4, .ref (b 3)), (5, .int (nI (j + 1))), (6, .int 0)]) dX4_goMarch_57 (Nat.le_of_ble_eq_true rfl) rfl rfl ?_
            refine z_aload_n C (pc := 59) dX4_goMarch_59 rfl ?_
            refine z_iload C (pc := 60) dX4_goMarch_60 rfl ?_
            refine z_if_eq C (pc := 62) (tgt := 72) dX4_goMarch_62 (by decide) (fun c_6 => ?_) (fun c_6 => ?_)
            · refine z_iconst C (pc := 72) (v := 2) dX4_goMarch_72 (by decide) ?_
              refine z_iload_n C (pc := 73) dX4_goMarch_73 rfl ?_
              refine z_imul C (pc := 74) dX4_goMarch_74 ?_
              refine z_iload C (pc := 75) dX4_goMarch_75 rfl ?_
              refine z_isub C (pc := 77) dX4_goMarch_77 ?_
              refine z_iconst C (pc := 78) (v := 1) dX4_goMarch_78 (by decide) ?_
              refine z_iadd C (pc := 79) dX4_goMarch_79 ?_
              refine z_seti (y := nI (2 * st - (j + 1) + 1)) (by rw [two_mul_nI, pk_sub hjl]; exact nI_1 _) ?_
              refine z_iload C (pc := 80) dX4_goMarch_80 rfl ?_
              refine z_calliF C (by exact fun _ => mW_ad) (runV C (wc := (mW cI b i' r' h)) (pc := 82) (rY' := rm 4 86) (nn := 2) (As := [.int (nI (2 * st - (j + 1) + 1)), .int 0]) (rest := []) (m_goHome l D cI tt b i' r' h kd n hv' z.1 z.2.1 hmk.1 hgm.1.2.2.1 z.2.2.1 hc2 z.2.2.2 st (j + 1) _ (by omega) hjl hst hjs rfl) (full_hC _) (full_nd _) ⟨rfl, rfl, ⟨Nat.le_of_ble_eq_true rfl, Nat.le_of_ble_eq_true rfl⟩, Nat.le_of_ble_eq_true rfl, Nat.le_of_ble_eq_true rfl⟩ wl_X4_155 wm_X4_goStage we_X4_goStage wi_X4 wc_X4_goStage (by decide +kernel) rfl 0 rfl rfl rfl rfl (Nat.le_of_ble_eq_true rfl) dX4_goMarch_82) (fun q_7 u_7 h_7 => ?_)
              obtain ⟨i7, r7⟩ := u_7
              try dsimp only at h_7
              obtain ⟨g0, g1, g2⟩ := h_7
              subst g0
              refine z_ws (st' := [.int (b2 (decide ((legv kd n st (j + 1) z).2.2.2 = 0)))]) (ws' := (mW cI b i7 r7 h)) rfl rfl ?_
              refine z_istore C (pc := 85) (lv' := [(0, .ref (b 0)), (1, .int (nI x)), (2, .int (nI st)), (3, .int (nI f)), (4, .ref (b 3)), (5, .int (nI (j + 1))), (6, .int 0), (7, .int (b2 (decide ((legv kd n st (j + 1) z).2.2.2 = 0))))]) dX4_goMarch_85 (Nat.le_of_ble_eq_true rfl) rfl rfl ?_
              refine z_aload_n C (pc := 87) dX4_goMarch_87 rfl ?_
              refine z_iload C (pc := 88) dX4_goMarch_88 rfl ?_
              refine z_if_eq C (pc := 90) (tgt := 97) dX4_goMarch_90 (by decide) (fun c_8 => ?_) (fun c_8 => ?_)
              · have hdy : (legv kd n st (j + 1) z).2.2.2 = j + 1 := leg_day.resolve_left (of_decide_eq_false (b2_f c_8))
                refine z_iload C (pc := 97) dX4_goMarch_97 rfl ?_
                refine z_put C (pc := 99) 0 rfl rfl wf_X4 12 (by decide) rfl tyX4 tyX4_ok nmX4 rfl rfl rfl (Nat.le_of_ble_eq_true rfl) (ws' := (mW cI b (upd i7 12 (nI (j + 1))) r7 h)) rfl wl_X4_152 dX4_goMarch_99 ?_
                refine z_iinc C (pc := 102) (v := ((nI (j + 1)) + 1)) (lv' := [(0, .ref (b 0)), (1, .int (nI x)), (2, .int (nI st)), (3, .int (nI f)), (4, .ref (b 3)), (5, .int ((nI (j + 1)) + 1)), (6, .int 0), (7, .int (b2 (decide ((legv kd n st (j + 1) z).2.2.2 = 0))))]) dX4_goMarch_102 rfl rfl (Nat.le_of_ble_eq_true rfl) rfl rfl ?_
                refine z_goto C (pc := 105) (tgt := 31) dX4_goMarch_105 (by decide) ?_
                have hgn : GMm i r (upd i7 12 (nI (j + 1))) r7 (runv kd n st (j + 1) (x, min f (sumk pls kd x n), c, 0)) := by
                  rw [hrs]
                  exact ⟨⟨(hgm.sp.tr g2.1).up (by omega), hgm.sr.tr g2.2.1, g2.2.2.1.up12, g2.2.2.2⟩, by rw [upd_s, hdy]⟩
                refine z_lv (lv' := [(0, .ref (b 0)), (1, .int (nI x)), (2, .int (nI st)), (3, .int (nI f)), (4, .ref (b 3)), (5, .int (nI ((j + 1) + 1)))]) ⟨rfl, rfl, rfl, rfl, rfl, lki (nI_1 _), trivial⟩ ?_
                exact ih31 (j + 1) (upd i7 12 (nI (j + 1))) r7 (by omega) hjl hgn
              · have hdy : (legv kd n st (j + 1) z).2.2.2 = 0 := of_decide_eq_true (b2_t c_8)
                refine z_iconst C (pc := 93) (v := 0) dX4_goMarch_93 (by decide) ?_
                refine z_goto C (pc := 94) (tgt := 99) dX4_goMarch_94 (by decide) ?_
                refine z_put C (pc := 99) 0 rfl rfl wf_X4 12 (by decide) rfl tyX4 tyX4_ok nmX4 rfl rfl rfl (Nat.le_of_ble_eq_true rfl) (ws' := (mW cI b (upd i7 12 0) r7 h)) rfl wl_X4_152 dX4_goMarch_99 ?_
                refine z_iinc C (pc := 102) (v := ((nI (j + 1)) + 1)) (lv' := [(0, .ref (b 0)), (1, .int (nI x)), (2, .int (nI st)), (3, .int (nI f)), (4, .ref (b 3)), (5, .int ((nI (j + 1)) + 1)), (6, .int 0), (7, .int (b2 (decide ((legv kd n st (j + 1) z).2.2.2 = 0))))]) dX4_goMarch_102 rfl rfl (Nat.le_of_ble_eq_true rfl) rfl rfl ?_
                refine z_goto C (pc := 105) (tgt := 31) dX4_goMarch_105 (by decide) ?_
                have hgn : GMm i r (upd i7 12 0) r7 (runv kd n st (j + 1) (x, min f (sumk pls kd x n), c, 0)) := by
                  rw [hrs]
                  exact ⟨⟨(hgm.sp.tr g2.1).up (by omega), hgm.sr.tr g2.2.1, g2.2.2.1.up12, g2.2.2.2⟩, by rw [upd_s, hdy]; rfl⟩
                refine z_lv (lv' := [(0, .ref (b 0)), (1, .int (nI x)), (2, .int (nI st)), (3, .int (nI f)), (4, .ref (b 3)), (5, .int (nI ((j + 1) + 1)))]) ⟨rfl, rfl, rfl, rfl, rfl, lki (nI_1 _), trivial⟩ ?_
                exact ih31 (j + 1) (upd i7 12 0) r7 (by omega) hjl hgn
            · exact absurd c_6 (by decide)
          · have hjs : j + 1 ≤ st := Nat.le_of_not_lt (fun h => c_5 (nI_lt h (by omega)))
            refine z_iconst C (pc := 52) (v := 1) dX4_goMarch_52 (by decide) ?_
            refine z_goto C (pc := 53) (tgt := 57) dX4_goMarch_53 (by decide) ?_
            refine z_istore C (pc := 57) (lv' := [(0, .ref (b 0)), (1, .int (nI x)), (2, .int (nI st)), (3, .int (nI f)), (4, .ref (b 3)), (5, .int (nI (j + 1))), (6, .int 1)]) dX4_goMarch_57 (Nat.le_of_ble_eq_true rfl) rfl rfl ?_
            refine z_aload_n C (pc := 59) dX4_goMarch_59 rfl ?_
            refine z_iload C (pc := 60) dX4_goMarch_60 rfl ?_
            refine z_if_eq C (pc := 62) (tgt := 72) dX4_goMarch_62 (by decide) (fun c_9 => ?_) (fun c_9 => ?_)
            · exact absurd c_9 (by decide)
            · refine z_iload C (pc := 65) dX4_goMarch_65 rfl ?_
              refine z_iconst C (pc := 67) (v := 1) dX4_goMarch_67 (by decide) ?_
              refine z_isub C (pc := 68) dX4_goMarch_68 ?_
              refine z_goto C (pc := 69) (tgt := 80) dX4_goMarch_69 (by decide) ?_
              refine z_seti (y := nI (j + 1 - 1)) (nI_pred j) ?_
              refine z_iload C (pc := 80) dX4_goMarch_80 rfl ?_
              refine z_calliF C (by exact fun _ => mW_ad) (runV C (wc := (mW cI b i' r' h)) (pc := 82) (rY' := rm 4 86) (nn := 2) (As := [.int (nI (j + 1 - 1)), .int 1]) (rest := []) (m_goOut l D cI tt b i' r' h kd n hv' z.1 z.2.1 hmk.1 hgm.1.2.2.1 z.2.2.1 hc2 z.2.2.2 st (j + 1) _ (by omega) hjl hst hjs rfl) (full_hC _) (full_nd _) ⟨rfl, rfl, ⟨Nat.le_of_ble_eq_true rfl, Nat.le_of_ble_eq_true rfl⟩, Nat.le_of_ble_eq_true rfl, Nat.le_of_ble_eq_true rfl⟩ wl_X4_155 wm_X4_goStage we_X4_goStage wi_X4 wc_X4_goStage (by decide +kernel) rfl 0 rfl rfl rfl rfl (Nat.le_of_ble_eq_true rfl) dX4_goMarch_82) (fun q_10 u_10 h_10 => ?_)
              obtain ⟨i10, r10⟩ := u_10
              try dsimp only at h_10
              obtain ⟨g0, g1, g2⟩ := h_10
              subst g0
              refine z_ws (st' := [.int (b2 (decide ((legv kd n st (j + 1) z).2.2.2 = 0)))]) (ws' := (mW cI b i10 r10 h)) rfl rfl ?_
              refine z_istore C (pc := 85) (lv' := [(0, .ref (b 0)), (1, .int (nI x)), (2, .int (nI st)), (3, .int (nI f)), (4, .ref (b 3)), (5, .int (nI (j + 1))), (6, .int 1), (7, .int (b2 (decide ((legv kd n st (j + 1) z).2.2.2 = 0))))]) dX4_goMarch_85 (Nat.le_of_ble_eq_true rfl) rfl rfl ?_
              refine z_aload_n C (pc := 87) dX4_goMarch_87 rfl ?_
              refine z_iload C (pc := 88) dX4_goMarch_88 rfl ?_
              refine z_if_eq C (pc := 90) (tgt := 97) dX4_goMarch_90 (by decide) (fun c_11 => ?_) (fun c_11 => ?_)
              · have hdy : (legv kd n st (j + 1) z).2.2.2 = j + 1 := leg_day.resolve_left (of_decide_eq_false (b2_f c_11))
                refine z_iload C (pc := 97) dX4_goMarch_97 rfl ?_
                refine z_put C (pc := 99) 0 rfl rfl wf_X4 12 (by decide) rfl tyX4 tyX4_ok nmX4 rfl rfl rfl (Nat.le_of_ble_eq_true rfl) (ws' := (mW cI b (upd i10 12 (nI (j + 1))) r10 h)) rfl wl_X4_152 dX4_goMarch_99 ?_
                refine z_iinc C (pc := 102) (v := ((nI (j + 1)) + 1)) (lv' := [(0, .ref (b 0)), (1, .int (nI x)), (2, .int (nI st)), (3, .int (nI f)), (4, .ref (b 3)), (5, .int ((nI (j + 1)) + 1)), (6, .int 1), (7, .int (b2 (decide ((legv kd n st (j + 1) z).2.2.2 = 0))))]) dX4_goMarch_102 rfl rfl (Nat.le_of_ble_eq_true rfl) rfl rfl ?_
                refine z_goto C (pc := 105) (tgt := 31) dX4_goMarch_105 (by decide) ?_
                have hgn : GMm i r (upd i10 12 (nI (j + 1))) r10 (runv kd n st (j + 1) (x, min f (sumk pls kd x n), c, 0)) := by
                  rw [hrs]
                  exact ⟨⟨(hgm.sp.tr g2.1).up (by omega), hgm.sr.tr g2.2.1, g2.2.2.1.up12, g2.2.2.2⟩, by rw [upd_s, hdy]⟩
                refine z_lv (lv' := [(0, .ref (b 0)), (1, .int (nI x)), (2, .int (nI st)), (3, .int (nI f)), (4, .ref (b 3)), (5, .int (nI ((j + 1) + 1)))]) ⟨rfl, rfl, rfl, rfl, rfl, lki (nI_1 _), trivial⟩ ?_
                exact ih31 (j + 1) (upd i10 12 (nI (j + 1))) r10 (by omega) hjl hgn
              · have hdy : (legv kd n st (j + 1) z).2.2.2 = 0 := of_decide_eq_true (b2_t c_11)
                refine z_iconst C (pc := 93) (v := 0) dX4_goMarch_93 (by decide) ?_
                refine z_goto C (pc := 94) (tgt := 99) dX4_goMarch_94 (by decide) ?_
                refine z_put C (pc := 99) 0 rfl rfl wf_X4 12 (by decide) rfl tyX4 tyX4_ok nmX4 rfl rfl rfl (Nat.le_of_ble_eq_true rfl) (ws' := (mW cI b (upd i10 12 0) r10 h)) rfl wl_X4_152 dX4_goMarch_99 ?_
                refine z_iinc C (pc := 102) (v := ((nI (j + 1)) + 1)) (lv' := [(0, .ref (b 0)), (1, .int (nI x)), (2, .int (nI st)), (3, .int (nI f)), (4, .ref (b 3)), (5, .int ((nI (j + 1)) + 1)), (6, .int 1), (7, .int (b2 (decide ((legv kd n st (j + 1) z).2.2.2 = 0))))]) dX4_goMarch_102 rfl rfl (Nat.le_of_ble_eq_true rfl) rfl rfl ?_
                refine z_goto C (pc := 105) (tgt := 31) dX4_goMarch_105 (by decide) ?_
                have hgn : GMm i r (upd i10 12 0) r10 (runv kd n st (j + 1) (x, min f (sumk pls kd x n), c, 0)) := by
                  rw [hrs]
                  exact ⟨⟨(hgm.sp.tr g2.1).up (by omega), hgm.sr.tr g2.2.1, g2.2.2.1.up12, g2.2.2.2⟩, by rw [upd_s, hdy]; rfl⟩
                refine z_lv (lv' := [(0, .ref (b 0)), (1, .int (nI x)), (2, .int (nI st)), (3, .int (nI f)), (4, .ref (b 3)), (5, .int (nI ((j + 1) + 1)))]) ⟨rfl, rfl, rfl, rfl, rfl, lki (nI_1 _), trivial⟩ ?_
                exact ih31 (j + 1) (upd i10 12 0) r10 (by omega) hjl hgn
  have hg0 : GMm i r (upd i2 12 0) (va_up r 3 (cqv (r 2) (r 3) 7)) (runv kd n st 0 (x, min f (sumk pls kd x n), c, 0)) := ⟨⟨(k4.tr k1).up (by omega), SRm.rf.up, ⟨(upd_n (by decide)).trans k3.1, (upd_n (by decide)).trans k3.2⟩, fun k hk => by rw [vup_s, cqv_at, if_pos (by omega)]; exact (hc k hk).1⟩, upd_s⟩
  refine z_lv (lv' := [(0, .ref (b 0)), (1, .int (nI x)), (2, .int (nI st)), (3, .int (nI f)), (4, .ref (b 3)), (5, .int (nI (0 + 1)))]) ⟨rfl, rfl, rfl, rfl, rfl, rfl, trivial⟩ ?_
  exact key31 (_ + 1) 0 (upd i2 12 0) (va_up r 3 (cqv (r 2) (r 3) 7)) (Nat.lt_succ_self _) (Nat.zero_le _) hg0

set_option maxHeartbeats 4000000 in
set_option maxRecDepth 100000 in
theorem m_goMarchO (l : Launch) (D : va_G) (cI : ClassId) (tt : Nat × Nat × Nat) (b : Nat → Nat) (i : Nat → Int32) (r : Nat → Nat → Int32) (h : Int64) (kd : Nat → Nat) (n : Nat) (hv : PVm i r kd n) (x st f : Nat) (hx : x < 2 ^ n) (hst : st ≤ 6) (hf : f ≤ 40) (c : Nat → Nat) (hc : ∀ k, k < 5 → r 5 (k + 1) = nI (c k) ∧ c k ≤ 9) : MetV (S := ((Nat → Int32) × (Nat → Nat → Int32))) l yX4_goMarch cX4_goMarch 8 none (rm 5 111) D cI tt [.ref (b 0), .int (nI x), .int (nI st), .int (nI f), .ref (b 6)] (mW cI b i r h) (fun u => GMm i r u.1 u.2 (marv kd n x st f c)) (fun u => mW cI b u.1 u.2 h) := by
  have hn6 := hv.2.1
  have hx6 := pow_le6 hn6
  have hpl := pl_le (kd := kd) (x := x) hn6
  have hcc : ∀ k, k < 5 → c k ≤ 9 := fun k hk => (hc k hk).2
  refine met_ofV (by decide) (Nat.le_of_ble_eq_true rfl) ?_
  intro pP eE sS mM aV bB mE cC AA C hin
  refine z_conv (lv' := [(0, .ref (b 0)), (1, .int (nI x)), (2, .int (nI st)), (3, .int (nI f)), (4, .ref (b 6))]) ⟨rfl, rfl, rfl, rfl, rfl, trivial⟩ rfl rfl ?_
  refine z_aload C (pc := 0) dX4_goMarch_0 rfl ?_
  refine z_aload_n C (pc := 2) dX4_goMarch_2 rfl ?_
  refine z_get C (pc := 3) 0 rfl rfl wf_X4 13 (by decide) rfl wl_X4_19 (v := .ref (b 4)) rfl dX4_goMarch_3 ?_
  refine z_callv C (isC := [6, 4]) rfl (by exact fun _ => rfl) (runS C (wc := [(b 6, .inl (cI, 7, .inl (r 5))), (b 4, .inl (cI, 7, .inl (r 3)))]) (pc := 6) (rY' := rm 0 0) (nn := 2) (As := [.ref (b 6), .ref (b 4)]) (rest := []) (m_copy l D cI tt (b 6) 7 (b 4) 7 (r 5) (r 3) (by decide) (by decide)) rfl rfl ⟨rfl, rfl, ⟨Nat.le_of_ble_eq_true rfl, Nat.le_of_ble_eq_true rfl⟩, Nat.le_of_ble_eq_true rfl, Nat.le_of_ble_eq_true rfl⟩ wl_X4_148 ws_X4_copy wi_X4 wc_X4_copy (by decide +kernel) rfl rfl (Nat.le_of_ble_eq_true rfl) dX4_goMarch_6) (fun u_1 h_1 => ?_)
  subst h_1
  refine z_ws (st' := []) (ws' := (mW cI b i (va_up r 3 (cqv (r 5) (r 3) 7)) h)) rfl rfl ?_
  refine z_aload_n C (pc := 9) dX4_goMarch_9 rfl ?_
  refine z_iload_n C (pc := 10) dX4_goMarch_10 rfl ?_
  refine z_put C (pc := 11) 0 rfl rfl wf_X4 10 (by decide) rfl tyX4 tyX4_ok nmX4 rfl rfl rfl (Nat.le_of_ble_eq_true rfl) (ws' := (mW cI b (upd i 10 (nI x)) (va_up r 3 (cqv (r 5) (r 3) 7)) h)) rfl wl_X4_125 dX4_goMarch_11 ?_
  refine z_aload_n C (pc := 14) dX4_goMarch_14 rfl ?_
  refine z_iload_n C (pc := 15) dX4_goMarch_15 rfl ?_
  refine z_put C (pc := 16) 0 rfl rfl wf_X4 11 (by decide) rfl tyX4 tyX4_ok nmX4 rfl rfl rfl (Nat.le_of_ble_eq_true rfl) (ws' := (mW cI b (upd (upd i 10 (nI x)) 11 (nI f)) (va_up r 3 (cqv (r 5) (r 3) 7)) h)) rfl wl_X4_128 dX4_goMarch_16 ?_
  refine z_aload_n C (pc := 19) dX4_goMarch_19 rfl ?_
  refine z_callvF C (by exact fun _ => mW_ad) (runV C (wc := (mW cI b (upd (upd i 10 (nI x)) 11 (nI f)) (va_up r 3 (cqv (r 5) (r 3) 7)) h)) (pc := 20) (rY' := rm 2 44) (nn := 0) (As := []) (rest := []) (m_keepPulled l D cI tt b (upd (upd i 10 (nI x)) 11 (nI f)) (va_up r 3 (cqv (r 5) (r 3) 7)) h kd n (hv.sp ((SPm.rf.up (by omega)).up (by omega)) SRm.rf.up) x f (by omega) (by omega) ⟨by simp [upd], by simp [upd]⟩) (full_hC _) (full_nd _) ⟨rfl, rfl, ⟨Nat.le_of_ble_eq_true rfl, Nat.le_of_ble_eq_true rfl⟩, Nat.le_of_ble_eq_true rfl, Nat.le_of_ble_eq_true rfl⟩ wl_X4_131 wm_X4_keepPulled we_X4_keepPulled wi_X4 wc_X4_keepPulled (by decide +kernel) rfl 0 rfl rfl rfl rfl (Nat.le_of_ble_eq_true rfl) dX4_goMarch_20) (fun u_2 h_2 => ?_)
  generalize u_2 = i2 at h_2 ⊢
  obtain ⟨k1, k2, k3⟩ := h_2
  have k4 := ((SPm.rf (i := i)).up (k := 10) (v := nI x) (by omega)).up (k := 11) (v := nI f) (by omega)
  refine z_ws (st' := []) (ws' := (mW cI b i2 (va_up r 3 (cqv (r 5) (r 3) 7)) h)) rfl rfl ?_
  refine z_aload_n C (pc := 23) dX4_goMarch_23 rfl ?_
  refine z_iconst C (pc := 24) (v := 0) dX4_goMarch_24 (by decide) ?_
  refine z_put C (pc := 25) 0 rfl rfl wf_X4 12 (by decide) rfl tyX4 tyX4_ok nmX4 rfl rfl rfl (Nat.le_of_ble_eq_true rfl) (ws' := (mW cI b (upd i2 12 0) (va_up r 3 (cqv (r 5) (r 3) 7)) h)) rfl wl_X4_152 dX4_goMarch_25 ?_
  refine z_iconst C (pc := 28) (v := 1) dX4_goMarch_28 (by decide) ?_
  refine z_istore C (pc := 29) (lv' := [(0, .ref (b 0)), (1, .int (nI x)), (2, .int (nI st)), (3, .int (nI f)), (4, .ref (b 6)), (5, .int 1)]) dX4_goMarch_29 (Nat.le_of_ble_eq_true rfl) rfl rfl ?_
  have key31 : ∀ (fu31 : Nat) (j : Nat) (i' : Nat → Int32) (r' : Nat → Nat → Int32), 2 * st - j < fu31 → (j ≤ 2 * st) → (GMm i r i' r' (runv kd n st j (x, min f (sumk pls kd x n), c, 0))) → Z pP l eE (rm 5 111) sS mM aV bB mE cC D AA 8 0 0 (MQ bB (va_Qv (S := ((Nat → Int32) × (Nat → Nat → Int32))) (fun u => GMm i r u.1 u.2 (marv kd n x st f c)) (fun u t => va_P D vwCl ((fun u => mW cI b u.1 u.2 h) u) t.heap) AA) aV sS 0 0 AA) 31 [(0, .ref (b 0)), (1, .int (nI x)), (2, .int (nI st)), (3, .int (nI f)), (4, .ref (b 6)), (5, .int (nI (j + 1)))] [] (mW cI b i' r' h) := by
    intro fu31
    induction fu31 with
    | zero => intro j i' r' hfu31; exact absurd hfu31 (Nat.not_lt_zero _)
    | succ fu31 ih31 =>
      intro j i' r' hfu31 hj hgm
      refine z_iload C (pc := 31) dX4_goMarch_31 rfl ?_
      refine z_iconst C (pc := 33) (v := 2) dX4_goMarch_33 (by decide) ?_
      refine z_iload_n C (pc := 34) dX4_goMarch_34 rfl ?_
      refine z_imul C (pc := 35) dX4_goMarch_35 ?_
      refine z_icmp_gt C (pc := 36) (tgt := 108) dX4_goMarch_36 (by decide) (fun c_3 => ?_) (fun c_3 => ?_)
      · have hje : j = 2 * st := by
          rw [two_mul_nI] at c_3
          have := (gt_nI (x := 2 * st) (y := j + 1) (by omega) (by omega)).mp c_3
          omega
        refine z_vret C (pc := 108) (i', r') dX4_goMarch_108 ?_ rfl
        subst hje
        exact hgm
      · have hjl : j + 1 ≤ 2 * st := by
          rw [two_mul_nI] at c_3
          exact Nat.le_of_not_lt (fun h => c_3 (nI_lt h (by omega)))
        refine z_aload_n C (pc := 39) dX4_goMarch_39 rfl ?_
        refine z_get C (pc := 40) 0 rfl rfl wf_X4 12 (by decide) rfl wl_X4_152 (v := .int (i' 12)) rfl dX4_goMarch_40 ?_
        refine z_if_ne C (pc := 43) (tgt := 108) dX4_goMarch_43 (by decide) (fun c_4 => ?_) (fun c_4 => ?_)
        · have hdd : (runv kd n st j (x, min f (sumk pls kd x n), c, 0)).2.2.2 ≠ 0 := fun e => c_4 (by rw [hgm.2, e]; rfl)
          refine z_vret C (pc := 108) (i', r') dX4_goMarch_108 ?_ rfl
          have hm : (marv kd n x st f c) = (runv kd n st j (x, min f (sumk pls kd x n), c, 0)) := mar_end hj hdd
          rw [hm]; exact hgm
        · have hmk := runv_ok (kd := kd) (st := st) hn6 j (x, min f (sumk pls kd x n), c, 0) (mok0 (kd := kd) (f := f) hx hcc)
          have hdz : (runv kd n st j (x, min f (sumk pls kd x n), c, 0)).2.2.2 = 0 := by
            rw [hgm.2] at c_4
            have hday : (runv kd n st j (x, min f (sumk pls kd x n), c, 0)).2.2.2 ≤ 12 := run_day j hjl hst
            exact nI_z (by omega) c_4
          have hv' := hv.sp hgm.sp hgm.sr
          have hrs := run_s (j := j) (st := st) (kd := kd) (n := n) hdz
          generalize hzz : (runv kd n st j (x, min f (sumk pls kd x n), c, 0)) = z at hgm hmk hdz hrs
          have hc2 : ∀ k, k < 5 → r' 3 (k + 1) = nI (z.2.2.1 k) ∧ z.2.2.1 k ≤ 9 := fun k hk => ⟨hgm.1.2.2.2 k hk, hmk.2.1 k hk⟩
          refine z_iload C (pc := 46) dX4_goMarch_46 rfl ?_
          refine z_iload_n C (pc := 48) dX4_goMarch_48 rfl ?_
          refine z_icmp_gt C (pc := 49) (tgt := 56) dX4_goMarch_49 (by decide) (fun c_5 => ?_) (fun c_5 => ?_)
          · have hjs : ¬ j + 1 ≤ st := fun h => nI_nlt h (by omega) c_5
            refine z_iconst C (pc := 56) (v := 0) dX4_goMarch_56 (by decide) ?_
            refine z_istore C (pc := 57) (lv' := [(0, .ref (b 0)), (1, .int (nI x)), (2, .int (nI st)), (3, .int (nI f)), (4, .ref (b 6)), (5, .int (nI (j + 1))), (6, .int 0)]) dX4_goMarch_57 (Nat.le_of_ble_eq_true rfl) rfl rfl ?_
            refine z_aload_n C (pc := 59) dX4_goMarch_59 rfl ?_
            refine z_iload C (pc := 60) dX4_goMarch_60 rfl ?_
            refine z_if_eq C (pc := 62) (tgt := 72) dX4_goMarch_62 (by decide) (fun c_6 => ?_) (fun c_6 => ?_)
            · refine z_iconst C (pc := 72) (v := 2) dX4_goMarch_72 (by decide) ?_
              refine z_iload_n C (pc := 73) dX4_goMarch_73 rfl ?_
              refine z_imul C (pc := 74) dX4_goMarch_74 ?_
              refine z_iload C (pc := 75) dX4_goMarch_75 rfl ?_
              refine z_isub C (pc := 77) dX4_goMarch_77 ?_
              refine z_iconst C (pc := 78) (v := 1) dX4_goMarch_78 (by decide) ?_
              refine z_iadd C (pc := 79) dX4_goMarch_79 ?_
              refine z_seti (y := nI (2 * st - (j + 1) + 1)) (by rw [two_mul_nI, pk_sub hjl]; exact nI_1 _) ?_
              refine z_iload C (pc := 80) dX4_goMarch_80 rfl ?_
              refine z_calliF C (by exact fun _ => mW_ad) (runV C (wc := (mW cI b i' r' h)) (pc := 82) (rY' := rm 4 86) (nn := 2) (As := [.int (nI (2 * st - (j + 1) + 1)), .int 0]) (rest := []) (m_goHome l D cI tt b i' r' h kd n hv' z.1 z.2.1 hmk.1 hgm.1.2.2.1 z.2.2.1 hc2 z.2.2.2 st (j + 1) _ (by omega) hjl hst hjs rfl) (full_hC _) (full_nd _) ⟨rfl, rfl, ⟨Nat.le_of_ble_eq_true rfl, Nat.le_of_ble_eq_true rfl⟩, Nat.le_of_ble_eq_true rfl, Nat.le_of_ble_eq_true rfl⟩ wl_X4_155 wm_X4_goStage we_X4_goStage wi_X4 wc_X4_goStage (by decide +kernel) rfl 0 rfl rfl rfl rfl (Nat.le_of_ble_eq_true rfl) dX4_goMarch_82) (fun q_7 u_7 h_7 => ?_)
              obtain ⟨i7, r7⟩ := u_7
              try dsimp only at h_7
              obtain ⟨g0, g1, g2⟩ := h_7
              subst g0
              refine z_ws (st' := [.int (b2 (decide ((legv kd n st (j + 1) z).2.2.2 = 0)))]) (ws' := (mW cI b i7 r7 h)) rfl rfl ?_
              refine z_istore C (pc := 85) (lv' := [(0, .ref (b 0)), (1, .int (nI x)), (2, .int (nI st)), (3, .int (nI f)), (4, .ref (b 6)), (5, .int (nI (j + 1))), (6, .int 0), (7, .int (b2 (decide ((legv kd n st (j + 1) z).2.2.2 = 0))))]) dX4_goMarch_85 (Nat.le_of_ble_eq_true rfl) rfl rfl ?_
              refine z_aload_n C (pc := 87) dX4_goMarch_87 rfl ?_
              refine z_iload C (pc := 88) dX4_goMarch_88 rfl ?_
              refine z_if_eq C (pc := 90) (tgt := 97) dX4_goMarch_90 (by decide) (fun c_8 => ?_) (fun c_8 => ?_)
              · have hdy : (legv kd n st (j + 1) z).2.2.2 = j + 1 := leg_day.resolve_left (of_decide_eq_false (b2_f c_8))
                refine z_iload C (pc := 97) dX4_goMarch_97 rfl ?_
                refine z_put C (pc := 99) 0 rfl rfl wf_X4 12 (by decide) rfl tyX4 tyX4_ok nmX4 rfl rfl rfl (Nat.le_of_ble_eq_true rfl) (ws' := (mW cI b (upd i7 12 (nI (j + 1))) r7 h)) rfl wl_X4_152 dX4_goMarch_99 ?_
                refine z_iinc C (pc := 102) (v := ((nI (j + 1)) + 1)) (lv' := [(0, .ref (b 0)), (1, .int (nI x)), (2, .int (nI st)), (3, .int (nI f)), (4, .ref (b 6)), (5, .int ((nI (j + 1)) + 1)), (6, .int 0), (7, .int (b2 (decide ((legv kd n st (j + 1) z).2.2.2 = 0))))]) dX4_goMarch_102 rfl rfl (Nat.le_of_ble_eq_true rfl) rfl rfl ?_
                refine z_goto C (pc := 105) (tgt := 31) dX4_goMarch_105 (by decide) ?_
                have hgn : GMm i r (upd i7 12 (nI (j + 1))) r7 (runv kd n st (j + 1) (x, min f (sumk pls kd x n), c, 0)) := by
                  rw [hrs]
                  exact ⟨⟨(hgm.sp.tr g2.1).up (by omega), hgm.sr.tr g2.2.1, g2.2.2.1.up12, g2.2.2.2⟩, by rw [upd_s, hdy]⟩
                refine z_lv (lv' := [(0, .ref (b 0)), (1, .int (nI x)), (2, .int (nI st)), (3, .int (nI f)), (4, .ref (b 6)), (5, .int (nI ((j + 1) + 1)))]) ⟨rfl, rfl, rfl, rfl, rfl, lki (nI_1 _), trivial⟩ ?_
                exact ih31 (j + 1) (upd i7 12 (nI (j + 1))) r7 (by omega) hjl hgn
              · have hdy : (legv kd n st (j + 1) z).2.2.2 = 0 := of_decide_eq_true (b2_t c_8)
                refine z_iconst C (pc := 93) (v := 0) dX4_goMarch_93 (by decide) ?_
                refine z_goto C (pc := 94) (tgt := 99) dX4_goMarch_94 (by decide) ?_
                refine z_put C (pc := 99) 0 rfl rfl wf_X4 12 (by decide) rfl tyX4 tyX4_ok nmX4 rfl rfl rfl (Nat.le_of_ble_eq_true rfl) (ws' := (mW cI b (upd i7 12 0) r7 h)) rfl wl_X4_152 dX4_goMarch_99 ?_
                refine z_iinc C (pc := 102) (v := ((nI (j + 1)) + 1)) (lv' := [(0, .ref (b 0)), (1, .int (nI x)), (2, .int (nI st)), (3, .int (nI f)), (4, .ref (b 6)), (5, .int ((nI (j + 1)) + 1)), (6, .int 0), (7, .int (b2 (decide ((legv kd n st (j + 1) z).2.2.2 = 0))))]) dX4_goMarch_102 rfl rfl (Nat.le_of_ble_eq_true rfl) rfl rfl ?_
                refine z_goto C (pc := 105) (tgt := 31) dX4_goMarch_105 (by decide) ?_
                have hgn : GMm i r (upd i7 12 0) r7 (runv kd n st (j + 1) (x, min f (sumk pls kd x n), c, 0)) := by
                  rw [hrs]
                  exact ⟨⟨(hgm.sp.tr g2.1).up (by omega), hgm.sr.tr g2.2.1, g2.2.2.1.up12, g2.2.2.2⟩, by rw [upd_s, hdy]; rfl⟩
                refine z_lv (lv' := [(0, .ref (b 0)), (1, .int (nI x)), (2, .int (nI st)), (3, .int (nI f)), (4, .ref (b 6)), (5, .int (nI ((j + 1) + 1)))]) ⟨rfl, rfl, rfl, rfl, rfl, lki (nI_1 _), trivial⟩ ?_
                exact ih31 (j + 1) (upd i7 12 0) r7 (by omega) hjl hgn
            · exact absurd c_6 (by decide)
          · have hjs : j + 1 ≤ st := Nat.le_of_not_lt (fun h => c_5 (nI_lt h (by omega)))
            refine z_iconst C (pc := 52) (v := 1) dX4_goMarch_52 (by decide) ?_
            refine z_goto C (pc := 53) (tgt := 57) dX4_goMarch_53 (by decide) ?_
            refine z_istore C (pc := 57) (lv' := [(0, .ref (b 0)), (1, .int (nI x)), (2, .int (nI st)), (3, .int (nI f)), (4, .ref (b 6)), (5, .int (nI (j + 1))), (6, .int 1)]) dX4_goMarch_57 (Nat.le_of_ble_eq_true rfl) rfl rfl ?_
            refine z_aload_n C (pc := 59) dX4_goMarch_59 rfl ?_
            refine z_iload C (pc := 60) dX4_goMarch_60 rfl ?_
            refine z_if_eq C (pc := 62) (tgt := 72) dX4_goMarch_62 (by decide) (fun c_9 => ?_) (fun c_9 => ?_)
            · exact absurd c_9 (by decide)
            · refine z_iload C (pc := 65) dX4_goMarch_65 rfl ?_
              refine z_iconst C (pc := 67) (v := 1) dX4_goMarch_67 (by decide) ?_
              refine z_isub C (pc := 68) dX4_goMarch_68 ?_
              refine z_goto C (pc := 69) (tgt := 80) dX4_goMarch_69 (by decide) ?_
              refine z_seti (y := nI (j + 1 - 1)) (nI_pred j) ?_
              refine z_iload C (pc := 80) dX4_goMarch_80 rfl ?_
              refine z_calliF C (by exact fun _ => mW_ad) (runV C (wc := (mW cI b i' r' h)) (pc := 82) (rY' := rm 4 86) (nn := 2) (As := [.int (nI (j + 1 - 1)), .int 1]) (rest := []) (m_goOut l D cI tt b i' r' h kd n hv' z.1 z.2.1 hmk.1 hgm.1.2.2.1 z.2.2.1 hc2 z.2.2.2 st (j + 1) _ (by omega) hjl hst hjs rfl) (full_hC _) (full_nd _) ⟨rfl, rfl, ⟨Nat.le_of_ble_eq_true rfl, Nat.le_of_ble_eq_true rfl⟩, Nat.le_of_ble_eq_true rfl, Nat.le_of_ble_eq_true rfl⟩ wl_X4_155 wm_X4_goStage we_X4_goStage wi_X4 wc_X4_goStage (by decide +kernel) rfl 0 rfl rfl rfl rfl (Nat.le_of_ble_eq_true rfl) dX4_goMarch_82) (fun q_10 u_10 h_10 => ?_)
              obtain ⟨i10, r10⟩ := u_10
              try dsimp only at h_10
              obtain ⟨g0, g1, g2⟩ := h_10
              subst g0
              refine z_ws (st' := [.int (b2 (decide ((legv kd n st (j + 1) z).2.2.2 = 0)))]) (ws' := (mW cI b i10 r10 h)) rfl rfl ?_
              refine z_istore C (pc := 85) (lv' := [(0, .ref (b 0)), (1, .int (nI x)), (2, .int (nI st)), (3, .int (nI f)), (4, .ref (b 6)), (5, .int (nI (j + 1))), (6, .int 1), (7, .int (b2 (decide ((legv kd n st (j + 1) z).2.2.2 = 0))))]) dX4_goMarch_85 (Nat.le_of_ble_eq_true rfl) rfl rfl ?_
              refine z_aload_n C (pc := 87) dX4_goMarch_87 rfl ?_
              refine z_iload C (pc := 88) dX4_goMarch_88 rfl ?_
              refine z_if_eq C (pc := 90) (tgt := 97) dX4_goMarch_90 (by decide) (fun c_11 => ?_) (fun c_11 => ?_)
              · have hdy : (legv kd n st (j + 1) z).2.2.2 = j + 1 := leg_day.resolve_left (of_decide_eq_false (b2_f c_11))
                refine z_iload C (pc := 97) dX4_goMarch_97 rfl ?_
                refine z_put C (pc := 99) 0 rfl rfl wf_X4 12 (by decide) rfl tyX4 tyX4_ok nmX4 rfl rfl rfl (Nat.le_of_ble_eq_true rfl) (ws' := (mW cI b (upd i10 12 (nI (j + 1))) r10 h)) rfl wl_X4_152 dX4_goMarch_99 ?_
                refine z_iinc C (pc := 102) (v := ((nI (j + 1)) + 1)) (lv' := [(0, .ref (b 0)), (1, .int (nI x)), (2, .int (nI st)), (3, .int (nI f)), (4, .ref (b 6)), (5, .int ((nI (j + 1)) + 1)), (6, .int 1), (7, .int (b2 (decide ((legv kd n st (j + 1) z).2.2.2 = 0))))]) dX4_goMarch_102 rfl rfl (Nat.le_of_ble_eq_true rfl) rfl rfl ?_
                refine z_goto C (pc := 105) (tgt := 31) dX4_goMarch_105 (by decide) ?_
                have hgn : GMm i r (upd i10 12 (nI (j + 1))) r10 (runv kd n st (j + 1) (x, min f (sumk pls kd x n), c, 0)) := by
                  rw [hrs]
                  exact ⟨⟨(hgm.sp.tr g2.1).up (by omega), hgm.sr.tr g2.2.1, g2.2.2.1.up12, g2.2.2.2⟩, by rw [upd_s, hdy]⟩
                refine z_lv (lv' := [(0, .ref (b 0)), (1, .int (nI x)), (2, .int (nI st)), (3, .int (nI f)), (4, .ref (b 6)), (5, .int (nI ((j + 1) + 1)))]) ⟨rfl, rfl, rfl, rfl, rfl, lki (nI_1 _), trivial⟩ ?_
                exact ih31 (j + 1) (upd i10 12 (nI (j + 1))) r10 (by omega) hjl hgn
              · have hdy : (legv kd n st (j + 1) z).2.2.2 = 0 := of_decide_eq_true (b2_t c_11)
                refine z_iconst C (pc := 93) (v := 0) dX4_goMarch_93 (by decide) ?_
                refine z_goto C (pc := 94) (tgt := 99) dX4_goMarch_94 (by decide) ?_
                refine z_put C (pc := 99) 0 rfl rfl wf_X4 12 (by decide) rfl tyX4 tyX4_ok nmX4 rfl rfl rfl (Nat.le_of_ble_eq_true rfl) (ws' := (mW cI b (upd i10 12 0) r10 h)) rfl wl_X4_152 dX4_goMarch_99 ?_
                refine z_iinc C (pc := 102) (v := ((nI (j + 1)) + 1)) (lv' := [(0, .ref (b 0)), (1, .int (nI x)), (2, .int (nI st)), (3, .int (nI f)), (4, .ref (b 6)), (5, .int ((nI (j + 1)) + 1)), (6, .int 1), (7, .int (b2 (decide ((legv kd n st (j + 1) z).2.2.2 = 0))))]) dX4_goMarch_102 rfl rfl (Nat.le_of_ble_eq_true rfl) rfl rfl ?_
                refine z_goto C (pc := 105) (tgt := 31) dX4_goMarch_105 (by decide) ?_
                have hgn : GMm i r (upd i10 12 0) r10 (runv kd n st (j + 1) (x, min f (sumk pls kd x n), c, 0)) := by
                  rw [hrs]
                  exact ⟨⟨(hgm.sp.tr g2.1).up (by omega), hgm.sr.tr g2.2.1, g2.2.2.1.up12, g2.2.2.2⟩, by rw [upd_s, hdy]; rfl⟩
                refine z_lv (lv' := [(0, .ref (b 0)), (1, .int (nI x)), (2, .int (nI st)), (3, .int (nI f)), (4, .ref (b 6)), (5, .int (nI ((j + 1) + 1)))]) ⟨rfl, rfl, rfl, rfl, rfl, lki (nI_1 _), trivial⟩ ?_
                exact ih31 (j + 1) (upd i10 12 0) r10 (by omega) hjl hgn
  have hg0 : GMm i r (upd i2 12 0) (va_up r 3 (cqv (r 5) (r 3) 7)) (runv kd n st 0 (x, min f (sumk pls kd x n), c, 0)) := ⟨⟨(k4.tr k1).up (by omega), SRm.rf.up, ⟨(upd_n (by decide)).trans k3.1, (upd_n (by decide)).trans k3.2⟩, fun k hk => by rw [vup_s, cqv_at, if_pos (by omega)]; exact (hc k hk).1⟩, upd_s⟩
  refine z_lv (lv' := [(0, .ref (b 0)), (1, .int (nI x)), (2, .int (nI st)), (3, .int (nI f)), (4, .ref (b 6)), (5, .int (nI (0 + 1)))]) ⟨rfl, rfl, rfl, rfl, rfl, rfl, trivial⟩ ?_
  exact key31 (_ + 1) 0 (upd i2 12 0) (va_up r 3 (cqv (r 5) (r 3) 7)) (Nat.lt_succ_self _) (Nat.zero_le _) hg0

set_option maxHeartbeats 4000000 in
set_option maxRecDepth 100000 in
theorem m_goMarchT (l : Launch) (D : va_G) (cI : ClassId) (tt : Nat × Nat × Nat) (b : Nat → Nat) (i : Nat → Int32) (r : Nat → Nat → Int32) (h : Int64) (kd : Nat → Nat) (n : Nat) (hv : PVm i r kd n) (x st f : Nat) (hx : x < 2 ^ n) (hst : st ≤ 6) (hf : f ≤ 40) (c : Nat → Nat) (hc : ∀ k, k < 5 → r 6 (k + 1) = nI (c k) ∧ c k ≤ 9) : MetV (S := ((Nat → Int32) × (Nat → Nat → Int32))) l yX4_goMarch cX4_goMarch 8 none (rm 5 111) D cI tt [.ref (b 0), .int (nI x), .int (nI st), .int (nI f), .ref (b 7)] (mW cI b i r h) (fun u => GMm i r u.1 u.2 (marv kd n x st f c)) (fun u => mW cI b u.1 u.2 h) := by
  have hn6 := hv.2.1
  have hx6 := pow_le6 hn6
  have hpl := pl_le (kd := kd) (x := x) hn6
  have hcc : ∀ k, k < 5 → c k ≤ 9 := fun k hk => (hc k hk).2
  refine met_ofV (by decide) (Nat.le_of_ble_eq_true rfl) ?_
  intro pP eE sS mM aV bB mE cC AA C hin
  refine z_conv (lv' := [(0, .ref (b 0)), (1, .int (nI x)), (2, .int (nI st)), (3, .int (nI f)), (4, .ref (b 7))]) ⟨rfl, rfl, rfl, rfl, rfl, trivial⟩ rfl rfl ?_
  refine z_aload C (pc := 0) dX4_goMarch_0 rfl ?_
  refine z_aload_n C (pc := 2) dX4_goMarch_2 rfl ?_
  refine z_get C (pc := 3) 0 rfl rfl wf_X4 13 (by decide) rfl wl_X4_19 (v := .ref (b 4)) rfl dX4_goMarch_3 ?_
  refine z_callv C (isC := [7, 4]) rfl (by exact fun _ => rfl) (runS C (wc := [(b 7, .inl (cI, 7, .inl (r 6))), (b 4, .inl (cI, 7, .inl (r 3)))]) (pc := 6) (rY' := rm 0 0) (nn := 2) (As := [.ref (b 7), .ref (b 4)]) (rest := []) (m_copy l D cI tt (b 7) 7 (b 4) 7 (r 6) (r 3) (by decide) (by decide)) rfl rfl ⟨rfl, rfl, ⟨Nat.le_of_ble_eq_true rfl, Nat.le_of_ble_eq_true rfl⟩, Nat.le_of_ble_eq_true rfl, Nat.le_of_ble_eq_true rfl⟩ wl_X4_148 ws_X4_copy wi_X4 wc_X4_copy (by decide +kernel) rfl rfl (Nat.le_of_ble_eq_true rfl) dX4_goMarch_6) (fun u_1 h_1 => ?_)
  subst h_1
  refine z_ws (st' := []) (ws' := (mW cI b i (va_up r 3 (cqv (r 6) (r 3) 7)) h)) rfl rfl ?_
  refine z_aload_n C (pc := 9) dX4_goMarch_9 rfl ?_
  refine z_iload_n C (pc := 10) dX4_goMarch_10 rfl ?_
  refine z_put C (pc := 11) 0 rfl rfl wf_X4 10 (by decide) rfl tyX4 tyX4_ok nmX4 rfl rfl rfl (Nat.le_of_ble_eq_true rfl) (ws' := (mW cI b (upd i 10 (nI x)) (va_up r 3 (cqv (r 6) (r 3) 7)) h)) rfl wl_X4_125 dX4_goMarch_11 ?_
  refine z_aload_n C (pc := 14) dX4_goMarch_14 rfl ?_
  refine z_iload_n C (pc := 15) dX4_goMarch_15 rfl ?_
  refine z_put C (pc := 16) 0 rfl rfl wf_X4 11 (by decide) rfl tyX4 tyX4_ok nmX4 rfl rfl rfl (Nat.le_of_ble_eq_true rfl) (ws' := (mW cI b (upd (upd i 10 (nI x)) 11 (nI f)) (va_up r 3 (cqv (r 6) (r 3) 7)) h)) rfl wl_X4_128 dX4_goMarch_16 ?_
  refine z_aload_n C (pc := 19) dX4_goMarch_19 rfl ?_
  refine z_callvF C (by exact fun _ => mW_ad) (runV C (wc := (mW cI b (upd (upd i 10 (nI x)) 11 (nI f)) (va_up r 3 (cqv (r 6) (r 3) 7)) h)) (pc := 20) (rY' := rm 2 44) (nn := 0) (As := []) (rest := []) (m_keepPulled l D cI tt b (upd (upd i 10 (nI x)) 11 (nI f)) (va_up r 3 (cqv (r 6) (r 3) 7)) h kd n (hv.sp ((SPm.rf.up (by omega)).up (by omega)) SRm.rf.up) x f (by omega) (by omega) ⟨by simp [upd], by simp [upd]⟩) (full_hC _) (full_nd _) ⟨rfl, rfl, ⟨Nat.le_of_ble_eq_true rfl, Nat.le_of_ble_eq_true rfl⟩, Nat.le_of_ble_eq_true rfl, Nat.le_of_ble_eq_true rfl⟩ wl_X4_131 wm_X4_keepPulled we_X4_keepPulled wi_X4 wc_X4_keepPulled (by decide +kernel) rfl 0 rfl rfl rfl rfl (Nat.le_of_ble_eq_true rfl) dX4_goMarch_20) (fun u_2 h_2 => ?_)
  generalize u_2 = i2 at h_2 ⊢
  obtain ⟨k1, k2, k3⟩ := h_2
  have k4 := ((SPm.rf (i := i)).up (k := 10) (v := nI x) (by omega)).up (k := 11) (v := nI f) (by omega)
  refine z_ws (st' := []) (ws' := (mW cI b i2 (va_up r 3 (cqv (r 6) (r 3) 7)) h)) rfl rfl ?_
  refine z_aload_n C (pc := 23) dX4_goMarch_23 rfl ?_
  refine z_iconst C (pc := 24) (v := 0) dX4_goMarch_24 (by decide) ?_
  refine z_put C (pc := 25) 0 rfl rfl wf_X4 12 (by decide) rfl tyX4 tyX4_ok nmX4 rfl rfl rfl (Nat.le_of_ble_eq_true rfl) (ws' := (mW cI b (upd i2 12 0) (va_up r 3 (cqv (r 6) (r 3) 7)) h)) rfl wl_X4_152 dX4_goMarch_25 ?_
  refine z_iconst C (pc := 28) (v := 1) dX4_goMarch_28 (by decide) ?_
  refine z_istore C (pc := 29) (lv' := [(0, .ref (b 0)), (1, .int (nI x)), (2, .int (nI st)), (3, .int (nI f)), (4, .ref (b 7)), (5, .int 1)]) dX4_goMarch_29 (Nat.le_of_ble_eq_true rfl) rfl rfl ?_
  have key31 : ∀ (fu31 : Nat) (j : Nat) (i' : Nat → Int32) (r' : Nat → Nat → Int32), 2 * st - j < fu31 → (j ≤ 2 * st) → (GMm i r i' r' (runv kd n st j (x, min f (sumk pls kd x n), c, 0))) → Z pP l eE (rm 5 111) sS mM aV bB mE cC D AA 8 0 0 (MQ bB (va_Qv (S := ((Nat → Int32) × (Nat → Nat → Int32))) (fun u => GMm i r u.1 u.2 (marv kd n x st f c)) (fun u t => va_P D vwCl ((fun u => mW cI b u.1 u.2 h) u) t.heap) AA) aV sS 0 0 AA) 31 [(0, .ref (b 0)), (1, .int (nI x)), (2, .int (nI st)), (3, .int (nI f)), (4, .ref (b 7)), (5, .int (nI (j + 1)))] [] (mW cI b i' r' h) := by
    intro fu31
    induction fu31 with
    | zero => intro j i' r' hfu31; exact absurd hfu31 (Nat.not_lt_zero _)
    | succ fu31 ih31 =>
      intro j i' r' hfu31 hj hgm
      refine z_iload C (pc := 31) dX4_goMarch_31 rfl ?_
      refine z_iconst C (pc := 33) (v := 2) dX4_goMarch_33 (by decide) ?_
      refine z_iload_n C (pc := 34) dX4_goMarch_34 rfl ?_
      refine z_imul C (pc := 35) dX4_goMarch_35 ?_
      refine z_icmp_gt C (pc := 36) (tgt := 108) dX4_goMarch_36 (by decide) (fun c_3 => ?_) (fun c_3 => ?_)
      · have hje : j = 2 * st := by
          rw [two_mul_nI] at c_3
          have := (gt_nI (x := 2 * st) (y := j + 1) (by omega) (by omega)).mp c_3
          omega
        refine z_vret C (pc := 108) (i', r') dX4_goMarch_108 ?_ rfl
        subst hje
        exact hgm
      · have hjl : j + 1 ≤ 2 * st := by
          rw [two_mul_nI] at c_3
          exact Nat.le_of_not_lt (fun h => c_3 (nI_lt h (by omega)))
        refine z_aload_n C (pc := 39) dX4_goMarch_39 rfl ?_
        refine z_get C (pc := 40) 0 rfl rfl wf_X4 12 (by decide) rfl wl_X4_152 (v := .int (i' 12)) rfl dX4_goMarch_40 ?_
        refine z_if_ne C (pc := 43) (tgt := 108) dX4_goMarch_43 (by decide) (fun c_4 => ?_) (fun c_4 => ?_)
        · have hdd : (runv kd n st j (x, min f (sumk pls kd x n), c, 0)).2.2.2 ≠ 0 := fun e => c_4 (by rw [hgm.2, e]; rfl)
          refine z_vret C (pc := 108) (i', r') dX4_goMarch_108 ?_ rfl
          have hm : (marv kd n x st f c) = (runv kd n st j (x, min f (sumk pls kd x n), c, 0)) := mar_end hj hdd
          rw [hm]; exact hgm
        · have hmk := runv_ok (kd := kd) (st := st) hn6 j (x, min f (sumk pls kd x n), c, 0) (mok0 (kd := kd) (f := f) hx hcc)
          have hdz : (runv kd n st j (x, min f (sumk pls kd x n), c, 0)).2.2.2 = 0 := by
            rw [hgm.2] at c_4
            have hday : (runv kd n st j (x, min f (sumk pls kd x n), c, 0)).2.2.2 ≤ 12 := run_day j hjl hst
            exact nI_z (by omega) c_4
          have hv' := hv.sp hgm.sp hgm.sr
          have hrs := run_s (j := j) (st := st) (kd := kd) (n := n) hdz
          generalize hzz : (runv kd n st j (x, min f (sumk pls kd x n), c, 0)) = z at hgm hmk hdz hrs
          have hc2 : ∀ k, k < 5 → r' 3 (k + 1) = nI (z.2.2.1 k) ∧ z.2.2.1 k ≤ 9 := fun k hk => ⟨hgm.1.2.2.2 k hk, hmk.2.1 k hk⟩
          refine z_iload C (pc := 46) dX4_goMarch_46 rfl ?_
          refine z_iload_n C (pc := 48) dX4_goMarch_48 rfl ?_
          refine z_icmp_gt C (pc := 49) (tgt := 56) dX4_goMarch_49 (by decide) (fun c_5 => ?_) (fun c_5 => ?_)
          · have hjs : ¬ j + 1 ≤ st := fun h => nI_nlt h (by omega) c_5
            refine z_iconst C (pc := 56) (v := 0) dX4_goMarch_56 (by decide) ?_
            refine z_istore C (pc := 57) (lv' := [(0, .ref (b 0)), (1, .int (nI x)), (2, .int (nI st)), (3, .int (nI f)), (4, .ref (b 7)), (5, .int (nI (j + 1))), (6, .int 0)]) dX4_goMarch_57 (Nat.le_of_ble_eq_true rfl) rfl rfl ?_
            refine z_aload_n C (pc := 59) dX4_goMarch_59 rfl ?_
            refine z_iload C (pc := 60) dX4_goMarch_60 rfl ?_
            refine z_if_eq C (pc := 62) (tgt := 72) dX4_goMarch_62 (by decide) (fun c_6 => ?_) (fun c_6 => ?_)
            · refine z_iconst C (pc := 72) (v := 2) dX4_goMarch_72 (by decide) ?_
              refine z_iload_n C (pc := 73) dX4_goMarch_73 rfl ?_
              refine z_imul C (pc := 74) dX4_goMarch_74 ?_
              refine z_iload C (pc := 75) dX4_goMarch_75 rfl ?_
              refine z_isub C (pc := 77) dX4_goMarch_77 ?_
              refine z_iconst C (pc := 78) (v := 1) dX4_goMarch_78 (by decide) ?_
              refine z_iadd C (pc := 79) dX4_goMarch_79 ?_
              refine z_seti (y := nI (2 * st - (j + 1) + 1)) (by rw [two_mul_nI, pk_sub hjl]; exact nI_1 _) ?_
              refine z_iload C (pc := 80) dX4_goMarch_80 rfl ?_
              refine z_calliF C (by exact fun _ => mW_ad) (runV C (wc := (mW cI b i' r' h)) (pc := 82) (rY' := rm 4 86) (nn := 2) (As := [.int (nI (2 * st - (j + 1) + 1)), .int 0]) (rest := []) (m_goHome l D cI tt b i' r' h kd n hv' z.1 z.2.1 hmk.1 hgm.1.2.2.1 z.2.2.1 hc2 z.2.2.2 st (j + 1) _ (by omega) hjl hst hjs rfl) (full_hC _) (full_nd _) ⟨rfl, rfl, ⟨Nat.le_of_ble_eq_true rfl, Nat.le_of_ble_eq_true rfl⟩, Nat.le_of_ble_eq_true rfl, Nat.le_of_ble_eq_true rfl⟩ wl_X4_155 wm_X4_goStage we_X4_goStage wi_X4 wc_X4_goStage (by decide +kernel) rfl 0 rfl rfl rfl rfl (Nat.le_of_ble_eq_true rfl) dX4_goMarch_82) (fun q_7 u_7 h_7 => ?_)
              obtain ⟨i7, r7⟩ := u_7
              try dsimp only at h_7
              obtain ⟨g0, g1, g2⟩ := h_7
              subst g0
              refine z_ws (st' := [.int (b2 (decide ((legv kd n st (j + 1) z).2.2.2 = 0)))]) (ws' := (mW cI b i7 r7 h)) rfl rfl ?_
              refine z_istore C (pc := 85) (lv' := [(0, .ref (b 0)), (1, .int (nI x)), (2, .int (nI st)), (3, .int (nI f)), (4, .ref (b 7)), (5, .int (nI (j + 1))), (6, .int 0), (7, .int (b2 (decide ((legv kd n st (j + 1) z).2.2.2 = 0))))]) dX4_goMarch_85 (Nat.le_of_ble_eq_true rfl) rfl rfl ?_
              refine z_aload_n C (pc := 87) dX4_goMarch_87 rfl ?_
              refine z_iload C (pc := 88) dX4_goMarch_88 rfl ?_
              refine z_if_eq C (pc := 90) (tgt := 97) dX4_goMarch_90 (by decide) (fun c_8 => ?_) (fun c_8 => ?_)
              · have hdy : (legv kd n st (j + 1) z).2.2.2 = j + 1 := leg_day.resolve_left (of_decide_eq_false (b2_f c_8))
                refine z_iload C (pc := 97) dX4_goMarch_97 rfl ?_
                refine z_put C (pc := 99) 0 rfl rfl wf_X4 12 (by decide) rfl tyX4 tyX4_ok nmX4 rfl rfl rfl (Nat.le_of_ble_eq_true rfl) (ws' := (mW cI b (upd i7 12 (nI (j + 1))) r7 h)) rfl wl_X4_152 dX4_goMarch_99 ?_
                refine z_iinc C (pc := 102) (v := ((nI (j + 1)) + 1)) (lv' := [(0, .ref (b 0)), (1, .int (nI x)), (2, .int (nI st)), (3, .int (nI f)), (4, .ref (b 7)), (5, .int ((nI (j + 1)) + 1)), (6, .int 0), (7, .int (b2 (decide ((legv kd n st (j + 1) z).2.2.2 = 0))))]) dX4_goMarch_102 rfl rfl (Nat.le_of_ble_eq_true rfl) rfl rfl ?_
                refine z_goto C (pc := 105) (tgt := 31) dX4_goMarch_105 (by decide) ?_
                have hgn : GMm i r (upd i7 12 (nI (j + 1))) r7 (runv kd n st (j + 1) (x, min f (sumk pls kd x n), c, 0)) := by
                  rw [hrs]
                  exact ⟨⟨(hgm.sp.tr g2.1).up (by omega), hgm.sr.tr g2.2.1, g2.2.2.1.up12, g2.2.2.2⟩, by rw [upd_s, hdy]⟩
                refine z_lv (lv' := [(0, .ref (b 0)), (1, .int (nI x)), (2, .int (nI st)), (3, .int (nI f)), (4, .ref (b 7)), (5, .int (nI ((j + 1) + 1)))]) ⟨rfl, rfl, rfl, rfl, rfl, lki (nI_1 _), trivial⟩ ?_
                exact ih31 (j + 1) (upd i7 12 (nI (j + 1))) r7 (by omega) hjl hgn
              · have hdy : (legv kd n st (j + 1) z).2.2.2 = 0 := of_decide_eq_true (b2_t c_8)
                refine z_iconst C (pc := 93) (v := 0) dX4_goMarch_93 (by decide) ?_
                refine z_goto C (pc := 94) (tgt := 99) dX4_goMarch_94 (by decide) ?_
                refine z_put C (pc := 99) 0 rfl rfl wf_X4 12 (by decide) rfl tyX4 tyX4_ok nmX4 rfl rfl rfl (Nat.le_of_ble_eq_true rfl) (ws' := (mW cI b (upd i7 12 0) r7 h)) rfl wl_X4_152 dX4_goMarch_99 ?_
                refine z_iinc C (pc := 102) (v := ((nI (j + 1)) + 1)) (lv' := [(0, .ref (b 0)), (1, .int (nI x)), (2, .int (nI st)), (3, .int (nI f)), (4, .ref (b 7)), (5, .int ((nI (j + 1)) + 1)), (6, .int 0), (7, .int (b2 (decide ((legv kd n st (j + 1) z).2.2.2 = 0))))]) dX4_goMarch_102 rfl rfl (Nat.le_of_ble_eq_true rfl) rfl rfl ?_
                refine z_goto C (pc := 105) (tgt := 31) dX4_goMarch_105 (by decide) ?_
                have hgn : GMm i r (upd i7 12 0) r7 (runv kd n st (j + 1) (x, min f (sumk pls kd x n), c, 0)) := by
                  rw [hrs]
                  exact ⟨⟨(hgm.sp.tr g2.1).up (by omega), hgm.sr.tr g2.2.1, g2.2.2.1.up12, g2.2.2.2⟩, by rw [upd_s, hdy]; rfl⟩
                refine z_lv (lv' := [(0, .ref (b 0)), (1, .int (nI x)), (2, .int (nI st)), (3, .int (nI f)), (4, .ref (b 7)), (5, .int (nI ((j + 1) + 1)))]) ⟨rfl, rfl, rfl, rfl, rfl, lki (nI_1 _), trivial⟩ ?_
                exact ih31 (j + 1) (upd i7 12 0) r7 (by omega) hjl hgn
            · exact absurd c_6 (by decide)
          · have hjs : j + 1 ≤ st := Nat.le_of_not_lt (fun h => c_5 (nI_lt h (by omega)))
            refine z_iconst C (pc := 52) (v := 1) dX4_goMarch_52 (by decide) ?_
            refine z_goto C (pc := 53) (tgt := 57) dX4_goMarch_53 (by decide) ?_
            refine z_istore C (pc := 57) (lv' := [(0, .ref (b 0)), (1, .int (nI x)), (2, .int (nI st)), (3, .int (nI f)), (4, .ref (b 7)), (5, .int (nI (j + 1))), (6, .int 1)]) dX4_goMarch_57 (Nat.le_of_ble_eq_true rfl) rfl rfl ?_
            refine z_aload_n C (pc := 59) dX4_goMarch_59 rfl ?_
            refine z_iload C (pc := 60) dX4_goMarch_60 rfl ?_
            refine z_if_eq C (pc := 62) (tgt := 72) dX4_goMarch_62 (by decide) (fun c_9 => ?_) (fun c_9 => ?_)
            · exact absurd c_9 (by decide)
            · refine z_iload C (pc := 65) dX4_goMarch_65 rfl ?_
              refine z_iconst C (pc := 67) (v := 1) dX4_goMarch_67 (by decide) ?_
              refine z_isub C (pc := 68) dX4_goMarch_68 ?_
              refine z_goto C (pc := 69) (tgt := 80) dX4_goMarch_69 (by decide) ?_
              refine z_seti (y := nI (j + 1 - 1)) (nI_pred j) ?_
              refine z_iload C (pc := 80) dX4_goMarch_80 rfl ?_
              refine z_calliF C (by exact fun _ => mW_ad) (runV C (wc := (mW cI b i' r' h)) (pc := 82) (rY' := rm 4 86) (nn := 2) (As := [.int (nI (j + 1 - 1)), .int 1]) (rest := []) (m_goOut l D cI tt b i' r' h kd n hv' z.1 z.2.1 hmk.1 hgm.1.2.2.1 z.2.2.1 hc2 z.2.2.2 st (j + 1) _ (by omega) hjl hst hjs rfl) (full_hC _) (full_nd _) ⟨rfl, rfl, ⟨Nat.le_of_ble_eq_true rfl, Nat.le_of_ble_eq_true rfl⟩, Nat.le_of_ble_eq_true rfl, Nat.le_of_ble_eq_true rfl⟩ wl_X4_155 wm_X4_goStage we_X4_goStage wi_X4 wc_X4_goStage (by decide +kernel) rfl 0 rfl rfl rfl rfl (Nat.le_of_ble_eq_true rfl) dX4_goMarch_82) (fun q_10 u_10 h_10 => ?_)
              obtain ⟨i10, r10⟩ := u_10
              try dsimp only at h_10
              obtain ⟨g0, g1, g2⟩ := h_10
              subst g0
              refine z_ws (st' := [.int (b2 (decide ((legv kd n st (j + 1) z).2.2.2 = 0)))]) (ws' := (mW cI b i10 r10 h)) rfl rfl ?_
              refine z_istore C (pc := 85) (lv' := [(0, .ref (b 0)), (1, .int (nI x)), (2, .int (nI st)), (3, .int (nI f)), (4, .ref (b 7)), (5, .int (nI (j + 1))), (6, .int 1), (7, .int (b2 (decide ((legv kd n st (j + 1) z).2.2.2 = 0))))]) dX4_goMarch_85 (Nat.le_of_ble_eq_true rfl) rfl rfl ?_
              refine z_aload_n C (pc := 87) dX4_goMarch_87 rfl ?_
              refine z_iload C (pc := 88) dX4_goMarch_88 rfl ?_
              refine z_if_eq C (pc := 90) (tgt := 97) dX4_goMarch_90 (by decide) (fun c_11 => ?_) (fun c_11 => ?_)
              · have hdy : (legv kd n st (j + 1) z).2.2.2 = j + 1 := leg_day.resolve_left (of_decide_eq_false (b2_f c_11))
                refine z_iload C (pc := 97) dX4_goMarch_97 rfl ?_
                refine z_put C (pc := 99) 0 rfl rfl wf_X4 12 (by decide) rfl tyX4 tyX4_ok nmX4 rfl rfl rfl (Nat.le_of_ble_eq_true rfl) (ws' := (mW cI b (upd i10 12 (nI (j + 1))) r10 h)) rfl wl_X4_152 dX4_goMarch_99 ?_
                refine z_iinc C (pc := 102) (v := ((nI (j + 1)) + 1)) (lv' := [(0, .ref (b 0)), (1, .int (nI x)), (2, .int (nI st)), (3, .int (nI f)), (4, .ref (b 7)), (5, .int ((nI (j + 1)) + 1)), (6, .int 1), (7, .int (b2 (decide ((legv kd n st (j + 1) z).2.2.2 = 0))))]) dX4_goMarch_102 rfl rfl (Nat.le_of_ble_eq_true rfl) rfl rfl ?_
                refine z_goto C (pc := 105) (tgt := 31) dX4_goMarch_105 (by decide) ?_
                have hgn : GMm i r (upd i10 12 (nI (j + 1))) r10 (runv kd n st (j + 1) (x, min f (sumk pls kd x n), c, 0)) := by
                  rw [hrs]
                  exact ⟨⟨(hgm.sp.tr g2.1).up (by omega), hgm.sr.tr g2.2.1, g2.2.2.1.up12, g2.2.2.2⟩, by rw [upd_s, hdy]⟩
                refine z_lv (lv' := [(0, .ref (b 0)), (1, .int (nI x)), (2, .int (nI st)), (3, .int (nI f)), (4, .ref (b 7)), (5, .int (nI ((j + 1) + 1)))]) ⟨rfl, rfl, rfl, rfl, rfl, lki (nI_1 _), trivial⟩ ?_
                exact ih31 (j + 1) (upd i10 12 (nI (j + 1))) r10 (by omega) hjl hgn
              · have hdy : (legv kd n st (j + 1) z).2.2.2 = 0 := of_decide_eq_true (b2_t c_11)
                refine z_iconst C (pc := 93) (v := 0) dX4_goMarch_93 (by decide) ?_
                refine z_goto C (pc := 94) (tgt := 99) dX4_goMarch_94 (by decide) ?_
                refine z_put C (pc := 99) 0 rfl rfl wf_X4 12 (by decide) rfl tyX4 tyX4_ok nmX4 rfl rfl rfl (Nat.le_of_ble_eq_true rfl) (ws' := (mW cI b (upd i10 12 0) r10 h)) rfl wl_X4_152 dX4_goMarch_99 ?_
                refine z_iinc C (pc := 102) (v := ((nI (j + 1)) + 1)) (lv' := [(0, .ref (b 0)), (1, .int (nI x)), (2, .int (nI st)), (3, .int (nI f)), (4, .ref (b 7)), (5, .int ((nI (j + 1)) + 1)), (6, .int 1), (7, .int (b2 (decide ((legv kd n st (j + 1) z).2.2.2 = 0))))]) dX4_goMarch_102 rfl rfl (Nat.le_of_ble_eq_true rfl) rfl rfl ?_
                refine z_goto C (pc := 105) (tgt := 31) dX4_goMarch_105 (by decide) ?_
                have hgn : GMm i r (upd i10 12 0) r10 (runv kd n st (j + 1) (x, min f (sumk pls kd x n), c, 0)) := by
                  rw [hrs]
                  exact ⟨⟨(hgm.sp.tr g2.1).up (by omega), hgm.sr.tr g2.2.1, g2.2.2.1.up12, g2.2.2.2⟩, by rw [upd_s, hdy]; rfl⟩
                refine z_lv (lv' := [(0, .ref (b 0)), (1, .int (nI x)), (2, .int (nI st)), (3, .int (nI f)), (4, .ref (b 7)), (5, .int (nI ((j + 1) + 1)))]) ⟨rfl, rfl, rfl, rfl, rfl, lki (nI_1 _), trivial⟩ ?_
                exact ih31 (j + 1) (upd i10 12 0) r10 (by omega) hjl hgn
  have hg0 : GMm i r (upd i2 12 0) (va_up r 3 (cqv (r 6) (r 3) 7)) (runv kd n st 0 (x, min f (sumk pls kd x n), c, 0)) := ⟨⟨(k4.tr k1).up (by omega), SRm.rf.up, ⟨(upd_n (by decide)).trans k3.1, (upd_n (by decide)).trans k3.2⟩, fun k hk => by rw [vup_s, cqv_at, if_pos (by omega)]; exact (hc k hk).1⟩, upd_s⟩
  refine z_lv (lv' := [(0, .ref (b 0)), (1, .int (nI x)), (2, .int (nI st)), (3, .int (nI f)), (4, .ref (b 7)), (5, .int (nI (0 + 1)))]) ⟨rfl, rfl, rfl, rfl, rfl, rfl, trivial⟩ ?_
  exact key31 (_ + 1) 0 (upd i2 12 0) (va_up r 3 (cqv (r 6) (r 3) 7)) (Nat.lt_succ_self _) (Nat.zero_le _) hg0

set_option maxHeartbeats 4000000 in
set_option maxRecDepth 100000 in
theorem m_comesHomeF (l : Launch) (D : va_G) (cI : ClassId) (tt : Nat × Nat × Nat) (b : Nat → Nat) (i : Nat → Int32) (r : Nat → Nat → Int32) (h : Int64) (kd : Nat → Nat) (n : Nat) (hv : PVm i r kd n) (x st f : Nat) (hx : x < 2 ^ n) (hst : st ≤ 6) (hf : f ≤ 40) (c : Nat → Nat) (hc : ∀ k, k < 5 → r 2 (k + 1) = nI (c k) ∧ c k ≤ 9) (hst1 : 1 ≤ st) : MetI (S := ((Nat → Int32) × (Nat → Nat → Int32))) l yX4_comesHome cX4_comesHome 5 (some .boolean) (rm 6 138) D cI tt [.ref (b 0), .int (nI x), .int (nI st), .int (nI f), .ref (b 3)] (mW cI b i r h) (fun q u => q = b2 (homeb kd n x st c f) ∧ SPm i u.1 ∧ SRm r u.2) (fun u => mW cI b u.1 u.2 h) := by
  have hn6 := hv.2.1
  have hx6 := pow_le6 hn6
  have hpl := pl_le (kd := kd) (x := x) hn6
  have hcc : ∀ k, k < 5 → c k ≤ 9 := fun k hk => (hc k hk).2
  refine met_ofI (by decide) (Nat.le_of_ble_eq_true rfl) ?_
  intro pP eE sS mM aV bB mE cC AA C hin
  refine z_conv (lv' := [(0, .ref (b 0)), (1, .int (nI x)), (2, .int (nI st)), (3, .int (nI f)), (4, .ref (b 3))]) ⟨rfl, rfl, rfl, rfl, rfl, trivial⟩ rfl rfl ?_
  refine z_aload_n C (pc := 0) dX4_comesHome_0 rfl ?_
  refine z_iload_n C (pc := 1) dX4_comesHome_1 rfl ?_
  refine z_iload_n C (pc := 2) dX4_comesHome_2 rfl ?_
  refine z_iload_n C (pc := 3) dX4_comesHome_3 rfl ?_
  refine z_aload C (pc := 4) dX4_comesHome_4 rfl ?_
  refine z_callvF C (by exact fun _ => mW_ad) (runV C (wc := (mW cI b i r h)) (pc := 6) (rY' := rm 5 111) (nn := 4) (As := [.int (nI x), .int (nI st), .int (nI f), .ref (b 3)]) (rest := []) (m_goMarchF l D cI tt b i r h kd n hv x st f hx hst hf c hc) (full_hC _) (full_nd _) ⟨rfl, rfl, ⟨Nat.le_of_ble_eq_true rfl, Nat.le_of_ble_eq_true rfl⟩, Nat.le_of_ble_eq_true rfl, Nat.le_of_ble_eq_true rfl⟩ wl_X4_159 wm_X4_goMarch we_X4_goMarch wi_X4 wc_X4_goMarch (by decide +kernel) rfl 0 rfl rfl rfl rfl (Nat.le_of_ble_eq_true rfl) dX4_comesHome_6) (fun u_1 h_1 => ?_)
  obtain ⟨i1, r1⟩ := u_1
  try dsimp only at h_1
  have hgm := h_1
  have hmk := runv_ok (kd := kd) (st := st) hn6 (2 * st) (x, min f (sumk pls kd x n), c, 0) (mok0 (kd := kd) (f := f) hx hcc)
  have hma := mar_alive (kd := kd) (n := n) (x := x) (f := f) (c := c) hst1
  refine z_ws (st' := []) (ws' := (mW cI b i1 r1 h)) rfl rfl ?_
  refine z_aload_n C (pc := 9) dX4_comesHome_9 rfl ?_
  refine z_get C (pc := 10) 0 rfl rfl wf_X4 10 (by decide) rfl wl_X4_125 (v := .int (i1 10)) rfl dX4_comesHome_10 ?_
  refine z_if_eq C (pc := 13) (tgt := 20) dX4_comesHome_13 (by decide) (fun c_2 => ?_) (fun c_2 => ?_)
  · have h0 : homeb kd n x st c f = false := by
      unfold homeb
      apply decide_eq_false
      rw [hgm.1.2.2.1.1] at c_2
      exact fun e => hma.mp e (nI_z (by have := hmk.1.1; unfold marv; omega) c_2)
    refine z_iconst C (pc := 20) (v := 0) dX4_comesHome_20 (by decide) ?_
    refine z_zret C (pc := 21) (i1, r1) dX4_comesHome_21 rfl ?_ rfl
    exact ⟨by rw [h0]; rfl, hgm.sp, hgm.sr⟩
  · have h0 : homeb kd n x st c f = true := by
      unfold homeb
      apply decide_eq_true
      rw [hgm.1.2.2.1.1] at c_2
      exact hma.mpr (nI_nz c_2)
    refine z_iconst C (pc := 16) (v := 1) dX4_comesHome_16 (by decide) ?_
    refine z_goto C (pc := 17) (tgt := 21) dX4_comesHome_17 (by decide) ?_
    refine z_zret C (pc := 21) (i1, r1) dX4_comesHome_21 rfl ?_ rfl
    exact ⟨by rw [h0]; rfl, hgm.sp, hgm.sr⟩

set_option maxHeartbeats 4000000 in
set_option maxRecDepth 100000 in
theorem m_comesHomeO (l : Launch) (D : va_G) (cI : ClassId) (tt : Nat × Nat × Nat) (b : Nat → Nat) (i : Nat → Int32) (r : Nat → Nat → Int32) (h : Int64) (kd : Nat → Nat) (n : Nat) (hv : PVm i r kd n) (x st f : Nat) (hx : x < 2 ^ n) (hst : st ≤ 6) (hf : f ≤ 40) (c : Nat → Nat) (hc : ∀ k, k < 5 → r 5 (k + 1) = nI (c k) ∧ c k ≤ 9) (hst1 : 1 ≤ st) : MetI (S := ((Nat → Int32) × (Nat → Nat → Int32))) l yX4_comesHome cX4_comesHome 5 (some .boolean) (rm 6 138) D cI tt [.ref (b 0), .int (nI x), .int (nI st), .int (nI f), .ref (b 6)] (mW cI b i r h) (fun q u => q = b2 (homeb kd n x st c f) ∧ SPm i u.1 ∧ SRm r u.2) (fun u => mW cI b u.1 u.2 h) := by
  have hn6 := hv.2.1
  have hx6 := pow_le6 hn6
  have hpl := pl_le (kd := kd) (x := x) hn6
  have hcc : ∀ k, k < 5 → c k ≤ 9 := fun k hk => (hc k hk).2
  refine met_ofI (by decide) (Nat.le_of_ble_eq_true rfl) ?_
  intro pP eE sS mM aV bB mE cC AA C hin
  refine z_conv (lv' := [(0, .ref (b 0)), (1, .int (nI x)), (2, .int (nI st)), (3, .int (nI f)), (4, .ref (b 6))]) ⟨rfl, rfl, rfl, rfl, rfl, trivial⟩ rfl rfl ?_
  refine z_aload_n C (pc := 0) dX4_comesHome_0 rfl ?_
  refine z_iload_n C (pc := 1) dX4_comesHome_1 rfl ?_
  refine z_iload_n C (pc := 2) dX4_comesHome_2 rfl ?_
  refine z_iload_n C (pc := 3) dX4_comesHome_3 rfl ?_
  refine z_aload C (pc := 4) dX4_comesHome_4 rfl ?_
  refine z_callvF C (by exact fun _ => mW_ad) (runV C (wc := (mW cI b i r h)) (pc := 6) (rY' := rm 5 111) (nn := 4) (As := [.int (nI x), .int (nI st), .int (nI f), .ref (b 6)]) (rest := []) (m_goMarchO l D cI tt b i r h kd n hv x st f hx hst hf c hc) (full_hC _) (full_nd _) ⟨rfl, rfl, ⟨Nat.le_of_ble_eq_true rfl, Nat.le_of_ble_eq_true rfl⟩, Nat.le_of_ble_eq_true rfl, Nat.le_of_ble_eq_true rfl⟩ wl_X4_159 wm_X4_goMarch we_X4_goMarch wi_X4 wc_X4_goMarch (by decide +kernel) rfl 0 rfl rfl rfl rfl (Nat.le_of_ble_eq_true rfl) dX4_comesHome_6) (fun u_1 h_1 => ?_)
  obtain ⟨i1, r1⟩ := u_1
  try dsimp only at h_1
  have hgm := h_1
  have hmk := runv_ok (kd := kd) (st := st) hn6 (2 * st) (x, min f (sumk pls kd x n), c, 0) (mok0 (kd := kd) (f := f) hx hcc)
  have hma := mar_alive (kd := kd) (n := n) (x := x) (f := f) (c := c) hst1
  refine z_ws (st' := []) (ws' := (mW cI b i1 r1 h)) rfl rfl ?_
  refine z_aload_n C (pc := 9) dX4_comesHome_9 rfl ?_
  refine z_get C (pc := 10) 0 rfl rfl wf_X4 10 (by decide) rfl wl_X4_125 (v := .int (i1 10)) rfl dX4_comesHome_10 ?_
  refine z_if_eq C (pc := 13) (tgt := 20) dX4_comesHome_13 (by decide) (fun c_2 => ?_) (fun c_2 => ?_)
  · have h0 : homeb kd n x st c f = false := by
      unfold homeb
      apply decide_eq_false
      rw [hgm.1.2.2.1.1] at c_2
      exact fun e => hma.mp e (nI_z (by have := hmk.1.1; unfold marv; omega) c_2)
    refine z_iconst C (pc := 20) (v := 0) dX4_comesHome_20 (by decide) ?_
    refine z_zret C (pc := 21) (i1, r1) dX4_comesHome_21 rfl ?_ rfl
    exact ⟨by rw [h0]; rfl, hgm.sp, hgm.sr⟩
  · have h0 : homeb kd n x st c f = true := by
      unfold homeb
      apply decide_eq_true
      rw [hgm.1.2.2.1.1] at c_2
      exact hma.mpr (nI_nz c_2)
    refine z_iconst C (pc := 16) (v := 1) dX4_comesHome_16 (by decide) ?_
    refine z_goto C (pc := 17) (tgt := 21) dX4_comesHome_17 (by decide) ?_
    refine z_zret C (pc := 21) (i1, r1) dX4_comesHome_21 rfl ?_ rfl
    exact ⟨by rw [h0]; rfl, hgm.sp, hgm.sr⟩

set_option maxHeartbeats 4000000 in
set_option maxRecDepth 100000 in
theorem m_comesHomeT (l : Launch) (D : va_G) (cI : ClassId) (tt : Nat × Nat × Nat) (b : Nat → Nat) (i : Nat → Int32) (r : Nat → Nat → Int32) (h : Int64) (kd : Nat → Nat) (n : Nat) (hv : PVm i r kd n) (x st f : Nat) (hx : x < 2 ^ n) (hst : st ≤ 6) (hf : f ≤ 40) (c : Nat → Nat) (hc : ∀ k, k < 5 → r 6 (k + 1) = nI (c k) ∧ c k ≤ 9) (hst1 : 1 ≤ st) : MetI (S := ((Nat → Int32) × (Nat → Nat → Int32))) l yX4_comesHome cX4_comesHome 5 (some .boolean) (rm 6 138) D cI tt [.ref (b 0), .int (nI x), .int (nI st), .int (nI f), .ref (b 7)] (mW cI b i r h) (fun q u => q = b2 (homeb kd n x st c f) ∧ SPm i u.1 ∧ SRm r u.2) (fun u => mW cI b u.1 u.2 h) := by
  have hn6 := hv.2.1
  have hx6 := pow_le6 hn6
  have hpl := pl_le (kd := kd) (x := x) hn6
  have hcc : ∀ k, k < 5 → c k ≤ 9 := fun k hk => (hc k hk).2
  refine met_ofI (by decide) (Nat.le_of_ble_eq_true rfl) ?_
  intro pP eE sS mM aV bB mE cC AA C hin
  refine z_conv (lv' := [(0, .ref (b 0)), (1, .int (nI x)), (2, .int (nI st)), (3, .int (nI f)), (4, .ref (b 7))]) ⟨rfl, rfl, rfl, rfl, rfl, trivial⟩ rfl rfl ?_
  refine z_aload_n C (pc := 0) dX4_comesHome_0 rfl ?_
  refine z_iload_n C (pc := 1) dX4_comesHome_1 rfl ?_
  refine z_iload_n C (pc := 2) dX4_comesHome_2 rfl ?_
  refine z_iload_n C (pc := 3) dX4_comesHome_3 rfl ?_
  refine z_aload C (pc := 4) dX4_comesHome_4 rfl ?_
  refine z_callvF C (by exact fun _ => mW_ad) (runV C (wc := (mW cI b i r h)) (pc := 6) (rY' := rm 5 111) (nn := 4) (As := [.int (nI x), .int (nI st), .int (nI f), .ref (b 7)]) (rest := []) (m_goMarchT l D cI tt b i r h kd n hv x st f hx hst hf c hc) (full_hC _) (full_nd _) ⟨rfl, rfl, ⟨Nat.le_of_ble_eq_true rfl, Nat.le_of_ble_eq_true rfl⟩, Nat.le_of_ble_eq_true rfl, Nat.le_of_ble_eq_true rfl⟩ wl_X4_159 wm_X4_goMarch we_X4_goMarch wi_X4 wc_X4_goMarch (by decide +kernel) rfl 0 rfl rfl rfl rfl (Nat.le_of_ble_eq_true rfl) dX4_comesHome_6) (fun u_1 h_1 => ?_)
  obtain ⟨i1, r1⟩ := u_1
  try dsimp only at h_1
  have hgm := h_1
  have hmk := runv_ok (kd := kd) (st := st) hn6 (2 * st) (x, min f (sumk pls kd x n), c, 0) (mok0 (kd := kd) (f := f) hx hcc)
  have hma := mar_alive (kd := kd) (n := n) (x := x) (f := f) (c := c) hst1
  refine z_ws (st' := []) (ws' := (mW cI b i1 r1 h)) rfl rfl ?_
  refine z_aload_n C (pc := 9) dX4_comesHome_9 rfl ?_
  refine z_get C (pc := 10) 0 rfl rfl wf_X4 10 (by decide) rfl wl_X4_125 (v := .int (i1 10)) rfl dX4_comesHome_10 ?_
  refine z_if_eq C (pc := 13) (tgt := 20) dX4_comesHome_13 (by decide) (fun c_2 => ?_) (fun c_2 => ?_)
  · have h0 : homeb kd n x st c f = false := by
      unfold homeb
      apply decide_eq_false
      rw [hgm.1.2.2.1.1] at c_2
      exact fun e => hma.mp e (nI_z (by have := hmk.1.1; unfold marv; omega) c_2)
    refine z_iconst C (pc := 20) (v := 0) dX4_comesHome_20 (by decide) ?_
    refine z_zret C (pc := 21) (i1, r1) dX4_comesHome_21 rfl ?_ rfl
    exact ⟨by rw [h0]; rfl, hgm.sp, hgm.sr⟩
  · have h0 : homeb kd n x st c f = true := by
      unfold homeb
      apply decide_eq_true
      rw [hgm.1.2.2.1.1] at c_2
      exact hma.mpr (nI_nz c_2)
    refine z_iconst C (pc := 16) (v := 1) dX4_comesHome_16 (by decide) ?_
    refine z_goto C (pc := 17) (tgt := 21) dX4_comesHome_17 (by decide) ?_
    refine z_zret C (pc := 21) (i1, r1) dX4_comesHome_21 rfl ?_ rfl
    exact ⟨by rw [h0]; rfl, hgm.sp, hgm.sr⟩
