/-! the reference: marches -/
def GSm (i : Nat → Int32) (r : Nat → Nat → Int32) (i' : Nat → Int32) (r' : Nat → Nat → Int32) (m : MS) : Prop := SPm i i' ∧ SRm r r' ∧ PM i' m.1 m.2.1 ∧ ∀ k, k < 5 → r' 3 (k + 1) = nI (m.2.2.1 k)
theorem lsv_pred {P : Nat → Bool} {x n : Nat} (hn : n ≤ 6) : nI (lsv P x n) - 1 = -1 ↔ lsv P x n = 0 := lsv_ne _ (by have := lsv_le P x n; omega)
theorem lsv_get {P : Nat → Bool} {x n : Nat} (hn : n ≤ 6) (h : ¬ nI (lsv P x n) - 1 = -1) : ∃ j, lsv P x n = j + 1 := ⟨lsv P x n - 1, by have h0 : lsv P x n ≠ 0 := (fun e => h ((lsv_pred hn).mpr e)); omega⟩
theorem leg_day {kd : Nat → Nat} {n st j : Nat} {z : MS} : (legv kd n st j z).2.2.2 = 0 ∨ (legv kd n st j z).2.2.2 = j := by
  unfold legv
  generalize outv kd n st j (z.1, z.2.1) = s
  dsimp only
  by_cases e : s.1 = 0 ∨ s.2 < sumk ets kd s.1 n
  · rw [if_pos e]; exact Or.inr rfl
  · rw [if_neg e]
    by_cases e2 : j ≤ st
    · rw [if_pos e2]; exact Or.inl rfl
    · rw [if_neg e2]; exact Or.inl rfl
theorem run_alive1 {kd : Nat → Nat} {n st : Nat} {z : MS} (hz : z.2.2.2 = 0) : ∀ j, ((runv kd n st (j + 1) z).2.2.2 = 0 ↔ (runv kd n st (j + 1) z).1 ≠ 0)
  | 0 => by
    rw [run_s (j := 0) (by exact hz)]
    exact legv_alive (by decide)
  | j + 1 => by
    by_cases e : (runv kd n st (j + 1) z).2.2.2 = 0
    · rw [run_s e]; exact legv_alive (by omega)
    · have := runv_dead e 1
      rw [this]; exact run_alive1 hz j
theorem mar_alive {kd : Nat → Nat} {n x st f : Nat} {c : Nat → Nat} (h : 1 ≤ st) : ((marv kd n x st f c).2.2.2 = 0 ↔ (marv kd n x st f c).1 ≠ 0) := by
  have := run_alive1 (kd := kd) (n := n) (st := st) (z := (x, min f (sumk pls kd x n), c, 0)) rfl (2 * st - 1)
  rw [show 2 * st - 1 + 1 = 2 * st by omega] at this
  exact this
set_option maxHeartbeats 4000000 in
set_option maxRecDepth 100000 in
theorem m_goOut (l : Launch) (D : va_G) (cI : ClassId) (tt : Nat × Nat × Nat) (b : Nat → Nat) (i : Nat → Int32) (r : Nat → Nat → Int32) (h : Int64) (kd : Nat → Nat) (n : Nat) (hv : PVm i r kd n) (x f : Nat) (ho : OK kd n x f) (hp : PM i x f) (c : Nat → Nat) (hc : ∀ k, k < 5 → r 3 (k + 1) = nI (c k) ∧ c k ≤ 9) (d st j fr : Nat) (hj1 : 1 ≤ j) (hj2 : j ≤ 2 * st) (hst : st ≤ 6) (hjs : j ≤ st) (hfr : fr = j - 1) : MetI (S := ((Nat → Int32) × (Nat → Nat → Int32))) l yX4_goStage cX4_goStage 6 (some .boolean) (rm 4 86) D cI tt [.ref (b 0), .int (nI fr), .int 1] (mW cI b i r h) (fun q u => q = b2 (decide ((legv kd n st j (x, f, c, d)).2.2.2 = 0)) ∧ u.1 12 = i 12 ∧ GSm i r u.1 u.2 (legv kd n st j (x, f, c, d))) (fun u => mW cI b u.1 u.2 h) := by
  have hn6 := hv.2.1
  have hx6 := pow_le6 hn6
  refine met_ofI (by decide) (Nat.le_of_ble_eq_true rfl) ?_
  intro pP eE sS mM aV bB mE cC AA C hin
  refine z_conv (lv' := [(0, .ref (b 0)), (1, .int (nI fr)), (2, .int 1)]) ⟨rfl, rfl, rfl, trivial⟩ rfl rfl ?_
  have join82 : ∀ (x' f' : Nat) (i' : Nat → Int32), (SPm i i') → (i' 12 = i 12) → (PM i' x' f') → (OK kd n x' f') → (outv kd n st j (x, f) = (x', f')) → Z pP l eE (rm 4 86) sS mM aV bB mE cC D AA 6 0 0 (MQ bB (va_Qi (S := ((Nat → Int32) × (Nat → Nat → Int32))) (fun q u => q = b2 (decide ((legv kd n st j (x, f, c, d)).2.2.2 = 0)) ∧ u.1 12 = i 12 ∧ GSm i r u.1 u.2 (legv kd n st j (x, f, c, d))) (fun u t => va_P D vwCl ((fun u => mW cI b u.1 u.2 h) u) t.heap) AA) aV sS 0 0 AA) 82 [(0, .ref (b 0)), (1, .int (nI fr)), (2, .int 1)] [] (mW cI b i' r h) := by
    intro x' f' i' hsp h12 hpm hok hov
    have hv' := hv.sp hsp SRm.rf
    have hxx := hok.1
    have hff := hok.2
    have hpl := pl_le (kd := kd) (x := x') hn6
    refine z_aload_n C (pc := 82) dX4_goStage_82 rfl ?_
    refine z_get C (pc := 83) 0 rfl rfl wf_X4 10 (by decide) rfl wl_X4_125 (v := .int (i' 10)) rfl dX4_goStage_83 ?_
    refine z_if_eq C (pc := 86) (tgt := 104) dX4_goStage_86 (by decide) (fun c_1 => ?_) (fun c_1 => ?_)
    · have hdie : (x', f').1 = 0 ∨ (x', f').2 < sumk ets kd (x', f').1 n := Or.inl (by
        rw [hpm.1] at c_1
        exact (nI_eq (b := 0) (by omega) (by omega)).mp c_1)
      refine z_aload_n C (pc := 104) dX4_goStage_104 rfl ?_
      refine z_iconst C (pc := 105) (v := 0) dX4_goStage_105 (by decide) ?_
      refine z_put C (pc := 106) 0 rfl rfl wf_X4 10 (by decide) rfl tyX4 tyX4_ok nmX4 rfl rfl rfl (Nat.le_of_ble_eq_true rfl) (ws' := (mW cI b (upd i' 10 0) r h)) rfl wl_X4_125 dX4_goStage_106 ?_
      refine z_aload_n C (pc := 109) dX4_goStage_109 rfl ?_
      refine z_iconst C (pc := 110) (v := 0) dX4_goStage_110 (by decide) ?_
      refine z_put C (pc := 111) 0 rfl rfl wf_X4 11 (by decide) rfl tyX4 tyX4_ok nmX4 rfl rfl rfl (Nat.le_of_ble_eq_true rfl) (ws' := (mW cI b (upd (upd i' 10 0) 11 0) r h)) rfl wl_X4_128 dX4_goStage_111 ?_
      refine z_iconst C (pc := 114) (v := 0) dX4_goStage_114 (by decide) ?_
      refine z_zret C (pc := 115) ((upd (upd i' 10 0) 11 0), r) dX4_goStage_115 rfl ?_ rfl
      have hl : (legv kd n st j (x, f, c, d)) = (0, 0, c, j) := leg_die (z := (x, f, c, d)) hov hdie
      rw [hl]
      refine ⟨by simp [b2, show j ≠ 0 by omega], by simp [upd]; exact h12, (hsp.up (by omega)).up (by omega), SRm.rf, ⟨by simp [upd, nI], by simp [upd, nI]⟩, fun k hk => (hc k hk).1⟩
    · have hal : x' ≠ 0 := fun e => c_1 (by rw [hpm.1, e]; rfl)
      refine z_aload_n C (pc := 89) dX4_goStage_89 rfl ?_
      refine z_get C (pc := 90) 0 rfl rfl wf_X4 11 (by decide) rfl wl_X4_128 (v := .int (i' 11)) rfl dX4_goStage_90 ?_
      refine z_aload_n C (pc := 93) dX4_goStage_93 rfl ?_
      refine z_aload_n C (pc := 94) dX4_goStage_94 rfl ?_
      refine z_get C (pc := 95) 0 rfl rfl wf_X4 10 (by decide) rfl wl_X4_125 (v := .int (i' 10)) rfl dX4_goStage_95 ?_
      refine z_seti (y := (nI x')) (hpm.1) ?_
      refine z_calliF C (by exact fun _ => mW_ad) (runV C (wc := (mW cI b i' r h)) (pc := 98) (rY' := rm 1 21) (nn := 1) (As := [.int (nI x')]) (rest := [.int (i' 11)]) (m_eatOf l D cI tt b i' r h kd n hv' x' (by omega)) (full_hC _) (full_nd _) ⟨rfl, rfl, ⟨Nat.le_of_ble_eq_true rfl, Nat.le_of_ble_eq_true rfl⟩, Nat.le_of_ble_eq_true rfl, Nat.le_of_ble_eq_true rfl⟩ wl_X4_145 wm_X4_eatOf we_X4_eatOf wi_X4 wc_X4_eatOf (by decide +kernel) rfl 0 rfl rfl rfl rfl (Nat.le_of_ble_eq_true rfl) dX4_goStage_98) (fun q_2 u_2 h_2 => ?_)
      subst h_2
      refine z_ws (st' := [.int (nI (sumk ets kd x' n)), .int (i' 11)]) (ws' := (mW cI b i' r h)) rfl rfl ?_
      refine z_icmp_ge C (pc := 101) (tgt := 116) dX4_goStage_101 (by decide) (fun c_3 => ?_) (fun c_3 => ?_)
      · have hge : sumk ets kd x' n ≤ f' := by
          rw [hpm.2] at c_3
          exact ge_of_nI c_3 (by have := et_le (kd := kd) (x := x') hn6; omega)
        have hnd : ¬ ((x', f').1 = 0 ∨ (x', f').2 < sumk ets kd (x', f').1 n) := by
          show ¬ (x' = 0 ∨ f' < sumk ets kd x' n)
          omega
        refine z_aload_n C (pc := 116) dX4_goStage_116 rfl ?_
        refine z_dup C (pc := 117) dX4_goStage_117 rfl ?_
        refine z_get C (pc := 118) 0 rfl rfl wf_X4 11 (by decide) rfl wl_X4_128 (v := .int (i' 11)) rfl dX4_goStage_118 ?_
        refine z_aload_n C (pc := 121) dX4_goStage_121 rfl ?_
        refine z_aload_n C (pc := 122) dX4_goStage_122 rfl ?_
        refine z_get C (pc := 123) 0 rfl rfl wf_X4 10 (by decide) rfl wl_X4_125 (v := .int (i' 10)) rfl dX4_goStage_123 ?_
        refine z_seti (y := (nI x')) (hpm.1) ?_
        refine z_calliF C (by exact fun _ => mW_ad) (runV C (wc := (mW cI b i' r h)) (pc := 126) (rY' := rm 1 21) (nn := 1) (As := [.int (nI x')]) (rest := [.int (i' 11), .ref (b 0)]) (m_eatOf l D cI tt b i' r h kd n hv' x' (by omega)) (full_hC _) (full_nd _) ⟨rfl, rfl, ⟨Nat.le_of_ble_eq_true rfl, Nat.le_of_ble_eq_true rfl⟩, Nat.le_of_ble_eq_true rfl, Nat.le_of_ble_eq_true rfl⟩ wl_X4_145 wm_X4_eatOf we_X4_eatOf wi_X4 wc_X4_eatOf (by decide +kernel) rfl 0 rfl rfl rfl rfl (Nat.le_of_ble_eq_true rfl) dX4_goStage_126) (fun q_4 u_4 h_4 => ?_)
        subst h_4
        refine z_ws (st' := [.int (nI (sumk ets kd x' n)), .int (i' 11), .ref (b 0)]) (ws' := (mW cI b i' r h)) rfl rfl ?_
        refine z_isub C (pc := 129) dX4_goStage_129 ?_
        refine z_seti (y := (nI (f' - sumk ets kd x' n))) (by rw [hpm.2]; exact pk_sub hge) ?_
        refine z_put C (pc := 130) 0 rfl rfl wf_X4 11 (by decide) rfl tyX4 tyX4_ok nmX4 rfl rfl rfl (Nat.le_of_ble_eq_true rfl) (ws' := (mW cI b (upd i' 11 (nI (f' - sumk ets kd x' n))) r h)) rfl wl_X4_128 dX4_goStage_130 ?_
        refine z_iload_n C (pc := 133) dX4_goStage_133 rfl ?_
        refine z_if_eq C (pc := 134) (tgt := 143) dX4_goStage_134 (by decide) (fun c_5 => ?_) (fun c_5 => ?_)
        · exact absurd c_5 (by decide)
        · refine z_iload_n C (pc := 137) dX4_goStage_137 rfl ?_
          refine z_iconst C (pc := 138) (v := 1) dX4_goStage_138 (by decide) ?_
          refine z_iadd C (pc := 139) dX4_goStage_139 ?_
          refine z_goto C (pc := 140) (tgt := 146) dX4_goStage_140 (by decide) ?_
          refine z_istore_n C (pc := 146) (lv' := [(0, .ref (b 0)), (1, .int (nI fr)), (2, .int 1), (3, .int ((nI fr) + 1))]) dX4_goStage_146 (Nat.le_of_ble_eq_true rfl) rfl rfl ?_
          refine z_iload_n C (pc := 147) dX4_goStage_147 rfl ?_
          refine z_if_ne C (pc := 148) (tgt := 216) dX4_goStage_148 (by decide) (fun c_6 => ?_) (fun c_6 => ?_)
          · refine z_iconst C (pc := 216) (v := 1) dX4_goStage_216 (by decide) ?_
            refine z_zret C (pc := 217) ((upd i' 11 (nI (f' - sumk ets kd x' n))), r) dX4_goStage_217 rfl ?_ rfl
            have hl : (legv kd n st j (x, f, c, d)) = (x', (f' - sumk ets kd x' n), c, 0) := leg_out (z := (x, f, c, d)) hov hnd hjs
            rw [hl]
            refine ⟨by simp [b2], by simp [upd]; exact h12, hsp.up (by omega), SRm.rf, ⟨by simp [upd]; exact hpm.1, by simp [upd]⟩, fun k hk => (hc k hk).1⟩
          · exact absurd c_6 (by decide)
      · have hdie : (x', f').1 = 0 ∨ (x', f').2 < sumk ets kd (x', f').1 n := Or.inr (by
          rw [hpm.2] at c_3
          exact lt_of_nI c_3 (by omega))
        refine z_aload_n C (pc := 104) dX4_goStage_104 rfl ?_
        refine z_iconst C (pc := 105) (v := 0) dX4_goStage_105 (by decide) ?_
        refine z_put C (pc := 106) 0 rfl rfl wf_X4 10 (by decide) rfl tyX4 tyX4_ok nmX4 rfl rfl rfl (Nat.le_of_ble_eq_true rfl) (ws' := (mW cI b (upd i' 10 0) r h)) rfl wl_X4_125 dX4_goStage_106 ?_
        refine z_aload_n C (pc := 109) dX4_goStage_109 rfl ?_
        refine z_iconst C (pc := 110) (v := 0) dX4_goStage_110 (by decide) ?_
        refine z_put C (pc := 111) 0 rfl rfl wf_X4 11 (by decide) rfl tyX4 tyX4_ok nmX4 rfl rfl rfl (Nat.le_of_ble_eq_true rfl) (ws' := (mW cI b (upd (upd i' 10 0) 11 0) r h)) rfl wl_X4_128 dX4_goStage_111 ?_
        refine z_iconst C (pc := 114) (v := 0) dX4_goStage_114 (by decide) ?_
        refine z_zret C (pc := 115) ((upd (upd i' 10 0) 11 0), r) dX4_goStage_115 rfl ?_ rfl
        have hl : (legv kd n st j (x, f, c, d)) = (0, 0, c, j) := leg_die (z := (x, f, c, d)) hov hdie
        rw [hl]
        refine ⟨by simp [b2, show j ≠ 0 by omega], by simp [upd]; exact h12, (hsp.up (by omega)).up (by omega), SRm.rf, ⟨by simp [upd, nI], by simp [upd, nI]⟩, fun k hk => (hc k hk).1⟩
  have key0 : ∀ (fu0 : Nat) (x' f' : Nat) (i' : Nat → Int32), x' < fu0 → (SPm i i') → (i' 12 = i 12) → (PM i' x' f') → (OK kd n x' f') → ((if 3 ≤ j - 1 then pon kd n n (x', f') else (x', f')) = (if 3 ≤ j - 1 then pon kd n n (x, f) else (x, f))) → Z pP l eE (rm 4 86) sS mM aV bB mE cC D AA 6 0 0 (MQ bB (va_Qi (S := ((Nat → Int32) × (Nat → Nat → Int32))) (fun q u => q = b2 (decide ((legv kd n st j (x, f, c, d)).2.2.2 = 0)) ∧ u.1 12 = i 12 ∧ GSm i r u.1 u.2 (legv kd n st j (x, f, c, d))) (fun u t => va_P D vwCl ((fun u => mW cI b u.1 u.2 h) u) t.heap) AA) aV sS 0 0 AA) 0 [(0, .ref (b 0)), (1, .int (nI fr)), (2, .int 1)] [] (mW cI b i' r h) := by
    intro fu0
    induction fu0 with
    | zero => intro x' f' i' hfu0; exact absurd hfu0 (Nat.not_lt_zero _)
    | succ fu0 ih0 =>
      intro x' f' i' hfu0 hsp h12 hpm hok heq
      refine z_iload_n C (pc := 0) dX4_goStage_0 rfl ?_
      refine z_if_eq C (pc := 1) (tgt := 38) dX4_goStage_1 (by decide) (fun c_7 => ?_) (fun c_7 => ?_)
      · exact absurd c_7 (by decide)
      · refine z_iload_n C (pc := 4) dX4_goStage_4 rfl ?_
        refine z_iconst C (pc := 5) (v := 2) dX4_goStage_5 (by decide) ?_
        refine z_icmp_le C (pc := 6) (tgt := 38) dX4_goStage_6 (by decide) (fun c_8 => ?_) (fun c_8 => ?_)
        · have h3 : ¬ 3 ≤ j - 1 := by
            have hz := c_8
            revert hz
            simp only [Int32.le_iff_toInt_le, nI_toInt (n := fr) (by omega), show (2 : Int32).toInt = 2 from rfl]
            omega
          have hov1 : outv kd n st j (x, f) = bea kd n n (x', f') := by
            rw [if_neg h3, if_neg h3] at heq
            rw [out_n (fun e => h3 e.2), heq]
          have key38 : ∀ (fu38 : Nat) (x2 f2 : Nat) (i2 : Nat → Int32), x2 < fu38 → (SPm i i2) → (i2 12 = i 12) → (PM i2 x2 f2) → (OK kd n x2 f2) → (bea kd n n (x2, f2) = outv kd n st j (x, f)) → Z pP l eE (rm 4 86) sS mM aV bB mE cC D AA 6 0 0 (MQ bB (va_Qi (S := ((Nat → Int32) × (Nat → Nat → Int32))) (fun q u => q = b2 (decide ((legv kd n st j (x, f, c, d)).2.2.2 = 0)) ∧ u.1 12 = i 12 ∧ GSm i r u.1 u.2 (legv kd n st j (x, f, c, d))) (fun u t => va_P D vwCl ((fun u => mW cI b u.1 u.2 h) u) t.heap) AA) aV sS 0 0 AA) 38 [(0, .ref (b 0)), (1, .int (nI fr)), (2, .int 1)] [] (mW cI b i2 r h) := by
            intro fu38
            induction fu38 with
            | zero => intro x2 f2 i2 hfu38; exact absurd hfu38 (Nat.not_lt_zero _)
            | succ fu38 ih38 =>
              intro x2 f2 i2 hfu38 hsp2 h122 hpm2 hok2 heq2
              refine z_aload_n C (pc := 38) dX4_goStage_38 rfl ?_
              have hv2 := hv.sp hsp2 SRm.rf
              have hxx2 := hok2.1
              refine z_get C (pc := 39) 0 rfl rfl wf_X4 11 (by decide) rfl wl_X4_128 (v := .int (i2 11)) rfl dX4_goStage_39 ?_
              refine z_aload_n C (pc := 42) dX4_goStage_42 rfl ?_
              refine z_aload_n C (pc := 43) dX4_goStage_43 rfl ?_
              refine z_get C (pc := 44) 0 rfl rfl wf_X4 10 (by decide) rfl wl_X4_125 (v := .int (i2 10)) rfl dX4_goStage_44 ?_
              refine z_seti (y := (nI x2)) (hpm2.1) ?_
              refine z_calliF C (by exact fun _ => mW_ad) (runV C (wc := (mW cI b i2 r h)) (pc := 47) (rY' := rm 1 21) (nn := 1) (As := [.int (nI x2)]) (rest := [.int (i2 11)]) (m_eatOf l D cI tt b i2 r h kd n hv2 x2 (by omega)) (full_hC _) (full_nd _) ⟨rfl, rfl, ⟨Nat.le_of_ble_eq_true rfl, Nat.le_of_ble_eq_true rfl⟩, Nat.le_of_ble_eq_true rfl, Nat.le_of_ble_eq_true rfl⟩ wl_X4_145 wm_X4_eatOf we_X4_eatOf wi_X4 wc_X4_eatOf (by decide +kernel) rfl 0 rfl rfl rfl rfl (Nat.le_of_ble_eq_true rfl) dX4_goStage_47) (fun q_9 u_9 h_9 => ?_)
              subst h_9
              refine z_ws (st' := [.int (nI (sumk ets kd x2 n)), .int (i2 11)]) (ws' := (mW cI b i2 r h)) rfl rfl ?_
              refine z_icmp_ge C (pc := 50) (tgt := 82) dX4_goStage_50 (by decide) (fun c_10 => ?_) (fun c_10 => ?_)
              · have hfl : ¬ (x2, f2).2 < sumk ets kd (x2, f2).1 n := by
                  rw [hpm2.2] at c_10
                  have := ge_of_nI c_10 (by have := et_le (kd := kd) (x := x2) hn6; omega)
                  exact Nat.not_lt.mpr this
                have hov2 : outv kd n st j (x, f) = (x2, f2) := by rw [← heq2, bea_x hfl]
                refine z_lv (lv' := [(0, .ref (b 0)), (1, .int (nI fr)), (2, .int 1)]) ⟨rfl, rfl, rfl, trivial⟩ ?_
                exact join82 x2 f2 i2 hsp2 h122 hpm2 hok2 hov2
              · have hfl : (x2, f2).2 < sumk ets kd (x2, f2).1 n := by
                  rw [hpm2.2] at c_10
                  exact lt_of_nI c_10 (by have := hok2.2; have := pl_le (kd := kd) (x := x2) hn6; omega)
                refine z_aload_n C (pc := 53) dX4_goStage_53 rfl ?_
                refine z_aload_n C (pc := 54) dX4_goStage_54 rfl ?_
                refine z_get C (pc := 55) 0 rfl rfl wf_X4 10 (by decide) rfl wl_X4_125 (v := .int (i2 10)) rfl dX4_goStage_55 ?_
                refine z_seti (y := (nI x2)) (hpm2.1) ?_
                refine z_iconst C (pc := 58) (v := 0) dX4_goStage_58 (by decide) ?_
                refine z_calliF C (by exact fun _ => mW_ad) (runV C (wc := (mW cI b i2 r h)) (pc := 59) (rY' := rm 1 21) (nn := 2) (As := [.int (nI x2), .int 0]) (rest := []) (m_lastB l D cI tt b i2 r h kd n hv2 x2 (by omega)) (full_hC _) (full_nd _) ⟨rfl, rfl, ⟨Nat.le_of_ble_eq_true rfl, Nat.le_of_ble_eq_true rfl⟩, Nat.le_of_ble_eq_true rfl, Nat.le_of_ble_eq_true rfl⟩ wl_X4_137 wm_X4_lastOf we_X4_lastOf wi_X4 wc_X4_lastOf (by decide +kernel) rfl 0 rfl rfl rfl rfl (Nat.le_of_ble_eq_true rfl) dX4_goStage_59) (fun q_11 u_11 h_11 => ?_)
                subst h_11
                refine z_ws (st' := [.int (nI (lsv (fun k => isB (kd k)) x2 n) - 1)]) (ws' := (mW cI b i2 r h)) rfl rfl ?_
                refine z_iconst C (pc := 62) (v := (-1)) dX4_goStage_62 (by decide) ?_
                refine z_icmp_eq C (pc := 63) (tgt := 82) dX4_goStage_63 (by decide) (fun c_12 => ?_) (fun c_12 => ?_)
                · have hl0 := (lsv_pred (P := (fun k => isB (kd k))) hn6).mp c_12
                  have hov2 : outv kd n st j (x, f) = (x2, f2) := by rw [← heq2, bea_end hl0]
                  refine z_lv (lv' := [(0, .ref (b 0)), (1, .int (nI fr)), (2, .int 1)]) ⟨rfl, rfl, rfl, trivial⟩ ?_
                  exact join82 x2 f2 i2 hsp2 h122 hpm2 hok2 hov2
                · obtain ⟨w, hw⟩ := lsv_get (P := (fun k => isB (kd k))) hn6 c_12
                  obtain ⟨hw1, hw2, -⟩ := lsv_some hw
                  refine z_aload_n C (pc := 66) dX4_goStage_66 rfl ?_
                  refine z_aload_n C (pc := 67) dX4_goStage_67 rfl ?_
                  refine z_aload_n C (pc := 68) dX4_goStage_68 rfl ?_
                  refine z_get C (pc := 69) 0 rfl rfl wf_X4 10 (by decide) rfl wl_X4_125 (v := .int (i2 10)) rfl dX4_goStage_69 ?_
                  refine z_seti (y := (nI x2)) (hpm2.1) ?_
                  refine z_iconst C (pc := 72) (v := 0) dX4_goStage_72 (by decide) ?_
                  refine z_calliF C (by exact fun _ => mW_ad) (runV C (wc := (mW cI b i2 r h)) (pc := 73) (rY' := rm 1 21) (nn := 2) (As := [.int (nI x2), .int 0]) (rest := [.ref (b 0)]) (m_lastB l D cI tt b i2 r h kd n hv2 x2 (by omega)) (full_hC _) (full_nd _) ⟨rfl, rfl, ⟨Nat.le_of_ble_eq_true rfl, Nat.le_of_ble_eq_true rfl⟩, Nat.le_of_ble_eq_true rfl, Nat.le_of_ble_eq_true rfl⟩ wl_X4_137 wm_X4_lastOf we_X4_lastOf wi_X4 wc_X4_lastOf (by decide +kernel) rfl 0 rfl rfl rfl rfl (Nat.le_of_ble_eq_true rfl) dX4_goStage_73) (fun q_13 u_13 h_13 => ?_)
                  subst h_13
                  refine z_ws (st' := [.int (nI (lsv (fun k => isB (kd k)) x2 n) - 1), .ref (b 0)]) (ws' := (mW cI b i2 r h)) rfl rfl ?_
                  refine z_seti (y := (nI w)) (by rw [hw]; exact nI_pred w) ?_
                  refine z_callvF C (by exact fun _ => mW_ad) (runV C (wc := (mW cI b i2 r h)) (pc := 76) (rY' := rm 3 65) (nn := 1) (As := [.int (nI w)]) (rest := []) (m_eatBeast l D cI tt b i2 r h kd n hv2 x2 f2 hok2 hpm2 w hw2 hw1.2) (full_hC _) (full_nd _) ⟨rfl, rfl, ⟨Nat.le_of_ble_eq_true rfl, Nat.le_of_ble_eq_true rfl⟩, Nat.le_of_ble_eq_true rfl, Nat.le_of_ble_eq_true rfl⟩ wl_X4_141 wm_X4_eatBeast we_X4_eatBeast wi_X4 wc_X4_eatBeast (by decide +kernel) rfl 0 rfl rfl rfl rfl (Nat.le_of_ble_eq_true rfl) dX4_goStage_76) (fun u_14 h_14 => ?_)
                  generalize u_14 = i14 at h_14 ⊢
                  obtain ⟨k1, k2, k3⟩ := h_14
                  refine z_ws (st' := []) (ws' := (mW cI b i14 r h)) rfl rfl ?_
                  refine z_goto C (pc := 79) (tgt := 38) dX4_goStage_79 (by decide) ?_
                  have hdl := dev_lt (kd := kd) (n := n) (s := (x2, f2)) (k := w) (by show x2 < 64; omega) (by omega) hw1.2
                  exact ih38 ((dev kd n w (x2, f2)).1) ((dev kd n w (x2, f2)).2) i14 (by omega) (hsp2.tr k1) (k2.trans h122) k3 (dev_ok hn6 hw2 hok2) (by rw [← heq2]; exact (bea_last hn6 (by show x2 < 64; omega) hfl hw).symm)
          exact key38 (_ + 1) x' f' i' (Nat.lt_succ_self _) hsp h12 hpm hok hov1.symm
        · have h3 : 3 ≤ j - 1 := by
            have hz := c_8
            revert hz
            simp only [Int32.le_iff_toInt_le, nI_toInt (n := fr) (by omega), show (2 : Int32).toInt = 2 from rfl]
            omega
          have hv' := hv.sp hsp SRm.rf
          have hxx := hok.1
          refine z_aload_n C (pc := 9) dX4_goStage_9 rfl ?_
          refine z_aload_n C (pc := 10) dX4_goStage_10 rfl ?_
          refine z_get C (pc := 11) 0 rfl rfl wf_X4 10 (by decide) rfl wl_X4_125 (v := .int (i' 10)) rfl dX4_goStage_11 ?_
          refine z_seti (y := (nI x')) (hpm.1) ?_
          refine z_iconst C (pc := 14) (v := 1) dX4_goStage_14 (by decide) ?_
          refine z_calliF C (by exact fun _ => mW_ad) (runV C (wc := (mW cI b i' r h)) (pc := 15) (rY' := rm 1 21) (nn := 2) (As := [.int (nI x'), .int 1]) (rest := []) (m_lastP l D cI tt b i' r h kd n hv' x' (by omega)) (full_hC _) (full_nd _) ⟨rfl, rfl, ⟨Nat.le_of_ble_eq_true rfl, Nat.le_of_ble_eq_true rfl⟩, Nat.le_of_ble_eq_true rfl, Nat.le_of_ble_eq_true rfl⟩ wl_X4_137 wm_X4_lastOf we_X4_lastOf wi_X4 wc_X4_lastOf (by decide +kernel) rfl 0 rfl rfl rfl rfl (Nat.le_of_ble_eq_true rfl) dX4_goStage_15) (fun q_15 u_15 h_15 => ?_)
          subst h_15
          refine z_ws (st' := [.int (nI (lsv (fun k => decide (kd k = 1)) x' n) - 1)]) (ws' := (mW cI b i' r h)) rfl rfl ?_
          refine z_iconst C (pc := 18) (v := (-1)) dX4_goStage_18 (by decide) ?_
          refine z_icmp_eq C (pc := 19) (tgt := 38) dX4_goStage_19 (by decide) (fun c_16 => ?_) (fun c_16 => ?_)
          · have hl0 := (lsv_pred (P := (fun k => decide (kd k = 1))) hn6).mp c_16
            have hov1 : outv kd n st j (x, f) = bea kd n n (x', f') := by
              rw [if_pos h3, if_pos h3] at heq
              rw [out_p hjs h3, ← heq, pon_end hl0]
            have key38 : ∀ (fu38 : Nat) (x2 f2 : Nat) (i2 : Nat → Int32), x2 < fu38 → (SPm i i2) → (i2 12 = i 12) → (PM i2 x2 f2) → (OK kd n x2 f2) → (bea kd n n (x2, f2) = outv kd n st j (x, f)) → Z pP l eE (rm 4 86) sS mM aV bB mE cC D AA 6 0 0 (MQ bB (va_Qi (S := ((Nat → Int32) × (Nat → Nat → Int32))) (fun q u => q = b2 (decide ((legv kd n st j (x, f, c, d)).2.2.2 = 0)) ∧ u.1 12 = i 12 ∧ GSm i r u.1 u.2 (legv kd n st j (x, f, c, d))) (fun u t => va_P D vwCl ((fun u => mW cI b u.1 u.2 h) u) t.heap) AA) aV sS 0 0 AA) 38 [(0, .ref (b 0)), (1, .int (nI fr)), (2, .int 1)] [] (mW cI b i2 r h) := by
              intro fu38
              induction fu38 with
              | zero => intro x2 f2 i2 hfu38; exact absurd hfu38 (Nat.not_lt_zero _)
              | succ fu38 ih38 =>
                intro x2 f2 i2 hfu38 hsp2 h122 hpm2 hok2 heq2
                refine z_aload_n C (pc := 38) dX4_goStage_38 rfl ?_
                have hv2 := hv.sp hsp2 SRm.rf
                have hxx2 := hok2.1
                refine z_get C (pc := 39) 0 rfl rfl wf_X4 11 (by decide) rfl wl_X4_128 (v := .int (i2 11)) rfl dX4_goStage_39 ?_
                refine z_aload_n C (pc := 42) dX4_goStage_42 rfl ?_
                refine z_aload_n C (pc := 43) dX4_goStage_43 rfl ?_
                refine z_get C (pc := 44) 0 rfl rfl wf_X4 10 (by decide) rfl wl_X4_125 (v := .int (i2 10)) rfl dX4_goStage_44 ?_
                refine z_seti (y := (nI x2)) (hpm2.1) ?_
                refine z_calliF C (by exact fun _ => mW_ad) (runV C (wc := (mW cI b i2 r h)) (pc := 47) (rY' := rm 1 21) (nn := 1) (As := [.int (nI x2)]) (rest := [.int (i2 11)]) (m_eatOf l D cI tt b i2 r h kd n hv2 x2 (by omega)) (full_hC _) (full_nd _) ⟨rfl, rfl, ⟨Nat.le_of_ble_eq_true rfl, Nat.le_of_ble_eq_true rfl⟩, Nat.le_of_ble_eq_true rfl, Nat.le_of_ble_eq_true rfl⟩ wl_X4_145 wm_X4_eatOf we_X4_eatOf wi_X4 wc_X4_eatOf (by decide +kernel) rfl 0 rfl rfl rfl rfl (Nat.le_of_ble_eq_true rfl) dX4_goStage_47) (fun q_17 u_17 h_17 => ?_)
                subst h_17
                refine z_ws (st' := [.int (nI (sumk ets kd x2 n)), .int (i2 11)]) (ws' := (mW cI b i2 r h)) rfl rfl ?_
                refine z_icmp_ge C (pc := 50) (tgt := 82) dX4_goStage_50 (by decide) (fun c_18 => ?_) (fun c_18 => ?_)
                · have hfl : ¬ (x2, f2).2 < sumk ets kd (x2, f2).1 n := by
                    rw [hpm2.2] at c_18
                    have := ge_of_nI c_18 (by have := et_le (kd := kd) (x := x2) hn6; omega)
                    exact Nat.not_lt.mpr this
                  have hov2 : outv kd n st j (x, f) = (x2, f2) := by rw [← heq2, bea_x hfl]
                  refine z_lv (lv' := [(0, .ref (b 0)), (1, .int (nI fr)), (2, .int 1)]) ⟨rfl, rfl, rfl, trivial⟩ ?_
                  exact join82 x2 f2 i2 hsp2 h122 hpm2 hok2 hov2
                · have hfl : (x2, f2).2 < sumk ets kd (x2, f2).1 n := by
                    rw [hpm2.2] at c_18
                    exact lt_of_nI c_18 (by have := hok2.2; have := pl_le (kd := kd) (x := x2) hn6; omega)
                  refine z_aload_n C (pc := 53) dX4_goStage_53 rfl ?_
                  refine z_aload_n C (pc := 54) dX4_goStage_54 rfl ?_
                  refine z_get C (pc := 55) 0 rfl rfl wf_X4 10 (by decide) rfl wl_X4_125 (v := .int (i2 10)) rfl dX4_goStage_55 ?_
                  refine z_seti (y := (nI x2)) (hpm2.1) ?_
                  refine z_iconst C (pc := 58) (v := 0) dX4_goStage_58 (by decide) ?_
                  refine z_calliF C (by exact fun _ => mW_ad) (runV C (wc := (mW cI b i2 r h)) (pc := 59) (rY' := rm 1 21) (nn := 2) (As := [.int (nI x2), .int 0]) (rest := []) (m_lastB l D cI tt b i2 r h kd n hv2 x2 (by omega)) (full_hC _) (full_nd _) ⟨rfl, rfl, ⟨Nat.le_of_ble_eq_true rfl, Nat.le_of_ble_eq_true rfl⟩, Nat.le_of_ble_eq_true rfl, Nat.le_of_ble_eq_true rfl⟩ wl_X4_137 wm_X4_lastOf we_X4_lastOf wi_X4 wc_X4_lastOf (by decide +kernel) rfl 0 rfl rfl rfl rfl (Nat.le_of_ble_eq_true rfl) dX4_goStage_59) (fun q_19 u_19 h_19 => ?_)
                  subst h_19
                  refine z_ws (st' := [.int (nI (lsv (fun k => isB (kd k)) x2 n) - 1)]) (ws' := (mW cI b i2 r h)) rfl rfl ?_
                  refine z_iconst C (pc := 62) (v := (-1)) dX4_goStage_62 (by decide) ?_
                  refine z_icmp_eq C (pc := 63) (tgt := 82) dX4_goStage_63 (by decide) (fun c_20 => ?_) (fun c_20 => ?_)
                  · have hl0 := (lsv_pred (P := (fun k => isB (kd k))) hn6).mp c_20
                    have hov2 : outv kd n st j (x, f) = (x2, f2) := by rw [← heq2, bea_end hl0]
                    refine z_lv (lv' := [(0, .ref (b 0)), (1, .int (nI fr)), (2, .int 1)]) ⟨rfl, rfl, rfl, trivial⟩ ?_
                    exact join82 x2 f2 i2 hsp2 h122 hpm2 hok2 hov2
                  · obtain ⟨w, hw⟩ := lsv_get (P := (fun k => isB (kd k))) hn6 c_20
                    obtain ⟨hw1, hw2, -⟩ := lsv_some hw
                    refine z_aload_n C (pc := 66) dX4_goStage_66 rfl ?_
                    refine z_aload_n C (pc := 67) dX4_goStage_67 rfl ?_
                    refine z_aload_n C (pc := 68) dX4_goStage_68 rfl ?_
                    refine z_get C (pc := 69) 0 rfl rfl wf_X4 10 (by decide) rfl wl_X4_125 (v := .int (i2 10)) rfl dX4_goStage_69 ?_
                    refine z_seti (y := (nI x2)) (hpm2.1) ?_
                    refine z_iconst C (pc := 72) (v := 0) dX4_goStage_72 (by decide) ?_
                    refine z_calliF C (by exact fun _ => mW_ad) (runV C (wc := (mW cI b i2 r h)) (pc := 73) (rY' := rm 1 21) (nn := 2) (As := [.int (nI x2), .int 0]) (rest := [.ref (b 0)]) (m_lastB l D cI tt b i2 r h kd n hv2 x2 (by omega)) (full_hC _) (full_nd _) ⟨rfl, rfl, ⟨Nat.le_of_ble_eq_true rfl, Nat.le_of_ble_eq_true rfl⟩, Nat.le_of_ble_eq_true rfl, Nat.le_of_ble_eq_true rfl⟩ wl_X4_137 wm_X4_lastOf we_X4_lastOf wi_X4 wc_X4_lastOf (by decide +kernel) rfl 0 rfl rfl rfl rfl (Nat.le_of_ble_eq_true rfl) dX4_goStage_73) (fun q_21 u_21 h_21 => ?_)
                    subst h_21
                    refine z_ws (st' := [.int (nI (lsv (fun k => isB (kd k)) x2 n) - 1), .ref (b 0)]) (ws' := (mW cI b i2 r h)) rfl rfl ?_
                    refine z_seti (y := (nI w)) (by rw [hw]; exact nI_pred w) ?_
                    refine z_callvF C (by exact fun _ => mW_ad) (runV C (wc := (mW cI b i2 r h)) (pc := 76) (rY' := rm 3 65) (nn := 1) (As := [.int (nI w)]) (rest := []) (m_eatBeast l D cI tt b i2 r h kd n hv2 x2 f2 hok2 hpm2 w hw2 hw1.2) (full_hC _) (full_nd _) ⟨rfl, rfl, ⟨Nat.le_of_ble_eq_true rfl, Nat.le_of_ble_eq_true rfl⟩, Nat.le_of_ble_eq_true rfl, Nat.le_of_ble_eq_true rfl⟩ wl_X4_141 wm_X4_eatBeast we_X4_eatBeast wi_X4 wc_X4_eatBeast (by decide +kernel) rfl 0 rfl rfl rfl rfl (Nat.le_of_ble_eq_true rfl) dX4_goStage_76) (fun u_22 h_22 => ?_)
                    generalize u_22 = i22 at h_22 ⊢
                    obtain ⟨k1, k2, k3⟩ := h_22
                    refine z_ws (st' := []) (ws' := (mW cI b i22 r h)) rfl rfl ?_
                    refine z_goto C (pc := 79) (tgt := 38) dX4_goStage_79 (by decide) ?_
                    have hdl := dev_lt (kd := kd) (n := n) (s := (x2, f2)) (k := w) (by show x2 < 64; omega) (by omega) hw1.2
                    exact ih38 ((dev kd n w (x2, f2)).1) ((dev kd n w (x2, f2)).2) i22 (by omega) (hsp2.tr k1) (k2.trans h122) k3 (dev_ok hn6 hw2 hok2) (by rw [← heq2]; exact (bea_last hn6 (by show x2 < 64; omega) hfl hw).symm)
            exact key38 (_ + 1) x' f' i' (Nat.lt_succ_self _) hsp h12 hpm hok hov1.symm
          · obtain ⟨w, hw⟩ := lsv_get (P := (fun k => decide (kd k = 1))) hn6 c_16
            obtain ⟨hw1, hw2, -⟩ := lsv_some hw
            refine z_aload_n C (pc := 22) dX4_goStage_22 rfl ?_
            refine z_aload_n C (pc := 23) dX4_goStage_23 rfl ?_
            refine z_aload_n C (pc := 24) dX4_goStage_24 rfl ?_
            refine z_get C (pc := 25) 0 rfl rfl wf_X4 10 (by decide) rfl wl_X4_125 (v := .int (i' 10)) rfl dX4_goStage_25 ?_
            refine z_seti (y := (nI x')) (hpm.1) ?_
            refine z_iconst C (pc := 28) (v := 1) dX4_goStage_28 (by decide) ?_
            refine z_calliF C (by exact fun _ => mW_ad) (runV C (wc := (mW cI b i' r h)) (pc := 29) (rY' := rm 1 21) (nn := 2) (As := [.int (nI x'), .int 1]) (rest := [.ref (b 0)]) (m_lastP l D cI tt b i' r h kd n hv' x' (by omega)) (full_hC _) (full_nd _) ⟨rfl, rfl, ⟨Nat.le_of_ble_eq_true rfl, Nat.le_of_ble_eq_true rfl⟩, Nat.le_of_ble_eq_true rfl, Nat.le_of_ble_eq_true rfl⟩ wl_X4_137 wm_X4_lastOf we_X4_lastOf wi_X4 wc_X4_lastOf (by decide +kernel) rfl 0 rfl rfl rfl rfl (Nat.le_of_ble_eq_true rfl) dX4_goStage_29) (fun q_23 u_23 h_23 => ?_)
            subst h_23
            refine z_ws (st' := [.int (nI (lsv (fun k => decide (kd k = 1)) x' n) - 1), .ref (b 0)]) (ws' := (mW cI b i' r h)) rfl rfl ?_
            refine z_seti (y := (nI w)) (by rw [hw]; exact nI_pred w) ?_
            refine z_callvF C (by exact fun _ => mW_ad) (runV C (wc := (mW cI b i' r h)) (pc := 32) (rY' := rm 3 65) (nn := 1) (As := [.int (nI w)]) (rest := []) (m_eatBeast l D cI tt b i' r h kd n hv' x' f' hok hpm w hw2 hw1.2) (full_hC _) (full_nd _) ⟨rfl, rfl, ⟨Nat.le_of_ble_eq_true rfl, Nat.le_of_ble_eq_true rfl⟩, Nat.le_of_ble_eq_true rfl, Nat.le_of_ble_eq_true rfl⟩ wl_X4_141 wm_X4_eatBeast we_X4_eatBeast wi_X4 wc_X4_eatBeast (by decide +kernel) rfl 0 rfl rfl rfl rfl (Nat.le_of_ble_eq_true rfl) dX4_goStage_32) (fun u_24 h_24 => ?_)
            generalize u_24 = i24 at h_24 ⊢
            obtain ⟨k1, k2, k3⟩ := h_24
            refine z_ws (st' := []) (ws' := (mW cI b i24 r h)) rfl rfl ?_
            refine z_goto C (pc := 35) (tgt := 0) dX4_goStage_35 (by decide) ?_
            have hdl := dev_lt (kd := kd) (n := n) (s := (x', f')) (k := w) (by show x' < 64; omega) (by omega) hw1.2
            exact ih0 ((dev kd n w (x', f')).1) ((dev kd n w (x', f')).2) i24 (by omega) (hsp.tr k1) (k2.trans h12) k3 (dev_ok hn6 hw2 hok) (by rw [if_pos h3, if_pos h3] at heq ⊢; rw [← heq]; exact (pon_last hn6 (by show x' < 64; omega) hw).symm)
  exact key0 (_ + 1) x f i (Nat.lt_succ_self _) SPm.rf rfl hp ho rfl

set_option maxHeartbeats 4000000 in
set_option maxRecDepth 100000 in
theorem m_goHome (l : Launch) (D : va_G) (cI : ClassId) (tt : Nat × Nat × Nat) (b : Nat → Nat) (i : Nat → Int32) (r : Nat → Nat → Int32) (h : Int64) (kd : Nat → Nat) (n : Nat) (hv : PVm i r kd n) (x f : Nat) (ho : OK kd n x f) (hp : PM i x f) (c : Nat → Nat) (hc : ∀ k, k < 5 → r 3 (k + 1) = nI (c k) ∧ c k ≤ 9) (d st j fr : Nat) (hj1 : 1 ≤ j) (hj2 : j ≤ 2 * st) (hst : st ≤ 6) (hjs : ¬ j ≤ st) (hfr : fr = 2 * st - j + 1) : MetI (S := ((Nat → Int32) × (Nat → Nat → Int32))) l yX4_goStage cX4_goStage 6 (some .boolean) (rm 4 86) D cI tt [.ref (b 0), .int (nI fr), .int 0] (mW cI b i r h) (fun q u => q = b2 (decide ((legv kd n st j (x, f, c, d)).2.2.2 = 0)) ∧ u.1 12 = i 12 ∧ GSm i r u.1 u.2 (legv kd n st j (x, f, c, d))) (fun u => mW cI b u.1 u.2 h) := by
  have hn6 := hv.2.1
  have hx6 := pow_le6 hn6
  refine met_ofI (by decide) (Nat.le_of_ble_eq_true rfl) ?_
  intro pP eE sS mM aV bB mE cC AA C hin
  refine z_conv (lv' := [(0, .ref (b 0)), (1, .int (nI fr)), (2, .int 0)]) ⟨rfl, rfl, rfl, trivial⟩ rfl rfl ?_
  have join82 : ∀ (x' f' : Nat) (i' : Nat → Int32), (SPm i i') → (i' 12 = i 12) → (PM i' x' f') → (OK kd n x' f') → (outv kd n st j (x, f) = (x', f')) → Z pP l eE (rm 4 86) sS mM aV bB mE cC D AA 6 0 0 (MQ bB (va_Qi (S := ((Nat → Int32) × (Nat → Nat → Int32))) (fun q u => q = b2 (decide ((legv kd n st j (x, f, c, d)).2.2.2 = 0)) ∧ u.1 12 = i 12 ∧ GSm i r u.1 u.2 (legv kd n st j (x, f, c, d))) (fun u t => va_P D vwCl ((fun u => mW cI b u.1 u.2 h) u) t.heap) AA) aV sS 0 0 AA) 82 [(0, .ref (b 0)), (1, .int (nI fr)), (2, .int 0)] [] (mW cI b i' r h) := by
    intro x' f' i' hsp h12 hpm hok hov
    have hv' := hv.sp hsp SRm.rf
    have hxx := hok.1
    have hff := hok.2
    have hpl := pl_le (kd := kd) (x := x') hn6
    refine z_aload_n C (pc := 82) dX4_goStage_82 rfl ?_
    refine z_get C (pc := 83) 0 rfl rfl wf_X4 10 (by decide) rfl wl_X4_125 (v := .int (i' 10)) rfl dX4_goStage_83 ?_
    refine z_if_eq C (pc := 86) (tgt := 104) dX4_goStage_86 (by decide) (fun c_1 => ?_) (fun c_1 => ?_)
    · have hdie : (x', f').1 = 0 ∨ (x', f').2 < sumk ets kd (x', f').1 n := Or.inl (by
        rw [hpm.1] at c_1
        exact (nI_eq (b := 0) (by omega) (by omega)).mp c_1)
      refine z_aload_n C (pc := 104) dX4_goStage_104 rfl ?_
      refine z_iconst C (pc := 105) (v := 0) dX4_goStage_105 (by decide) ?_
      refine z_put C (pc := 106) 0 rfl rfl wf_X4 10 (by decide) rfl tyX4 tyX4_ok nmX4 rfl rfl rfl (Nat.le_of_ble_eq_true rfl) (ws' := (mW cI b (upd i' 10 0) r h)) rfl wl_X4_125 dX4_goStage_106 ?_
      refine z_aload_n C (pc := 109) dX4_goStage_109 rfl ?_
      refine z_iconst C (pc := 110) (v := 0) dX4_goStage_110 (by decide) ?_
      refine z_put C (pc := 111) 0 rfl rfl wf_X4 11 (by decide) rfl tyX4 tyX4_ok nmX4 rfl rfl rfl (Nat.le_of_ble_eq_true rfl) (ws' := (mW cI b (upd (upd i' 10 0) 11 0) r h)) rfl wl_X4_128 dX4_goStage_111 ?_
      refine z_iconst C (pc := 114) (v := 0) dX4_goStage_114 (by decide) ?_
      refine z_zret C (pc := 115) ((upd (upd i' 10 0) 11 0), r) dX4_goStage_115 rfl ?_ rfl
      have hl : (legv kd n st j (x, f, c, d)) = (0, 0, c, j) := leg_die (z := (x, f, c, d)) hov hdie
      rw [hl]
      refine ⟨by simp [b2, show j ≠ 0 by omega], by simp [upd]; exact h12, (hsp.up (by omega)).up (by omega), SRm.rf, ⟨by simp [upd, nI], by simp [upd, nI]⟩, fun k hk => (hc k hk).1⟩
    · have hal : x' ≠ 0 := fun e => c_1 (by rw [hpm.1, e]; rfl)
      refine z_aload_n C (pc := 89) dX4_goStage_89 rfl ?_
      refine z_get C (pc := 90) 0 rfl rfl wf_X4 11 (by decide) rfl wl_X4_128 (v := .int (i' 11)) rfl dX4_goStage_90 ?_
      refine z_aload_n C (pc := 93) dX4_goStage_93 rfl ?_
      refine z_aload_n C (pc := 94) dX4_goStage_94 rfl ?_
      refine z_get C (pc := 95) 0 rfl rfl wf_X4 10 (by decide) rfl wl_X4_125 (v := .int (i' 10)) rfl dX4_goStage_95 ?_
      refine z_seti (y := (nI x')) (hpm.1) ?_
      refine z_calliF C (by exact fun _ => mW_ad) (runV C (wc := (mW cI b i' r h)) (pc := 98) (rY' := rm 1 21) (nn := 1) (As := [.int (nI x')]) (rest := [.int (i' 11)]) (m_eatOf l D cI tt b i' r h kd n hv' x' (by omega)) (full_hC _) (full_nd _) ⟨rfl, rfl, ⟨Nat.le_of_ble_eq_true rfl, Nat.le_of_ble_eq_true rfl⟩, Nat.le_of_ble_eq_true rfl, Nat.le_of_ble_eq_true rfl⟩ wl_X4_145 wm_X4_eatOf we_X4_eatOf wi_X4 wc_X4_eatOf (by decide +kernel) rfl 0 rfl rfl rfl rfl (Nat.le_of_ble_eq_true rfl) dX4_goStage_98) (fun q_2 u_2 h_2 => ?_)
      subst h_2
      refine z_ws (st' := [.int (nI (sumk ets kd x' n)), .int (i' 11)]) (ws' := (mW cI b i' r h)) rfl rfl ?_
      refine z_icmp_ge C (pc := 101) (tgt := 116) dX4_goStage_101 (by decide) (fun c_3 => ?_) (fun c_3 => ?_)
      · have hge : sumk ets kd x' n ≤ f' := by
          rw [hpm.2] at c_3
          exact ge_of_nI c_3 (by have := et_le (kd := kd) (x := x') hn6; omega)
        have hnd : ¬ ((x', f').1 = 0 ∨ (x', f').2 < sumk ets kd (x', f').1 n) := by
          show ¬ (x' = 0 ∨ f' < sumk ets kd x' n)
          omega
        refine z_aload_n C (pc := 116) dX4_goStage_116 rfl ?_
        refine z_dup C (pc := 117) dX4_goStage_117 rfl ?_
        refine z_get C (pc := 118) 0 rfl rfl wf_X4 11 (by decide) rfl wl_X4_128 (v := .int (i' 11)) rfl dX4_goStage_118 ?_
        refine z_aload_n C (pc := 121) dX4_goStage_121 rfl ?_
        refine z_aload_n C (pc := 122) dX4_goStage_122 rfl ?_
        refine z_get C (pc := 123) 0 rfl rfl wf_X4 10 (by decide) rfl wl_X4_125 (v := .int (i' 10)) rfl dX4_goStage_123 ?_
        refine z_seti (y := (nI x')) (hpm.1) ?_
        refine z_calliF C (by exact fun _ => mW_ad) (runV C (wc := (mW cI b i' r h)) (pc := 126) (rY' := rm 1 21) (nn := 1) (As := [.int (nI x')]) (rest := [.int (i' 11), .ref (b 0)]) (m_eatOf l D cI tt b i' r h kd n hv' x' (by omega)) (full_hC _) (full_nd _) ⟨rfl, rfl, ⟨Nat.le_of_ble_eq_true rfl, Nat.le_of_ble_eq_true rfl⟩, Nat.le_of_ble_eq_true rfl, Nat.le_of_ble_eq_true rfl⟩ wl_X4_145 wm_X4_eatOf we_X4_eatOf wi_X4 wc_X4_eatOf (by decide +kernel) rfl 0 rfl rfl rfl rfl (Nat.le_of_ble_eq_true rfl) dX4_goStage_126) (fun q_4 u_4 h_4 => ?_)
        subst h_4
        refine z_ws (st' := [.int (nI (sumk ets kd x' n)), .int (i' 11), .ref (b 0)]) (ws' := (mW cI b i' r h)) rfl rfl ?_
        refine z_isub C (pc := 129) dX4_goStage_129 ?_
        refine z_seti (y := (nI (f' - sumk ets kd x' n))) (by rw [hpm.2]; exact pk_sub hge) ?_
        refine z_put C (pc := 130) 0 rfl rfl wf_X4 11 (by decide) rfl tyX4 tyX4_ok nmX4 rfl rfl rfl (Nat.le_of_ble_eq_true rfl) (ws' := (mW cI b (upd i' 11 (nI (f' - sumk ets kd x' n))) r h)) rfl wl_X4_128 dX4_goStage_130 ?_
        refine z_iload_n C (pc := 133) dX4_goStage_133 rfl ?_
        refine z_if_eq C (pc := 134) (tgt := 143) dX4_goStage_134 (by decide) (fun c_5 => ?_) (fun c_5 => ?_)
        · refine z_iload_n C (pc := 143) dX4_goStage_143 rfl ?_
          refine z_iconst C (pc := 144) (v := 1) dX4_goStage_144 (by decide) ?_
          refine z_isub C (pc := 145) dX4_goStage_145 ?_
          refine z_seti (y := (nI (2 * st - j))) (by rw [hfr]; exact nI_pred _) ?_
          refine z_istore_n C (pc := 146) (lv' := [(0, .ref (b 0)), (1, .int (nI fr)), (2, .int 0), (3, .int (nI (2 * st - j)))]) dX4_goStage_146 (Nat.le_of_ble_eq_true rfl) rfl rfl ?_
          refine z_iload_n C (pc := 147) dX4_goStage_147 rfl ?_
          refine z_if_ne C (pc := 148) (tgt := 216) dX4_goStage_148 (by decide) (fun c_6 => ?_) (fun c_6 => ?_)
          · exact absurd c_6 (by decide)
          · refine z_iload_n C (pc := 151) dX4_goStage_151 rfl ?_
            refine z_if_le C (pc := 152) (tgt := 216) dX4_goStage_152 (by decide) (fun c_7 => ?_) (fun c_7 => ?_)
            · have hq : 2 * st - j = 0 := by
                have := c_7
                rcases Nat.eq_zero_or_pos (2 * st - j) with e | e
                · exact e
                · exact absurd this (nI_ge (a := 0) (b := 2 * st - j) e (by omega))
              refine z_iconst C (pc := 216) (v := 1) dX4_goStage_216 (by decide) ?_
              refine z_zret C (pc := 217) ((upd i' 11 (nI (f' - sumk ets kd x' n))), r) dX4_goStage_217 rfl ?_ rfl
              have hl : (legv kd n st j (x, f, c, d)) = (x', (takev kd n (2 * st - j) (x', (f' - sumk ets kd x' n)) c).1, (takev kd n (2 * st - j) (x', (f' - sumk ets kd x' n)) c).2, 0) := leg_home (z := (x, f, c, d)) hov hnd hjs
              rw [hl]
              have htk : takev kd n (2 * st - j) (x', (f' - sumk ets kd x' n)) c = ((f' - sumk ets kd x' n), c) := if_pos hq
              rw [htk]
              refine ⟨by simp [b2], by simp [upd]; exact h12, hsp.up (by omega), SRm.rf, ⟨by simp [upd]; exact hpm.1, by simp [upd]⟩, fun k hk => (hc k hk).1⟩
            · obtain ⟨t, ht⟩ : ∃ t, 2 * st - j = t + 1 := ⟨2 * st - j - 1, by
                have h0 : 2 * st - j ≠ 0 := fun e => c_7 (by rw [e]; decide)
                omega⟩
              refine z_lv (lv' := [(0, .ref (b 0)), (1, .int (nI fr)), (2, .int 0), (3, .int (nI (t + 1)))]) ⟨rfl, rfl, rfl, lki (by rw [ht]), trivial⟩ ?_
              have htc := hc t (by omega)
              refine z_aload_n C (pc := 155) dX4_goStage_155 rfl ?_
              refine z_aload_n C (pc := 156) dX4_goStage_156 rfl ?_
              refine z_get C (pc := 157) 0 rfl rfl wf_X4 10 (by decide) rfl wl_X4_125 (v := .int (i' 10)) rfl dX4_goStage_157 ?_
              refine z_seti (y := (nI x')) (by first | exact hpm.1 | (simp [upd]; exact hpm.1)) ?_
              refine z_calliF C (by exact fun _ => mW_ad) (runV C (wc := (mW cI b (upd i' 11 (nI (f' - sumk ets kd x' n))) r h)) (pc := 160) (rY' := rm 1 21) (nn := 1) (As := [.int (nI x')]) (rest := []) (m_pullOf l D cI tt b (upd i' 11 (nI (f' - sumk ets kd x' n))) r h kd n (hv'.sp (SPm.rf.up (by omega)) SRm.rf) x' (by omega)) (full_hC _) (full_nd _) ⟨rfl, rfl, ⟨Nat.le_of_ble_eq_true rfl, Nat.le_of_ble_eq_true rfl⟩, Nat.le_of_ble_eq_true rfl, Nat.le_of_ble_eq_true rfl⟩ wl_X4_134 wm_X4_pullOf we_X4_pullOf wi_X4 wc_X4_pullOf (by decide +kernel) rfl 0 rfl rfl rfl rfl (Nat.le_of_ble_eq_true rfl) dX4_goStage_160) (fun q_8 u_8 h_8 => ?_)
              subst h_8
              refine z_ws (st' := [.int (nI (sumk pls kd x' n))]) (ws' := (mW cI b (upd i' 11 (nI (f' - sumk ets kd x' n))) r h)) rfl rfl ?_
              refine z_aload_n C (pc := 163) dX4_goStage_163 rfl ?_
              refine z_get C (pc := 164) 0 rfl rfl wf_X4 11 (by decide) rfl wl_X4_128 (v := .int (nI (f' - sumk ets kd x' n))) rfl dX4_goStage_164 ?_
              refine z_isub C (pc := 167) dX4_goStage_167 ?_
              refine z_seti (y := (nI (sumk pls kd x' n - (f' - sumk ets kd x' n)))) (pk_sub (by omega)) ?_
              refine z_istore C (pc := 168) (lv' := [(0, .ref (b 0)), (1, .int (nI fr)), (2, .int 0), (3, .int (nI (t + 1))), (4, .int (nI (sumk pls kd x' n - (f' - sumk ets kd x' n))))]) dX4_goStage_168 (Nat.le_of_ble_eq_true rfl) rfl rfl ?_
              refine z_aload_n C (pc := 170) dX4_goStage_170 rfl ?_
              refine z_get C (pc := 171) 0 rfl rfl wf_X4 13 (by decide) rfl wl_X4_19 (v := .ref (b 4)) rfl dX4_goStage_171 ?_
              refine z_iload_n C (pc := 174) dX4_goStage_174 rfl ?_
              have h_9 : vp_in (nI (t + 1)) 7 := by exact vp_in_nI (by omega) (by decide)
              refine z_iald C (pc := 175) 4 rfl h_9 dX4_goStage_175 ?_
              refine z_seti (y := nI (c t)) (by rw [nI_clamp (by omega)]; exact htc.1) ?_
              refine z_iload C (pc := 176) dX4_goStage_176 rfl ?_
              refine z_icmp_ge C (pc := 178) (tgt := 190) dX4_goStage_178 (by decide) (fun c_10 => ?_) (fun c_10 => ?_)
              · refine z_iload C (pc := 190) dX4_goStage_190 rfl ?_
                refine z_istore C (pc := 192) (lv' := [(0, .ref (b 0)), (1, .int (nI fr)), (2, .int 0), (3, .int (nI (t + 1))), (4, .int (nI (sumk pls kd x' n - (f' - sumk ets kd x' n)))), (5, .int (nI (sumk pls kd x' n - (f' - sumk ets kd x' n))))]) dX4_goStage_192 (Nat.le_of_ble_eq_true rfl) rfl rfl ?_
                refine z_lv (lv' := [(0, .ref (b 0)), (1, .int (nI fr)), (2, .int 0), (3, .int (nI (t + 1))), (5, .int (nI (min (c t) (sumk pls kd x' n - (f' - sumk ets kd x' n)))))]) ⟨rfl, rfl, rfl, rfl, lki (by rw [Nat.min_eq_right (ge_of_nI c_10 (by omega))]), trivial⟩ ?_
                refine z_aload_n C (pc := 194) dX4_goStage_194 rfl ?_
                refine z_get C (pc := 195) 0 rfl rfl wf_X4 13 (by decide) rfl wl_X4_19 (v := .ref (b 4)) rfl dX4_goStage_195 ?_
                refine z_iload_n C (pc := 198) dX4_goStage_198 rfl ?_
                refine z_dup2 C (pc := 199) dX4_goStage_199 rfl rfl ?_
                have h_11 : vp_in (nI (t + 1)) 7 := by exact vp_in_nI (by omega) (by decide)
                refine z_iald C (pc := 200) 4 rfl h_11 dX4_goStage_200 ?_
                refine z_seti (y := nI (c t)) (by rw [nI_clamp (by omega)]; exact htc.1) ?_
                refine z_iload C (pc := 201) dX4_goStage_201 rfl ?_
                refine z_isub C (pc := 203) dX4_goStage_203 ?_
                refine z_seti (y := (nI (c t - (min (c t) (sumk pls kd x' n - (f' - sumk ets kd x' n)))))) (pk_sub (Nat.min_le_left _ _)) ?_
                have h_12 : vp_in (nI (t + 1)) 7 := by exact vp_in_nI (by omega) (by decide)
                refine z_iast C (pc := 204) 4 rfl h_12 (ws' := (mW cI b (upd i' 11 (nI (f' - sumk ets kd x' n))) (va_up r 3 (upd (r 3) (nI (t + 1)).toNatClampNeg (nI (c t - (min (c t) (sumk pls kd x' n - (f' - sumk ets kd x' n))))))) h)) rfl dX4_goStage_204 ?_
                refine z_aload_n C (pc := 205) dX4_goStage_205 rfl ?_
                refine z_dup C (pc := 206) dX4_goStage_206 rfl ?_
                refine z_get C (pc := 207) 0 rfl rfl wf_X4 11 (by decide) rfl wl_X4_128 (v := .int (nI (f' - sumk ets kd x' n))) rfl dX4_goStage_207 ?_
                refine z_iload C (pc := 210) dX4_goStage_210 rfl ?_
                refine z_iadd C (pc := 212) dX4_goStage_212 ?_
                refine z_seti (y := (nI ((f' - sumk ets kd x' n) + (min (c t) (sumk pls kd x' n - (f' - sumk ets kd x' n)))))) (nI_add _ _) ?_
                refine z_put C (pc := 213) 0 rfl rfl wf_X4 11 (by decide) rfl tyX4 tyX4_ok nmX4 rfl rfl rfl (Nat.le_of_ble_eq_true rfl) (ws' := (mW cI b (upd (upd i' 11 (nI (f' - sumk ets kd x' n))) 11 (nI ((f' - sumk ets kd x' n) + (min (c t) (sumk pls kd x' n - (f' - sumk ets kd x' n)))))) (va_up r 3 (upd (r 3) (nI (t + 1)).toNatClampNeg (nI (c t - (min (c t) (sumk pls kd x' n - (f' - sumk ets kd x' n))))))) h)) rfl wl_X4_128 dX4_goStage_213 ?_
                refine z_iconst C (pc := 216) (v := 1) dX4_goStage_216 (by decide) ?_
                refine z_zret C (pc := 217) ((upd (upd i' 11 (nI (f' - sumk ets kd x' n))) 11 (nI ((f' - sumk ets kd x' n) + (min (c t) (sumk pls kd x' n - (f' - sumk ets kd x' n)))))), (va_up r 3 (upd (r 3) (nI (t + 1)).toNatClampNeg (nI (c t - (min (c t) (sumk pls kd x' n - (f' - sumk ets kd x' n)))))))) dX4_goStage_217 rfl ?_ rfl
                have hl : (legv kd n st j (x, f, c, d)) = (x', (takev kd n (2 * st - j) (x', (f' - sumk ets kd x' n)) c).1, (takev kd n (2 * st - j) (x', (f' - sumk ets kd x' n)) c).2, 0) := leg_home (z := (x, f, c, d)) hov hnd hjs
                rw [hl]
                have htk : takev kd n (2 * st - j) (x', (f' - sumk ets kd x' n)) c = ((f' - sumk ets kd x' n) + (min (c t) (sumk pls kd x' n - (f' - sumk ets kd x' n))), upN c t (c t - (min (c t) (sumk pls kd x' n - (f' - sumk ets kd x' n))))) := by unfold takev; rw [ht]; exact if_neg (by omega)
                rw [htk]
                refine ⟨by simp [b2], by simp [upd]; exact h12, (hsp.up (by omega)).up (by omega), SRm.rf.up, ⟨by simp [upd]; exact hpm.1, by simp [upd]⟩, fun k hk => ?_⟩
                dsimp only
                rw [vup_s, nI_clamp (by omega)]
                unfold upd upN
                by_cases e : k = t
                · rw [if_pos (by omega), if_pos e]
                · rw [if_neg (by omega), if_neg e]; exact (hc k hk).1
              · refine z_aload_n C (pc := 181) dX4_goStage_181 rfl ?_
                refine z_get C (pc := 182) 0 rfl rfl wf_X4 13 (by decide) rfl wl_X4_19 (v := .ref (b 4)) rfl dX4_goStage_182 ?_
                refine z_iload_n C (pc := 185) dX4_goStage_185 rfl ?_
                have h_13 : vp_in (nI (t + 1)) 7 := by exact vp_in_nI (by omega) (by decide)
                refine z_iald C (pc := 186) 4 rfl h_13 dX4_goStage_186 ?_
                refine z_seti (y := nI (c t)) (by rw [nI_clamp (by omega)]; exact htc.1) ?_
                refine z_goto C (pc := 187) (tgt := 192) dX4_goStage_187 (by decide) ?_
                refine z_istore C (pc := 192) (lv' := [(0, .ref (b 0)), (1, .int (nI fr)), (2, .int 0), (3, .int (nI (t + 1))), (4, .int (nI (sumk pls kd x' n - (f' - sumk ets kd x' n)))), (5, .int (nI (c t)))]) dX4_goStage_192 (Nat.le_of_ble_eq_true rfl) rfl rfl ?_
                refine z_lv (lv' := [(0, .ref (b 0)), (1, .int (nI fr)), (2, .int 0), (3, .int (nI (t + 1))), (5, .int (nI (min (c t) (sumk pls kd x' n - (f' - sumk ets kd x' n)))))]) ⟨rfl, rfl, rfl, rfl, lki (by rw [Nat.min_eq_left (Nat.le_of_not_lt (fun e => c_10 (nI_le (Nat.le_of_lt e) (by omega))))]), trivial⟩ ?_
                refine z_aload_n C (pc := 194) dX4_goStage_194 rfl ?_
                refine z_get C (pc := 195) 0 rfl rfl wf_X4 13 (by decide) rfl wl_X4_19 (v := .ref (b 4)) rfl dX4_goStage_195 ?_
                refine z_iload_n C (pc := 198) dX4_goStage_198 rfl ?_
                refine z_dup2 C (pc := 199) dX4_goStage_199 rfl rfl ?_
                have h_14 : vp_in (nI (t + 1)) 7 := by exact vp_in_nI (by omega) (by decide)
                refine z_iald C (pc := 200) 4 rfl h_14 dX4_goStage_200 ?_
                refine z_seti (y := nI (c t)) (by rw [nI_clamp (by omega)]; exact htc.1) ?_
                refine z_iload C (pc := 201) dX4_goStage_201 rfl ?_
                refine z_isub C (pc := 203) dX4_goStage_203 ?_
                refine z_seti (y := (nI (c t - (min (c t) (sumk pls kd x' n - (f' - sumk ets kd x' n)))))) (pk_sub (Nat.min_le_left _ _)) ?_
                have h_15 : vp_in (nI (t + 1)) 7 := by exact vp_in_nI (by omega) (by decide)
                refine z_iast C (pc := 204) 4 rfl h_15 (ws' := (mW cI b (upd i' 11 (nI (f' - sumk ets kd x' n))) (va_up r 3 (upd (r 3) (nI (t + 1)).toNatClampNeg (nI (c t - (min (c t) (sumk pls kd x' n - (f' - sumk ets kd x' n))))))) h)) rfl dX4_goStage_204 ?_
                refine z_aload_n C (pc := 205) dX4_goStage_205 rfl ?_
                refine z_dup C (pc := 206) dX4_goStage_206 rfl ?_
                refine z_get C (pc := 207) 0 rfl rfl wf_X4 11 (by decide) rfl wl_X4_128 (v := .int (nI (f' - sumk ets kd x' n))) rfl dX4_goStage_207 ?_
                refine z_iload C (pc := 210) dX4_goStage_210 rfl ?_
                refine z_iadd C (pc := 212) dX4_goStage_212 ?_
                refine z_seti (y := (nI ((f' - sumk ets kd x' n) + (min (c t) (sumk pls kd x' n - (f' - sumk ets kd x' n)))))) (nI_add _ _) ?_
                refine z_put C (pc := 213) 0 rfl rfl wf_X4 11 (by decide) rfl tyX4 tyX4_ok nmX4 rfl rfl rfl (Nat.le_of_ble_eq_true rfl) (ws' := (mW cI b (upd (upd i' 11 (nI (f' - sumk ets kd x' n))) 11 (nI ((f' - sumk ets kd x' n) + (min (c t) (sumk pls kd x' n - (f' - sumk ets kd x' n)))))) (va_up r 3 (upd (r 3) (nI (t + 1)).toNatClampNeg (nI (c t - (min (c t) (sumk pls kd x' n - (f' - sumk ets kd x' n))))))) h)) rfl wl_X4_128 dX4_goStage_213 ?_
                refine z_iconst C (pc := 216) (v := 1) dX4_goStage_216 (by decide) ?_
                refine z_zret C (pc := 217) ((upd (upd i' 11 (nI (f' - sumk ets kd x' n))) 11 (nI ((f' - sumk ets kd x' n) + (min (c t) (sumk pls kd x' n - (f' - sumk ets kd x' n)))))), (va_up r 3 (upd (r 3) (nI (t + 1)).toNatClampNeg (nI (c t - (min (c t) (sumk pls kd x' n - (f' - sumk ets kd x' n)))))))) dX4_goStage_217 rfl ?_ rfl
                have hl : (legv kd n st j (x, f, c, d)) = (x', (takev kd n (2 * st - j) (x', (f' - sumk ets kd x' n)) c).1, (takev kd n (2 * st - j) (x', (f' - sumk ets kd x' n)) c).2, 0) := leg_home (z := (x, f, c, d)) hov hnd hjs
                rw [hl]
                have htk : takev kd n (2 * st - j) (x', (f' - sumk ets kd x' n)) c = ((f' - sumk ets kd x' n) + (min (c t) (sumk pls kd x' n - (f' - sumk ets kd x' n))), upN c t (c t - (min (c t) (sumk pls kd x' n - (f' - sumk ets kd x' n))))) := by unfold takev; rw [ht]; exact if_neg (by omega)
                rw [htk]
                refine ⟨by simp [b2], by simp [upd]; exact h12, (hsp.up (by omega)).up (by omega), SRm.rf.up, ⟨by simp [upd]; exact hpm.1, by simp [upd]⟩, fun k hk => ?_⟩
                dsimp only
                rw [vup_s, nI_clamp (by omega)]
                unfold upd upN
                by_cases e : k = t
                · rw [if_pos (by omega), if_pos e]
                · rw [if_neg (by omega), if_neg e]; exact (hc k hk).1
        · exact absurd c_5 (by decide)
      · have hdie : (x', f').1 = 0 ∨ (x', f').2 < sumk ets kd (x', f').1 n := Or.inr (by
          rw [hpm.2] at c_3
          exact lt_of_nI c_3 (by omega))
        refine z_aload_n C (pc := 104) dX4_goStage_104 rfl ?_
        refine z_iconst C (pc := 105) (v := 0) dX4_goStage_105 (by decide) ?_
        refine z_put C (pc := 106) 0 rfl rfl wf_X4 10 (by decide) rfl tyX4 tyX4_ok nmX4 rfl rfl rfl (Nat.le_of_ble_eq_true rfl) (ws' := (mW cI b (upd i' 10 0) r h)) rfl wl_X4_125 dX4_goStage_106 ?_
        refine z_aload_n C (pc := 109) dX4_goStage_109 rfl ?_
        refine z_iconst C (pc := 110) (v := 0) dX4_goStage_110 (by decide) ?_
        refine z_put C (pc := 111) 0 rfl rfl wf_X4 11 (by decide) rfl tyX4 tyX4_ok nmX4 rfl rfl rfl (Nat.le_of_ble_eq_true rfl) (ws' := (mW cI b (upd (upd i' 10 0) 11 0) r h)) rfl wl_X4_128 dX4_goStage_111 ?_
        refine z_iconst C (pc := 114) (v := 0) dX4_goStage_114 (by decide) ?_
        refine z_zret C (pc := 115) ((upd (upd i' 10 0) 11 0), r) dX4_goStage_115 rfl ?_ rfl
        have hl : (legv kd n st j (x, f, c, d)) = (0, 0, c, j) := leg_die (z := (x, f, c, d)) hov hdie
        rw [hl]
        refine ⟨by simp [b2, show j ≠ 0 by omega], by simp [upd]; exact h12, (hsp.up (by omega)).up (by omega), SRm.rf, ⟨by simp [upd, nI], by simp [upd, nI]⟩, fun k hk => (hc k hk).1⟩
  refine z_iload_n C (pc := 0) dX4_goStage_0 rfl ?_
  refine z_if_eq C (pc := 1) (tgt := 38) dX4_goStage_1 (by decide) (fun c_16 => ?_) (fun c_16 => ?_)
  · have key38 : ∀ (fu38 : Nat) (x2 f2 : Nat) (i2 : Nat → Int32), x2 < fu38 → (SPm i i2) → (i2 12 = i 12) → (PM i2 x2 f2) → (OK kd n x2 f2) → (bea kd n n (x2, f2) = outv kd n st j (x, f)) → Z pP l eE (rm 4 86) sS mM aV bB mE cC D AA 6 0 0 (MQ bB (va_Qi (S := ((Nat → Int32) × (Nat → Nat → Int32))) (fun q u => q = b2 (decide ((legv kd n st j (x, f, c, d)).2.2.2 = 0)) ∧ u.1 12 = i 12 ∧ GSm i r u.1 u.2 (legv kd n st j (x, f, c, d))) (fun u t => va_P D vwCl ((fun u => mW cI b u.1 u.2 h) u) t.heap) AA) aV sS 0 0 AA) 38 [(0, .ref (b 0)), (1, .int (nI fr)), (2, .int 0)] [] (mW cI b i2 r h) := by
      intro fu38
      induction fu38 with
      | zero => intro x2 f2 i2 hfu38; exact absurd hfu38 (Nat.not_lt_zero _)
      | succ fu38 ih38 =>
        intro x2 f2 i2 hfu38 hsp2 h122 hpm2 hok2 heq2
        refine z_aload_n C (pc := 38) dX4_goStage_38 rfl ?_
        have hv2 := hv.sp hsp2 SRm.rf
        have hxx2 := hok2.1
        refine z_get C (pc := 39) 0 rfl rfl wf_X4 11 (by decide) rfl wl_X4_128 (v := .int (i2 11)) rfl dX4_goStage_39 ?_
        refine z_aload_n C (pc := 42) dX4_goStage_42 rfl ?_
        refine z_aload_n C (pc := 43) dX4_goStage_43 rfl ?_
        refine z_get C (pc := 44) 0 rfl rfl wf_X4 10 (by decide) rfl wl_X4_125 (v := .int (i2 10)) rfl dX4_goStage_44 ?_
        refine z_seti (y := (nI x2)) (hpm2.1) ?_
        refine z_calliF C (by exact fun _ => mW_ad) (runV C (wc := (mW cI b i2 r h)) (pc := 47) (rY' := rm 1 21) (nn := 1) (As := [.int (nI x2)]) (rest := [.int (i2 11)]) (m_eatOf l D cI tt b i2 r h kd n hv2 x2 (by omega)) (full_hC _) (full_nd _) ⟨rfl, rfl, ⟨Nat.le_of_ble_eq_true rfl, Nat.le_of_ble_eq_true rfl⟩, Nat.le_of_ble_eq_true rfl, Nat.le_of_ble_eq_true rfl⟩ wl_X4_145 wm_X4_eatOf we_X4_eatOf wi_X4 wc_X4_eatOf (by decide +kernel) rfl 0 rfl rfl rfl rfl (Nat.le_of_ble_eq_true rfl) dX4_goStage_47) (fun q_17 u_17 h_17 => ?_)
        subst h_17
        refine z_ws (st' := [.int (nI (sumk ets kd x2 n)), .int (i2 11)]) (ws' := (mW cI b i2 r h)) rfl rfl ?_
        refine z_icmp_ge C (pc := 50) (tgt := 82) dX4_goStage_50 (by decide) (fun c_18 => ?_) (fun c_18 => ?_)
        · have hfl : ¬ (x2, f2).2 < sumk ets kd (x2, f2).1 n := by
            rw [hpm2.2] at c_18
            have := ge_of_nI c_18 (by have := et_le (kd := kd) (x := x2) hn6; omega)
            exact Nat.not_lt.mpr this
          have hov2 : outv kd n st j (x, f) = (x2, f2) := by rw [← heq2, bea_x hfl]
          refine z_lv (lv' := [(0, .ref (b 0)), (1, .int (nI fr)), (2, .int 0)]) ⟨rfl, rfl, rfl, trivial⟩ ?_
          exact join82 x2 f2 i2 hsp2 h122 hpm2 hok2 hov2
        · have hfl : (x2, f2).2 < sumk ets kd (x2, f2).1 n := by
            rw [hpm2.2] at c_18
            exact lt_of_nI c_18 (by have := hok2.2; have := pl_le (kd := kd) (x := x2) hn6; omega)
          refine z_aload_n C (pc := 53) dX4_goStage_53 rfl ?_
          refine z_aload_n C (pc := 54) dX4_goStage_54 rfl ?_
          refine z_get C (pc := 55) 0 rfl rfl wf_X4 10 (by decide) rfl wl_X4_125 (v := .int (i2 10)) rfl dX4_goStage_55 ?_
          refine z_seti (y := (nI x2)) (hpm2.1) ?_
          refine z_iconst C (pc := 58) (v := 0) dX4_goStage_58 (by decide) ?_
          refine z_calliF C (by exact fun _ => mW_ad) (runV C (wc := (mW cI b i2 r h)) (pc := 59) (rY' := rm 1 21) (nn := 2) (As := [.int (nI x2), .int 0]) (rest := []) (m_lastB l D cI tt b i2 r h kd n hv2 x2 (by omega)) (full_hC _) (full_nd _) ⟨rfl, rfl, ⟨Nat.le_of_ble_eq_true rfl, Nat.le_of_ble_eq_true rfl⟩, Nat.le_of_ble_eq_true rfl, Nat.le_of_ble_eq_true rfl⟩ wl_X4_137 wm_X4_lastOf we_X4_lastOf wi_X4 wc_X4_lastOf (by decide +kernel) rfl 0 rfl rfl rfl rfl (Nat.le_of_ble_eq_true rfl) dX4_goStage_59) (fun q_19 u_19 h_19 => ?_)
          subst h_19
          refine z_ws (st' := [.int (nI (lsv (fun k => isB (kd k)) x2 n) - 1)]) (ws' := (mW cI b i2 r h)) rfl rfl ?_
          refine z_iconst C (pc := 62) (v := (-1)) dX4_goStage_62 (by decide) ?_
          refine z_icmp_eq C (pc := 63) (tgt := 82) dX4_goStage_63 (by decide) (fun c_20 => ?_) (fun c_20 => ?_)
          · have hl0 := (lsv_pred (P := (fun k => isB (kd k))) hn6).mp c_20
            have hov2 : outv kd n st j (x, f) = (x2, f2) := by rw [← heq2, bea_end hl0]
            refine z_lv (lv' := [(0, .ref (b 0)), (1, .int (nI fr)), (2, .int 0)]) ⟨rfl, rfl, rfl, trivial⟩ ?_
            exact join82 x2 f2 i2 hsp2 h122 hpm2 hok2 hov2
          · obtain ⟨w, hw⟩ := lsv_get (P := (fun k => isB (kd k))) hn6 c_20
            obtain ⟨hw1, hw2, -⟩ := lsv_some hw
            refine z_aload_n C (pc := 66) dX4_goStage_66 rfl ?_
            refine z_aload_n C (pc := 67) dX4_goStage_67 rfl ?_
            refine z_aload_n C (pc := 68) dX4_goStage_68 rfl ?_
            refine z_get C (pc := 69) 0 rfl rfl wf_X4 10 (by decide) rfl wl_X4_125 (v := .int (i2 10)) rfl dX4_goStage_69 ?_
            refine z_seti (y := (nI x2)) (hpm2.1) ?_
            refine z_iconst C (pc := 72) (v := 0) dX4_goStage_72 (by decide) ?_
            refine z_calliF C (by exact fun _ => mW_ad) (runV C (wc := (mW cI b i2 r h)) (pc := 73) (rY' := rm 1 21) (nn := 2) (As := [.int (nI x2), .int 0]) (rest := [.ref (b 0)]) (m_lastB l D cI tt b i2 r h kd n hv2 x2 (by omega)) (full_hC _) (full_nd _) ⟨rfl, rfl, ⟨Nat.le_of_ble_eq_true rfl, Nat.le_of_ble_eq_true rfl⟩, Nat.le_of_ble_eq_true rfl, Nat.le_of_ble_eq_true rfl⟩ wl_X4_137 wm_X4_lastOf we_X4_lastOf wi_X4 wc_X4_lastOf (by decide +kernel) rfl 0 rfl rfl rfl rfl (Nat.le_of_ble_eq_true rfl) dX4_goStage_73) (fun q_21 u_21 h_21 => ?_)
            subst h_21
            refine z_ws (st' := [.int (nI (lsv (fun k => isB (kd k)) x2 n) - 1), .ref (b 0)]) (ws' := (mW cI b i2 r h)) rfl rfl ?_
            refine z_seti (y := (nI w)) (by rw [hw]; exact nI_pred w) ?_
            refine z_callvF C (by exact fun _ => mW_ad) (runV C (wc := (mW cI b i2 r h)) (pc := 76) (rY' := rm 3 65) (nn := 1) (As := [.int (nI w)]) (rest := []) (m_eatBeast l D cI tt b i2 r h kd n hv2 x2 f2 hok2 hpm2 w hw2 hw1.2) (full_hC _) (full_nd _) ⟨rfl, rfl, ⟨Nat.le_of_ble_eq_true rfl, Nat.le_of_ble_eq_true rfl⟩, Nat.le_of_ble_eq_true rfl, Nat.le_of_ble_eq_true rfl⟩ wl_X4_141 wm_X4_eatBeast we_X4_eatBeast wi_X4 wc_X4_eatBeast (by decide +kernel) rfl 0 rfl rfl rfl rfl (Nat.le_of_ble_eq_true rfl) dX4_goStage_76) (fun u_22 h_22 => ?_)
            generalize u_22 = i22 at h_22 ⊢
            obtain ⟨k1, k2, k3⟩ := h_22
            refine z_ws (st' := []) (ws' := (mW cI b i22 r h)) rfl rfl ?_
            refine z_goto C (pc := 79) (tgt := 38) dX4_goStage_79 (by decide) ?_
            have hdl := dev_lt (kd := kd) (n := n) (s := (x2, f2)) (k := w) (by show x2 < 64; omega) (by omega) hw1.2
            exact ih38 ((dev kd n w (x2, f2)).1) ((dev kd n w (x2, f2)).2) i22 (by omega) (hsp2.tr k1) (k2.trans h122) k3 (dev_ok hn6 hw2 hok2) (by rw [← heq2]; exact (bea_last hn6 (by show x2 < 64; omega) hfl hw).symm)
    exact key38 (_ + 1) x f i (Nat.lt_succ_self _) SPm.rf rfl hp ho ((out_n (fun e => hjs e.1)).symm)
  · exact absurd c_16 (by decide)
