/-! a march of the law's -/
def pvS (kd : Nat → Nat) (n st j sn k : Nat) (s : Nat × Nat) : Nat × Nat := if sn = 0 then (if j ≤ st ∧ 3 ≤ j - 1 then pon kd n k s else s) else bea kd n k s
def svS (kd : Nat → Nat) (n st j : Nat) : Nat → Nat × Nat → Nat × Nat
  | 0, s => s
  | q + 1, s => pvS kd n st j q n (svS kd n st j q s)
theorem svS_2 {kd : Nat → Nat} {n st j : Nat} {s : Nat × Nat} : svS kd n st j 2 s = outv kd n st j s := by
  show pvS kd n st j 1 n (pvS kd n st j 0 n s) = _
  unfold pvS outv
  rw [if_neg (by decide), if_pos rfl]
def isv (kd : Nat → Nat) (n st j sn k : Nat) (s : Nat × Nat) : Prop := if sn = 0 then (j ≤ st ∧ 3 ≤ j - 1 ∧ kd k = 1) else (isB (kd k) = true ∧ s.2 < sumk ets kd s.1 n)
theorem pv_0 {kd : Nat → Nat} {n st j sn : Nat} {s : Nat × Nat} : pvS kd n st j sn 0 s = s := by
  unfold pvS
  by_cases h : sn = 0
  · rw [if_pos h]
    split <;> rfl
  · rw [if_neg h]; rfl
theorem pv_dev {kd : Nat → Nat} {n st j sn k : Nat} {s : Nat × Nat} (h : isv kd n st j sn k s) : pvS kd n st j sn (k + 1) s = pvS kd n st j sn k (dev kd n k s) := by
  unfold isv at h
  unfold pvS
  by_cases e : sn = 0
  · rw [if_pos e] at h
    rw [if_pos e, if_pos e, if_pos ⟨h.1, h.2.1⟩, if_pos ⟨h.1, h.2.1⟩]
    exact pon_s h.2.2
  · rw [if_neg e] at h
    rw [if_neg e, if_neg e]
    exact bea_s h.2 h.1
theorem pv_not {kd : Nat → Nat} {n st j sn k : Nat} {s : Nat × Nat} (h : ¬ isv kd n st j sn k s) : pvS kd n st j sn (k + 1) s = pvS kd n st j sn k s := by
  unfold isv at h
  unfold pvS
  by_cases e : sn = 0
  · rw [if_pos e] at h
    rw [if_pos e, if_pos e]
    by_cases e2 : j ≤ st ∧ 3 ≤ j - 1
    · rw [if_pos e2, if_pos e2]
      exact pon_n (fun e3 => h ⟨e2.1, e2.2, e3⟩)
    · rw [if_neg e2, if_neg e2]
  · rw [if_neg e] at h
    rw [if_neg e, if_neg e]
    by_cases e0 : s.2 < sumk ets kd s.1 n
    · exact bea_n e0 (fun e1 => h ⟨e1, e0⟩)
    · rw [bea_x e0, bea_x e0]
theorem pv_bt {kd : Nat → Nat} {n st j sn k : Nat} {s : Nat × Nat} (h : ¬ bt s.1 k = 1) : pvS kd n st j sn (k + 1) s = pvS kd n st j sn k s := by
  by_cases e : isv kd n st j sn k s
  · rw [pv_dev e]
    have : dev kd n k s = s := by unfold dev; rw [if_neg h]
    rw [this]
  · exact pv_not e
theorem isB_fds {t : Nat} (h : t ≤ 4) : isB t = decide (0 < fds t) := (show ∀ t, t < 5 → isB t = decide (0 < fds t) by decide) t (by omega)
theorem lwg_dead {kd : Nat → Nat} {n st j xx ff : Nat} {z : MS} (h : (xx, ff) = outv kd n st j (z.1, z.2.1)) (hd : xx = 0 ∨ ff < sumk ets kd xx n) : legv kd n st j z = (0, 0, z.2.2.1, j) := by
  unfold legv
  rw [← h]
  exact if_pos hd
theorem lwg_out {kd : Nat → Nat} {n st j xx ff : Nat} {z : MS} (h : (xx, ff) = outv kd n st j (z.1, z.2.1)) (hd : ¬ (xx = 0 ∨ ff < sumk ets kd xx n)) (hj : j ≤ st) : legv kd n st j z = (xx, ff - sumk ets kd xx n, z.2.2.1, 0) := by
  unfold legv
  rw [← h]
  exact (if_neg hd).trans (if_pos hj)
theorem lwg_home {kd : Nat → Nat} {n st j xx ff : Nat} {z : MS} (h : (xx, ff) = outv kd n st j (z.1, z.2.1)) (hd : ¬ (xx = 0 ∨ ff < sumk ets kd xx n)) (hj : ¬ j ≤ st) : legv kd n st j z = (xx, (takev kd n (2 * st - j) (xx, ff - sumk ets kd xx n) z.2.2.1).1, (takev kd n (2 * st - j) (xx, ff - sumk ets kd xx n) z.2.2.1).2, 0) := by
  unfold legv
  rw [← h]
  exact (if_neg hd).trans (if_neg hj)
theorem lwg_home0 {kd : Nat → Nat} {n st j xx ff : Nat} {z : MS} (h : (xx, ff) = outv kd n st j (z.1, z.2.1)) (hd : ¬ (xx = 0 ∨ ff < sumk ets kd xx n)) (hj : ¬ j ≤ st) (hq : 2 * st - j = 0) : legv kd n st j z = (xx, ff - sumk ets kd xx n, z.2.2.1, 0) := by
  rw [lwg_home h hd hj]
  unfold takev
  rw [if_pos hq]
theorem lwg_home1 {kd : Nat → Nat} {n st j xx ff mu : Nat} {z : MS} (h : (xx, ff) = outv kd n st j (z.1, z.2.1)) (hd : ¬ (xx = 0 ∨ ff < sumk ets kd xx n)) (hj : ¬ j ≤ st) (hq : 2 * st - j ≠ 0) (hm : min (z.2.2.1 (2 * st - j - 1)) (sumk pls kd xx n - (ff - sumk ets kd xx n)) = mu) : legv kd n st j z = (xx, ff - sumk ets kd xx n + mu, upN z.2.2.1 (2 * st - j - 1) (z.2.2.1 (2 * st - j - 1) - mu), 0) := by
  rw [lwg_home h hd hj]
  unfold takev
  rw [if_neg hq, hm]
theorem DV_up {f : Nat → Int32} {c : Nat → Nat} {q v : Nat} (h : DV f c) (h1 : q ≠ 0) (hv : v ≤ 9) : DV (upd f q (nI v)) (upN c (q - 1) v) := fun k hk => by
  unfold upd upN
  by_cases e : k + 1 = q
  · rw [if_pos e, if_pos (by omega)]; exact ⟨rfl, hv⟩
  · rw [if_neg e, if_neg (by omega)]; exact h k hk
/-- behind a march: who lives and what they have, and what lies at the cairns -/
def LM (fd fd' fr' : Nat → Int32) (m : MS) : Prop := fr' 0 = nI m.1 ∧ fr' 1 = nI m.2.1 ∧ fr' 2 = nI m.2.2.2 ∧ DV fd' m.2.2.1 ∧ ∀ k, (k = 0 ∨ 5 < k) → fd' k = fd k
theorem fds_pos {t : Nat} (ht : t ≤ 4) (h : ¬ nI (fds t) ≤ 0) : isB t = true := by
  have := fds_le t
  rw [isB_fds ht]
  exact decide_eq_true (Nat.pos_of_ne_zero (fun e => h (by rw [e]; decide)))
theorem fds_npos {t : Nat} (ht : t ≤ 4) (h : nI (fds t) ≤ 0) : ¬ isB t = true := by
  have := fds_le t
  rw [isB_fds ht]
  have h2 := (nI_leI (a := fds t) (b := 0) (by omega) (by decide)).mp h
  exact fun e => by have := of_decide_eq_true e; omega
set_option maxHeartbeats 4000000 in
set_option maxRecDepth 100000 in
theorem g_march (l : Launch) (D : va_G) (cI : ClassId) (tt : Nat × Nat × Nat) (ab ad ar : Nat) (fb fd fr : Nat → Int32) (kd : Nat → Nat) (n : Nat) (hb : BV fb kd n) (c : Nat → Nat) (hd : DV fd c) (x st f : Nat) (hx : x < 2 ^ n) (hst : st ≤ 6) (hf : f ≤ 40) : MetV (S := ((Nat → Int32) × (Nat → Int32))) l yL_march cL_march 10 none (rm 2 45) D cI tt [.ref ab, .ref ad, .ref ar, .int (nI x), .int (nI st), .int (nI f)] [(ab, .inl (cI, 7, .inl fb)), (ad, .inl (cI, 9, .inl fd)), (ar, .inl (cI, 3, .inl fr))] (fun u => LM fd u.1 u.2 (marv kd n x st f c)) (fun u => [(ab, .inl (cI, 7, .inl fb)), (ad, .inl (cI, 9, .inl u.1)), (ar, .inl (cI, 3, .inl u.2))]) := by
  have hn6 := hb.2.1
  have hx6 := pow_le6 hn6
  have hpl := pl_le (kd := kd) (x := x) hn6
  have hcc : ∀ k, k < 5 → c k ≤ 9 := fun k hk => (hd k hk).2
  refine met_ofV (by decide) (Nat.le_of_ble_eq_true rfl) ?_
  intro pP eE sS mM aV bB mE cC AA C hin
  refine z_conv (lv' := [(0, .ref ab), (1, .ref ad), (2, .ref ar), (3, .int (nI x)), (4, .int (nI st)), (5, .int (nI f))]) ⟨rfl, rfl, rfl, rfl, rfl, rfl, trivial⟩ rfl rfl ?_
  have join29 : ∀ (fr1 : Nat → Int32), (fr1 0 = nI x) → (fr1 1 = nI (min f (sumk pls kd x n))) → Z pP l eE (rm 2 45) sS mM aV bB mE cC D AA 10 0 0 (MQ bB (va_Qv (S := ((Nat → Int32) × (Nat → Int32))) (fun u => LM fd u.1 u.2 (marv kd n x st f c)) (fun u t => va_P D vwCl ((fun u => [(ab, .inl (cI, 7, .inl fb)), (ad, .inl (cI, 9, .inl u.1)), (ar, .inl (cI, 3, .inl u.2))]) u) t.heap) AA) aV sS 0 0 AA) 29 [(0, .ref ab), (1, .ref ad), (2, .ref ar), (3, .int (nI x)), (4, .int (nI st)), (5, .int (nI f))] [] [(ab, .inl (cI, 7, .inl fb)), (ad, .inl (cI, 9, .inl fd)), (ar, .inl (cI, 3, .inl fr1))] := by
    intro fr1 h10 h11
    refine z_aload_n C (pc := 29) dL_march_29 rfl ?_
    refine z_iconst C (pc := 30) (v := nI 2) dL_march_30 (by decide) ?_
    refine z_iconst C (pc := 31) (v := nI 0) dL_march_31 (by decide) ?_
    have h_1 : vp_in (nI 2) 3 := by exact vp_in_nI (by omega) (by decide)
    refine z_iast C (pc := 32) 2 rfl h_1 (ws' := [(ab, .inl (cI, 7, .inl fb)), (ad, .inl (cI, 9, .inl fd)), (ar, .inl (cI, 3, .inl (upd fr1 2 (nI 0))))]) (by rw [nI_clamp (by omega)]; rfl) dL_march_32 ?_
    refine z_iconst C (pc := 33) (v := nI 1) dL_march_33 (by decide) ?_
    refine z_istore C (pc := 34) (lv' := [(0, .ref ab), (1, .ref ad), (2, .ref ar), (3, .int (nI x)), (4, .int (nI st)), (5, .int (nI f)), (6, .int (nI 1))]) dL_march_34 (Nat.le_of_ble_eq_true rfl) rfl rfl ?_
    have key36 : ∀ (fu36 : Nat) (j : Nat) (fd' fr' : Nat → Int32), 2 * st - j < fu36 → (j ≤ 2 * st) → ((runv kd n st j (x, min f (sumk pls kd x n), c, 0)).2.2.2 = 0) → (fr' 0 = nI (runv kd n st j (x, min f (sumk pls kd x n), c, 0)).1) → (fr' 1 = nI (runv kd n st j (x, min f (sumk pls kd x n), c, 0)).2.1) → (fr' 2 = nI 0) → (DV fd' (runv kd n st j (x, min f (sumk pls kd x n), c, 0)).2.2.1) → (∀ k, (k = 0 ∨ 5 < k) → fd' k = fd k) → Z pP l eE (rm 2 45) sS mM aV bB mE cC D AA 10 0 0 (MQ bB (va_Qv (S := ((Nat → Int32) × (Nat → Int32))) (fun u => LM fd u.1 u.2 (marv kd n x st f c)) (fun u t => va_P D vwCl ((fun u => [(ab, .inl (cI, 7, .inl fb)), (ad, .inl (cI, 9, .inl u.1)), (ar, .inl (cI, 3, .inl u.2))]) u) t.heap) AA) aV sS 0 0 AA) 36 [(0, .ref ab), (1, .ref ad), (2, .ref ar), (3, .int (nI x)), (4, .int (nI st)), (5, .int (nI f)), (6, .int (nI (j + 1)))] [] [(ab, .inl (cI, 7, .inl fb)), (ad, .inl (cI, 9, .inl fd')), (ar, .inl (cI, 3, .inl fr'))] := by
      intro fu36
      induction fu36 with
      | zero => intro j fd' fr' hfu36; exact absurd hfu36 (Nat.not_lt_zero _)
      | succ fu36 ih36 =>
        intro j fd' fr' hfu36 hj hz0 hr0 hr1 hr2 hdv hfd
        refine z_iload C (pc := 36) dL_march_36 rfl ?_
        refine z_iconst C (pc := 38) (v := nI 2) dL_march_38 (by decide) ?_
        refine z_iload C (pc := 39) dL_march_39 rfl ?_
        refine z_imul C (pc := 41) dL_march_41 ?_
        refine z_icmp_gt C (pc := 42) (tgt := 340) dL_march_42 (by decide) (fun c_2 => ?_) (fun c_2 => ?_)
        · have hje : j = 2 * st := by
            have h7 : nI (2 * st) < nI (j + 1) := by
              have := c_2
              rwa [show nI 2 * nI st = nI (2 * st) from two_mul_nI st] at this
            have := (nI_ltI (by omega) (by omega)).mp h7
            omega
          subst hje
          refine z_vret C (pc := 340) (fd', fr') dL_march_340 ?_ rfl
          exact ⟨hr0, hr1, hr2.trans (congrArg nI hz0.symm), hdv, hfd⟩
        · have hjl : j + 1 ≤ 2 * st := by
            have h7 : ¬ nI (2 * st) < nI (j + 1) := by
              have := c_2
              rwa [show nI 2 * nI st = nI (2 * st) from two_mul_nI st] at this
            exact Nat.le_of_not_lt (fun h => h7 (nI_lt h (by omega)))
          have hmk := runv_ok (kd := kd) (st := st) hn6 j (x, min f (sumk pls kd x n), c, 0) (mok0 (kd := kd) (f := f) hx hcc)
          have hrs := run_s (j := j) (st := st) (kd := kd) (n := n) hz0
          generalize hzz : (runv kd n st j (x, min f (sumk pls kd x n), c, 0)) = z at hz0 hr0 hr1 hdv hmk hrs
          have hzl : z.1 < 2 ^ n := hmk.1.1
          refine z_iconst C (pc := 45) (v := nI 0) dL_march_45 (by decide) ?_
          refine z_istore C (pc := 46) (lv' := [(0, .ref ab), (1, .ref ad), (2, .ref ar), (3, .int (nI x)), (4, .int (nI st)), (5, .int (nI f)), (6, .int (nI (j + 1))), (7, .int (nI 0))]) dL_march_46 (Nat.le_of_ble_eq_true rfl) rfl rfl ?_
          have key48 : ∀ (fu48 : Nat) (sn xx ff : Nat) (fr2 : Nat → Int32), 2 - sn < fu48 → (sn ≤ 2) → (fr2 0 = nI xx) → (fr2 1 = nI ff) → (fr2 2 = nI 0) → (OK kd n xx ff) → ((xx, ff) = svS kd n st (j + 1) sn (z.1, z.2.1)) → Z pP l eE (rm 2 45) sS mM aV bB mE cC D AA 10 0 0 (MQ bB (va_Qv (S := ((Nat → Int32) × (Nat → Int32))) (fun u => LM fd u.1 u.2 (marv kd n x st f c)) (fun u t => va_P D vwCl ((fun u => [(ab, .inl (cI, 7, .inl fb)), (ad, .inl (cI, 9, .inl u.1)), (ar, .inl (cI, 3, .inl u.2))]) u) t.heap) AA) aV sS 0 0 AA) 48 [(0, .ref ab), (1, .ref ad), (2, .ref ar), (3, .int (nI x)), (4, .int (nI st)), (5, .int (nI f)), (6, .int (nI (j + 1))), (7, .int (nI sn))] [] [(ab, .inl (cI, 7, .inl fb)), (ad, .inl (cI, 9, .inl fd')), (ar, .inl (cI, 3, .inl fr2))] := by
            intro fu48
            induction fu48 with
            | zero => intro sn xx ff fr2 hfu48; exact absurd hfu48 (Nat.not_lt_zero _)
            | succ fu48 ih48 =>
              intro sn xx ff fr2 hfu48 hsn h20 h21 h22 hok hsv
              refine z_iload C (pc := 48) dL_march_48 rfl ?_
              refine z_iconst C (pc := 50) (v := nI 2) dL_march_50 (by decide) ?_
              refine z_icmp_ge C (pc := 51) (tgt := 216) dL_march_51 (by decide) (fun c_3 => ?_) (fun c_3 => ?_)
              · have hse : sn = 2 := by
                  have := ge_of_nI (n := 2) c_3 (by decide)
                  omega
                subst hse
                have hout := hsv.trans svS_2
                have hpp := pl_le (kd := kd) (x := xx) hn6
                have hee := et_le (kd := kd) (x := xx) hn6
                have hxl := hok.1
                have hfl := hok.2
                refine z_aload_n C (pc := 216) dL_march_216 rfl ?_
                refine z_iconst C (pc := 217) (v := nI 0) dL_march_217 (by decide) ?_
                have h_4 : vp_in (nI 0) 3 := by exact vp_in_nI (by omega) (by decide)
                refine z_iald C (pc := 218) 2 rfl h_4 dL_march_218 ?_
                refine z_seti (y := (fr2 0)) (by rw [nI_clamp (by omega)]) ?_
                refine z_seti (y := nI xx) h20 ?_
                refine z_if_eq C (pc := 219) (tgt := 236) dL_march_219 (by decide) (fun c_5 => ?_) (fun c_5 => ?_)
                · have hdd : xx = 0 ∨ ff < sumk ets kd xx n := Or.inl (nI_z (by omega) c_5)
                  refine z_aload_n C (pc := 236) dL_march_236 rfl ?_
                  refine z_iconst C (pc := 237) (v := nI 0) dL_march_237 (by decide) ?_
                  refine z_iconst C (pc := 238) (v := nI 0) dL_march_238 (by decide) ?_
                  have h_6 : vp_in (nI 0) 3 := by exact vp_in_nI (by omega) (by decide)
                  refine z_iast C (pc := 239) 2 rfl h_6 (ws' := [(ab, .inl (cI, 7, .inl fb)), (ad, .inl (cI, 9, .inl fd')), (ar, .inl (cI, 3, .inl (upd fr2 0 (nI 0))))]) (by rw [nI_clamp (by omega)]; rfl) dL_march_239 ?_
                  refine z_aload_n C (pc := 240) dL_march_240 rfl ?_
                  refine z_iconst C (pc := 241) (v := nI 1) dL_march_241 (by decide) ?_
                  refine z_iconst C (pc := 242) (v := nI 0) dL_march_242 (by decide) ?_
                  have h_7 : vp_in (nI 1) 3 := by exact vp_in_nI (by omega) (by decide)
                  refine z_iast C (pc := 243) 2 rfl h_7 (ws' := [(ab, .inl (cI, 7, .inl fb)), (ad, .inl (cI, 9, .inl fd')), (ar, .inl (cI, 3, .inl (upd (upd fr2 0 (nI 0)) 1 (nI 0))))]) (by rw [nI_clamp (by omega)]; rfl) dL_march_243 ?_
                  refine z_aload_n C (pc := 244) dL_march_244 rfl ?_
                  refine z_iconst C (pc := 245) (v := nI 2) dL_march_245 (by decide) ?_
                  refine z_iload C (pc := 246) dL_march_246 rfl ?_
                  have h_8 : vp_in (nI 2) 3 := by exact vp_in_nI (by omega) (by decide)
                  refine z_iast C (pc := 248) 2 rfl h_8 (ws' := [(ab, .inl (cI, 7, .inl fb)), (ad, .inl (cI, 9, .inl fd')), (ar, .inl (cI, 3, .inl (upd (upd (upd fr2 0 (nI 0)) 1 (nI 0)) 2 (nI (j + 1)))))]) (by rw [nI_clamp (by omega)]; rfl) dL_march_248 ?_
                  refine z_vret C (pc := 249) (fd', (upd (upd (upd fr2 0 (nI 0)) 1 (nI 0)) 2 (nI (j + 1)))) dL_march_249 ?_ rfl
                  have hR : (runv kd n st (j + 1) (x, min f (sumk pls kd x n), c, 0)) = (0, 0, z.2.2.1, j + 1) := hrs.trans (lwg_dead hout hdd)
                  have hm : (marv kd n x st f c) = (0, 0, z.2.2.1, j + 1) := (mar_end hjl (by rw [hR]; exact Nat.succ_ne_zero j)).trans hR
                  rw [hm]
                  exact ⟨by simp [upd], by simp [upd], by simp [upd], hdv, hfd⟩
                · have hx0 : xx ≠ 0 := nI_nz c_5
                  refine z_aload_n C (pc := 222) dL_march_222 rfl ?_
                  refine z_iconst C (pc := 223) (v := nI 1) dL_march_223 (by decide) ?_
                  have h_9 : vp_in (nI 1) 3 := by exact vp_in_nI (by omega) (by decide)
                  refine z_iald C (pc := 224) 2 rfl h_9 dL_march_224 ?_
                  refine z_seti (y := (fr2 1)) (by rw [nI_clamp (by omega)]) ?_
                  refine z_seti (y := nI ff) h21 ?_
                  refine z_aload_n C (pc := 225) dL_march_225 rfl ?_
                  refine z_aload_n C (pc := 226) dL_march_226 rfl ?_
                  refine z_iconst C (pc := 227) (v := nI 0) dL_march_227 (by decide) ?_
                  have h_10 : vp_in (nI 0) 3 := by exact vp_in_nI (by omega) (by decide)
                  refine z_iald C (pc := 228) 2 rfl h_10 dL_march_228 ?_
                  refine z_seti (y := (fr2 0)) (by rw [nI_clamp (by omega)]) ?_
                  refine z_seti (y := nI xx) h20 ?_
                  refine z_iconst C (pc := 229) (v := nI 1) dL_march_229 (by decide) ?_
                  refine z_calli C (isC := [0]) rfl (by exact fun _ => rfl) (runS C (wc := [(ab, .inl (cI, 7, .inl fb))]) (pc := 230) (rY' := rm 1 21) (nn := 3) (As := [.ref ab, .int (nI xx), .int (nI 1)]) (rest := [.int (nI ff)]) (g_sumE l D cI tt ab fb kd n hb xx (by omega)) rfl rfl ⟨rfl, rfl, ⟨Nat.le_of_ble_eq_true rfl, Nat.le_of_ble_eq_true rfl⟩, Nat.le_of_ble_eq_true rfl, Nat.le_of_ble_eq_true rfl⟩ wl_L_27 ws_L_sum wi_L wc_L_sum (by decide +kernel) rfl rfl (Nat.le_of_ble_eq_true rfl) dL_march_230) (fun r_11 u_11 h_11 => ?_)
                  subst h_11
                  refine z_ws (st' := [.int (nI (sumk ets kd xx n)), .int (nI ff)]) (ws' := [(ab, .inl (cI, 7, .inl fb)), (ad, .inl (cI, 9, .inl fd')), (ar, .inl (cI, 3, .inl fr2))]) rfl rfl ?_
                  refine z_icmp_ge C (pc := 233) (tgt := 250) dL_march_233 (by decide) (fun c_12 => ?_) (fun c_12 => ?_)
                  · have hge : sumk ets kd xx n ≤ ff := ge_of_nI c_12 (by omega)
                    have hal : ¬ (xx = 0 ∨ ff < sumk ets kd xx n) := fun h => h.elim hx0 (fun h => by omega)
                    refine z_aload_n C (pc := 250) dL_march_250 rfl ?_
                    refine z_iconst C (pc := 251) (v := nI 1) dL_march_251 (by decide) ?_
                    refine z_dup2 C (pc := 252) dL_march_252 rfl rfl ?_
                    have h_13 : vp_in (nI 1) 3 := by exact vp_in_nI (by omega) (by decide)
                    refine z_iald C (pc := 253) 2 rfl h_13 dL_march_253 ?_
                    refine z_seti (y := (fr2 1)) (by rw [nI_clamp (by omega)]) ?_
                    refine z_seti (y := nI ff) h21 ?_
                    refine z_aload_n C (pc := 254) dL_march_254 rfl ?_
                    refine z_aload_n C (pc := 255) dL_march_255 rfl ?_
                    refine z_iconst C (pc := 256) (v := nI 0) dL_march_256 (by decide) ?_
                    have h_14 : vp_in (nI 0) 3 := by exact vp_in_nI (by omega) (by decide)
                    refine z_iald C (pc := 257) 2 rfl h_14 dL_march_257 ?_
                    refine z_seti (y := (fr2 0)) (by rw [nI_clamp (by omega)]) ?_
                    refine z_seti (y := nI xx) h20 ?_
                    refine z_iconst C (pc := 258) (v := nI 1) dL_march_258 (by decide) ?_
                    refine z_calli C (isC := [0]) rfl (by exact fun _ => rfl) (runS C (wc := [(ab, .inl (cI, 7, .inl fb))]) (pc := 259) (rY' := rm 1 21) (nn := 3) (As := [.ref ab, .int (nI xx), .int (nI 1)]) (rest := [.int (nI ff), .int (nI 1), .ref ar]) (g_sumE l D cI tt ab fb kd n hb xx (by omega)) rfl rfl ⟨rfl, rfl, ⟨Nat.le_of_ble_eq_true rfl, Nat.le_of_ble_eq_true rfl⟩, Nat.le_of_ble_eq_true rfl, Nat.le_of_ble_eq_true rfl⟩ wl_L_27 ws_L_sum wi_L wc_L_sum (by decide +kernel) rfl rfl (Nat.le_of_ble_eq_true rfl) dL_march_259) (fun r_15 u_15 h_15 => ?_)
                    subst h_15
                    refine z_ws (st' := [.int (nI (sumk ets kd xx n)), .int (nI ff), .int (nI 1), .ref ar]) (ws' := [(ab, .inl (cI, 7, .inl fb)), (ad, .inl (cI, 9, .inl fd')), (ar, .inl (cI, 3, .inl fr2))]) rfl rfl ?_
                    refine z_isub C (pc := 262) dL_march_262 ?_
                    refine z_seti (y := nI (ff - sumk ets kd xx n)) (pk_sub hge) ?_
                    have h_16 : vp_in (nI 1) 3 := by exact vp_in_nI (by omega) (by decide)
                    refine z_iast C (pc := 263) 2 rfl h_16 (ws' := [(ab, .inl (cI, 7, .inl fb)), (ad, .inl (cI, 9, .inl fd')), (ar, .inl (cI, 3, .inl (upd fr2 1 (nI (ff - sumk ets kd xx n)))))]) (by rw [nI_clamp (by omega)]; rfl) dL_march_263 ?_
                    refine z_iconst C (pc := 264) (v := nI 2) dL_march_264 (by decide) ?_
                    refine z_iload C (pc := 265) dL_march_265 rfl ?_
                    refine z_imul C (pc := 267) dL_march_267 ?_
                    refine z_iload C (pc := 268) dL_march_268 rfl ?_
                    refine z_isub C (pc := 270) dL_march_270 ?_
                    refine z_seti (y := nI (2 * st - (j + 1))) (by rw [show nI 2 * nI st = nI (2 * st) from two_mul_nI st]; exact pk_sub hjl) ?_
                    refine z_istore C (pc := 271) (lv' := [(0, .ref ab), (1, .ref ad), (2, .ref ar), (3, .int (nI x)), (4, .int (nI st)), (5, .int (nI f)), (6, .int (nI (j + 1))), (7, .int (nI (2 * st - (j + 1))))]) dL_march_271 (Nat.le_of_ble_eq_true rfl) rfl rfl ?_
                    refine z_iload C (pc := 273) dL_march_273 rfl ?_
                    refine z_iload C (pc := 275) dL_march_275 rfl ?_
                    refine z_icmp_le C (pc := 277) (tgt := 334) dL_march_277 (by decide) (fun c_17 => ?_) (fun c_17 => ?_)
                    · have hjs : j + 1 ≤ st := (nI_leI (by omega) (by omega)).mp c_17
                      refine z_iinc C (pc := 334) (v := ((nI (j + 1)) + 1)) (lv' := [(0, .ref ab), (1, .ref ad), (2, .ref ar), (3, .int (nI x)), (4, .int (nI st)), (5, .int (nI f)), (6, .int ((nI (j + 1)) + 1)), (7, .int (nI (2 * st - (j + 1))))]) dL_march_334 rfl rfl (Nat.le_of_ble_eq_true rfl) rfl rfl ?_
                      refine z_goto C (pc := 337) (tgt := 36) dL_march_337 (by decide) ?_
                      have hR : (runv kd n st (j + 1) (x, min f (sumk pls kd x n), c, 0)) = (xx, (ff - sumk ets kd xx n), z.2.2.1, 0) := hrs.trans (lwg_out hout hal hjs)
                      refine z_lv (lv' := [(0, .ref ab), (1, .ref ad), (2, .ref ar), (3, .int (nI x)), (4, .int (nI st)), (5, .int (nI f)), (6, .int (nI ((j + 1) + 1)))]) ⟨rfl, rfl, rfl, rfl, rfl, rfl, lki (nI_1 _), trivial⟩ ?_
                      exact ih36 (j + 1) fd' (upd fr2 1 (nI (ff - sumk ets kd xx n))) (by omega) hjl (by rw [hR]) (by rw [hR]; exact (upd_n (by decide)).trans h20) (by rw [hR, upd_s]) ((upd_n (by decide)).trans h22) (by rw [hR]; exact hdv) hfd
                    · have hjs : ¬ j + 1 ≤ st := fun h => c_17 (nI_le h (by omega))
                      refine z_iload C (pc := 280) dL_march_280 rfl ?_
                      refine z_if_ne C (pc := 282) (tgt := 288) dL_march_282 (by decide) (fun c_18 => ?_) (fun c_18 => ?_)
                      · have hq0 : 2 * st - (j + 1) ≠ 0 := nI_nz c_18
                        have hdq : fd' (2 * st - (j + 1)) = nI (z.2.2.1 (2 * st - (j + 1) - 1)) ∧ z.2.2.1 (2 * st - (j + 1) - 1) ≤ 9 := by
                          have := hdv (2 * st - (j + 1) - 1) (by omega)
                          rwa [show 2 * st - (j + 1) - 1 + 1 = 2 * st - (j + 1) by omega] at this
                        have hd9 := hdq.2
                        refine z_aload_n C (pc := 288) dL_march_288 rfl ?_
                        refine z_aload_n C (pc := 289) dL_march_289 rfl ?_
                        refine z_iconst C (pc := 290) (v := nI 0) dL_march_290 (by decide) ?_
                        have h_19 : vp_in (nI 0) 3 := by exact vp_in_nI (by omega) (by decide)
                        refine z_iald C (pc := 291) 2 rfl h_19 dL_march_291 ?_
                        refine z_seti (y := ((upd fr2 1 (nI (ff - sumk ets kd xx n))) 0)) (by rw [nI_clamp (by omega)]) ?_
                        refine z_seti (y := nI xx) ((upd_n (by decide)).trans h20) ?_
                        refine z_iconst C (pc := 292) (v := nI 0) dL_march_292 (by decide) ?_
                        refine z_calli C (isC := [0]) rfl (by exact fun _ => rfl) (runS C (wc := [(ab, .inl (cI, 7, .inl fb))]) (pc := 293) (rY' := rm 1 21) (nn := 3) (As := [.ref ab, .int (nI xx), .int (nI 0)]) (rest := []) (g_sumP l D cI tt ab fb kd n hb xx (by omega)) rfl rfl ⟨rfl, rfl, ⟨Nat.le_of_ble_eq_true rfl, Nat.le_of_ble_eq_true rfl⟩, Nat.le_of_ble_eq_true rfl, Nat.le_of_ble_eq_true rfl⟩ wl_L_27 ws_L_sum wi_L wc_L_sum (by decide +kernel) rfl rfl (Nat.le_of_ble_eq_true rfl) dL_march_293) (fun r_20 u_20 h_20 => ?_)
                        subst h_20
                        refine z_ws (st' := [.int (nI (sumk pls kd xx n))]) (ws' := [(ab, .inl (cI, 7, .inl fb)), (ad, .inl (cI, 9, .inl fd')), (ar, .inl (cI, 3, .inl (upd fr2 1 (nI (ff - sumk ets kd xx n)))))]) rfl rfl ?_
                        refine z_aload_n C (pc := 296) dL_march_296 rfl ?_
                        refine z_iconst C (pc := 297) (v := nI 1) dL_march_297 (by decide) ?_
                        have h_21 : vp_in (nI 1) 3 := by exact vp_in_nI (by omega) (by decide)
                        refine z_iald C (pc := 298) 2 rfl h_21 dL_march_298 ?_
                        refine z_seti (y := ((upd fr2 1 (nI (ff - sumk ets kd xx n))) 1)) (by rw [nI_clamp (by omega)]) ?_
                        refine z_seti (y := nI (ff - sumk ets kd xx n)) upd_s ?_
                        refine z_isub C (pc := 299) dL_march_299 ?_
                        refine z_seti (y := nI (sumk pls kd xx n - (ff - sumk ets kd xx n))) (pk_sub (by omega)) ?_
                        refine z_istore C (pc := 300) (lv' := [(0, .ref ab), (1, .ref ad), (2, .ref ar), (3, .int (nI x)), (4, .int (nI st)), (5, .int (nI f)), (6, .int (nI (j + 1))), (7, .int (nI (2 * st - (j + 1)))), (8, .int (nI (sumk pls kd xx n - (ff - sumk ets kd xx n))))]) dL_march_300 (Nat.le_of_ble_eq_true rfl) rfl rfl ?_
                        refine z_iload C (pc := 302) dL_march_302 rfl ?_
                        refine z_aload_n C (pc := 304) dL_march_304 rfl ?_
                        refine z_iload C (pc := 305) dL_march_305 rfl ?_
                        have h_22 : vp_in (nI (2 * st - (j + 1))) 9 := by exact vp_in_nI (by omega) (by decide)
                        refine z_iald C (pc := 307) 1 rfl h_22 dL_march_307 ?_
                        refine z_seti (y := (fd' (2 * st - (j + 1)))) (by rw [nI_clamp (by omega)]) ?_
                        refine z_seti (y := nI (z.2.2.1 (2 * st - (j + 1) - 1))) hdq.1 ?_
                        refine z_icmp_le C (pc := 308) (tgt := 317) dL_march_308 (by decide) (fun c_23 => ?_) (fun c_23 => ?_)
                        · have hml : sumk pls kd xx n - (ff - sumk ets kd xx n) ≤ z.2.2.1 (2 * st - (j + 1) - 1) := (nI_leI (by omega) (by omega)).mp c_23
                          have hmu : min (z.2.2.1 (2 * st - (j + 1) - 1)) (sumk pls kd xx n - (ff - sumk ets kd xx n)) = sumk pls kd xx n - (ff - sumk ets kd xx n) := Nat.min_eq_right hml
                          refine z_aload_n C (pc := 317) dL_march_317 rfl ?_
                          refine z_iload C (pc := 318) dL_march_318 rfl ?_
                          refine z_dup2 C (pc := 320) dL_march_320 rfl rfl ?_
                          have h_24 : vp_in (nI (2 * st - (j + 1))) 9 := by exact vp_in_nI (by omega) (by decide)
                          refine z_iald C (pc := 321) 1 rfl h_24 dL_march_321 ?_
                          refine z_seti (y := (fd' (2 * st - (j + 1)))) (by rw [nI_clamp (by omega)]) ?_
                          refine z_seti (y := nI (z.2.2.1 (2 * st - (j + 1) - 1))) hdq.1 ?_
                          refine z_iload C (pc := 322) dL_march_322 rfl ?_
                          refine z_isub C (pc := 324) dL_march_324 ?_
                          refine z_seti (y := nI (z.2.2.1 (2 * st - (j + 1) - 1) - (sumk pls kd xx n - (ff - sumk ets kd xx n)))) (pk_sub (by omega)) ?_
                          have h_25 : vp_in (nI (2 * st - (j + 1))) 9 := by exact vp_in_nI (by omega) (by decide)
                          refine z_iast C (pc := 325) 1 rfl h_25 (ws' := [(ab, .inl (cI, 7, .inl fb)), (ad, .inl (cI, 9, .inl (upd fd' (2 * st - (j + 1)) (nI (z.2.2.1 (2 * st - (j + 1) - 1) - (sumk pls kd xx n - (ff - sumk ets kd xx n))))))), (ar, .inl (cI, 3, .inl (upd fr2 1 (nI (ff - sumk ets kd xx n)))))]) (by rw [nI_clamp (by omega)]; rfl) dL_march_325 ?_
                          refine z_aload_n C (pc := 326) dL_march_326 rfl ?_
                          refine z_iconst C (pc := 327) (v := nI 1) dL_march_327 (by decide) ?_
                          refine z_dup2 C (pc := 328) dL_march_328 rfl rfl ?_
                          have h_26 : vp_in (nI 1) 3 := by exact vp_in_nI (by omega) (by decide)
                          refine z_iald C (pc := 329) 2 rfl h_26 dL_march_329 ?_
                          refine z_seti (y := ((upd fr2 1 (nI (ff - sumk ets kd xx n))) 1)) (by rw [nI_clamp (by omega)]) ?_
                          refine z_seti (y := nI (ff - sumk ets kd xx n)) upd_s ?_
                          refine z_iload C (pc := 330) dL_march_330 rfl ?_
                          refine z_iadd C (pc := 332) dL_march_332 ?_
                          refine z_seti (y := nI ((ff - sumk ets kd xx n) + (sumk pls kd xx n - (ff - sumk ets kd xx n)))) (nI_add _ _) ?_
                          have h_27 : vp_in (nI 1) 3 := by exact vp_in_nI (by omega) (by decide)
                          refine z_iast C (pc := 333) 2 rfl h_27 (ws' := [(ab, .inl (cI, 7, .inl fb)), (ad, .inl (cI, 9, .inl (upd fd' (2 * st - (j + 1)) (nI (z.2.2.1 (2 * st - (j + 1) - 1) - (sumk pls kd xx n - (ff - sumk ets kd xx n))))))), (ar, .inl (cI, 3, .inl (upd (upd fr2 1 (nI (ff - sumk ets kd xx n))) 1 (nI ((ff - sumk ets kd xx n) + (sumk pls kd xx n - (ff - sumk ets kd xx n)))))))]) (by rw [nI_clamp (by omega)]; rfl) dL_march_333 ?_
                          refine z_iinc C (pc := 334) (v := ((nI (j + 1)) + 1)) (lv' := [(0, .ref ab), (1, .ref ad), (2, .ref ar), (3, .int (nI x)), (4, .int (nI st)), (5, .int (nI f)), (6, .int ((nI (j + 1)) + 1)), (7, .int (nI (2 * st - (j + 1)))), (8, .int (nI (sumk pls kd xx n - (ff - sumk ets kd xx n))))]) dL_march_334 rfl rfl (Nat.le_of_ble_eq_true rfl) rfl rfl ?_
                          refine z_goto C (pc := 337) (tgt := 36) dL_march_337 (by decide) ?_
                          have hR : (runv kd n st (j + 1) (x, min f (sumk pls kd x n), c, 0)) = (xx, (ff - sumk ets kd xx n + (sumk pls kd xx n - (ff - sumk ets kd xx n))), (upN z.2.2.1 (2 * st - (j + 1) - 1) (z.2.2.1 (2 * st - (j + 1) - 1) - (sumk pls kd xx n - (ff - sumk ets kd xx n)))), 0) := hrs.trans (lwg_home1 hout hal hjs hq0 hmu)
                          refine z_lv (lv' := [(0, .ref ab), (1, .ref ad), (2, .ref ar), (3, .int (nI x)), (4, .int (nI st)), (5, .int (nI f)), (6, .int (nI ((j + 1) + 1)))]) ⟨rfl, rfl, rfl, rfl, rfl, rfl, lki (nI_1 _), trivial⟩ ?_
                          exact ih36 (j + 1) (upd fd' (2 * st - (j + 1)) (nI (z.2.2.1 (2 * st - (j + 1) - 1) - (sumk pls kd xx n - (ff - sumk ets kd xx n))))) (upd (upd fr2 1 (nI (ff - sumk ets kd xx n))) 1 (nI ((ff - sumk ets kd xx n) + (sumk pls kd xx n - (ff - sumk ets kd xx n))))) (by omega) hjl (by rw [hR]) (by rw [hR]; exact (upd_n (by decide)).trans ((upd_n (by decide)).trans h20)) (by rw [hR, upd_s]) ((upd_n (by decide)).trans ((upd_n (by decide)).trans h22)) (by rw [hR]; exact DV_up hdv hq0 (by omega)) (fun k hk => by rw [upd_n (by omega)]; exact hfd k hk)
                        · have hml : z.2.2.1 (2 * st - (j + 1) - 1) ≤ sumk pls kd xx n - (ff - sumk ets kd xx n) := Nat.le_of_not_le (fun h => c_23 (nI_le h (by omega)))
                          have hmu : min (z.2.2.1 (2 * st - (j + 1) - 1)) (sumk pls kd xx n - (ff - sumk ets kd xx n)) = z.2.2.1 (2 * st - (j + 1) - 1) := Nat.min_eq_left hml
                          refine z_aload_n C (pc := 311) dL_march_311 rfl ?_
                          refine z_iload C (pc := 312) dL_march_312 rfl ?_
                          have h_28 : vp_in (nI (2 * st - (j + 1))) 9 := by exact vp_in_nI (by omega) (by decide)
                          refine z_iald C (pc := 314) 1 rfl h_28 dL_march_314 ?_
                          refine z_seti (y := (fd' (2 * st - (j + 1)))) (by rw [nI_clamp (by omega)]) ?_
                          refine z_seti (y := nI (z.2.2.1 (2 * st - (j + 1) - 1))) hdq.1 ?_
                          refine z_istore C (pc := 315) (lv' := [(0, .ref ab), (1, .ref ad), (2, .ref ar), (3, .int (nI x)), (4, .int (nI st)), (5, .int (nI f)), (6, .int (nI (j + 1))), (7, .int (nI (2 * st - (j + 1)))), (8, .int (nI (z.2.2.1 (2 * st - (j + 1) - 1))))]) dL_march_315 (Nat.le_of_ble_eq_true rfl) rfl rfl ?_
                          refine z_aload_n C (pc := 317) dL_march_317 rfl ?_
                          refine z_iload C (pc := 318) dL_march_318 rfl ?_
                          refine z_dup2 C (pc := 320) dL_march_320 rfl rfl ?_
                          have h_29 : vp_in (nI (2 * st - (j + 1))) 9 := by exact vp_in_nI (by omega) (by decide)
                          refine z_iald C (pc := 321) 1 rfl h_29 dL_march_321 ?_
                          refine z_seti (y := (fd' (2 * st - (j + 1)))) (by rw [nI_clamp (by omega)]) ?_
                          refine z_seti (y := nI (z.2.2.1 (2 * st - (j + 1) - 1))) hdq.1 ?_
                          refine z_iload C (pc := 322) dL_march_322 rfl ?_
                          refine z_isub C (pc := 324) dL_march_324 ?_
                          refine z_seti (y := nI (z.2.2.1 (2 * st - (j + 1) - 1) - (z.2.2.1 (2 * st - (j + 1) - 1)))) (pk_sub (by omega)) ?_
                          have h_30 : vp_in (nI (2 * st - (j + 1))) 9 := by exact vp_in_nI (by omega) (by decide)
                          refine z_iast C (pc := 325) 1 rfl h_30 (ws' := [(ab, .inl (cI, 7, .inl fb)), (ad, .inl (cI, 9, .inl (upd fd' (2 * st - (j + 1)) (nI (z.2.2.1 (2 * st - (j + 1) - 1) - (z.2.2.1 (2 * st - (j + 1) - 1))))))), (ar, .inl (cI, 3, .inl (upd fr2 1 (nI (ff - sumk ets kd xx n)))))]) (by rw [nI_clamp (by omega)]; rfl) dL_march_325 ?_
                          refine z_aload_n C (pc := 326) dL_march_326 rfl ?_
                          refine z_iconst C (pc := 327) (v := nI 1) dL_march_327 (by decide) ?_
                          refine z_dup2 C (pc := 328) dL_march_328 rfl rfl ?_
                          have h_31 : vp_in (nI 1) 3 := by exact vp_in_nI (by omega) (by decide)
                          refine z_iald C (pc := 329) 2 rfl h_31 dL_march_329 ?_
                          refine z_seti (y := ((upd fr2 1 (nI (ff - sumk ets kd xx n))) 1)) (by rw [nI_clamp (by omega)]) ?_
                          refine z_seti (y := nI (ff - sumk ets kd xx n)) upd_s ?_
                          refine z_iload C (pc := 330) dL_march_330 rfl ?_
                          refine z_iadd C (pc := 332) dL_march_332 ?_
                          refine z_seti (y := nI ((ff - sumk ets kd xx n) + (z.2.2.1 (2 * st - (j + 1) - 1)))) (nI_add _ _) ?_
                          have h_32 : vp_in (nI 1) 3 := by exact vp_in_nI (by omega) (by decide)
                          refine z_iast C (pc := 333) 2 rfl h_32 (ws' := [(ab, .inl (cI, 7, .inl fb)), (ad, .inl (cI, 9, .inl (upd fd' (2 * st - (j + 1)) (nI (z.2.2.1 (2 * st - (j + 1) - 1) - (z.2.2.1 (2 * st - (j + 1) - 1))))))), (ar, .inl (cI, 3, .inl (upd (upd fr2 1 (nI (ff - sumk ets kd xx n))) 1 (nI ((ff - sumk ets kd xx n) + (z.2.2.1 (2 * st - (j + 1) - 1)))))))]) (by rw [nI_clamp (by omega)]; rfl) dL_march_333 ?_
                          refine z_iinc C (pc := 334) (v := ((nI (j + 1)) + 1)) (lv' := [(0, .ref ab), (1, .ref ad), (2, .ref ar), (3, .int (nI x)), (4, .int (nI st)), (5, .int (nI f)), (6, .int ((nI (j + 1)) + 1)), (7, .int (nI (2 * st - (j + 1)))), (8, .int (nI (z.2.2.1 (2 * st - (j + 1) - 1))))]) dL_march_334 rfl rfl (Nat.le_of_ble_eq_true rfl) rfl rfl ?_
                          refine z_goto C (pc := 337) (tgt := 36) dL_march_337 (by decide) ?_
                          have hR : (runv kd n st (j + 1) (x, min f (sumk pls kd x n), c, 0)) = (xx, (ff - sumk ets kd xx n + (z.2.2.1 (2 * st - (j + 1) - 1))), (upN z.2.2.1 (2 * st - (j + 1) - 1) (z.2.2.1 (2 * st - (j + 1) - 1) - (z.2.2.1 (2 * st - (j + 1) - 1)))), 0) := hrs.trans (lwg_home1 hout hal hjs hq0 hmu)
                          refine z_lv (lv' := [(0, .ref ab), (1, .ref ad), (2, .ref ar), (3, .int (nI x)), (4, .int (nI st)), (5, .int (nI f)), (6, .int (nI ((j + 1) + 1)))]) ⟨rfl, rfl, rfl, rfl, rfl, rfl, lki (nI_1 _), trivial⟩ ?_
                          exact ih36 (j + 1) (upd fd' (2 * st - (j + 1)) (nI (z.2.2.1 (2 * st - (j + 1) - 1) - (z.2.2.1 (2 * st - (j + 1) - 1))))) (upd (upd fr2 1 (nI (ff - sumk ets kd xx n))) 1 (nI ((ff - sumk ets kd xx n) + (z.2.2.1 (2 * st - (j + 1) - 1))))) (by omega) hjl (by rw [hR]) (by rw [hR]; exact (upd_n (by decide)).trans ((upd_n (by decide)).trans h20)) (by rw [hR, upd_s]) ((upd_n (by decide)).trans ((upd_n (by decide)).trans h22)) (by rw [hR]; exact DV_up hdv hq0 (by omega)) (fun k hk => by rw [upd_n (by omega)]; exact hfd k hk)
                      · have hq0 : 2 * st - (j + 1) = 0 := nI_z (by omega) c_18
                        refine z_goto C (pc := 285) (tgt := 334) dL_march_285 (by decide) ?_
                        refine z_iinc C (pc := 334) (v := ((nI (j + 1)) + 1)) (lv' := [(0, .ref ab), (1, .ref ad), (2, .ref ar), (3, .int (nI x)), (4, .int (nI st)), (5, .int (nI f)), (6, .int ((nI (j + 1)) + 1)), (7, .int (nI (2 * st - (j + 1))))]) dL_march_334 rfl rfl (Nat.le_of_ble_eq_true rfl) rfl rfl ?_
                        refine z_goto C (pc := 337) (tgt := 36) dL_march_337 (by decide) ?_
                        have hR : (runv kd n st (j + 1) (x, min f (sumk pls kd x n), c, 0)) = (xx, (ff - sumk ets kd xx n), z.2.2.1, 0) := hrs.trans (lwg_home0 hout hal hjs hq0)
                        refine z_lv (lv' := [(0, .ref ab), (1, .ref ad), (2, .ref ar), (3, .int (nI x)), (4, .int (nI st)), (5, .int (nI f)), (6, .int (nI ((j + 1) + 1)))]) ⟨rfl, rfl, rfl, rfl, rfl, rfl, lki (nI_1 _), trivial⟩ ?_
                        exact ih36 (j + 1) fd' (upd fr2 1 (nI (ff - sumk ets kd xx n))) (by omega) hjl (by rw [hR]) (by rw [hR]; exact (upd_n (by decide)).trans h20) (by rw [hR, upd_s]) ((upd_n (by decide)).trans h22) (by rw [hR]; exact hdv) hfd
                  · have hdd : xx = 0 ∨ ff < sumk ets kd xx n := Or.inr (lt_of_nI c_12 (by omega))
                    refine z_aload_n C (pc := 236) dL_march_236 rfl ?_
                    refine z_iconst C (pc := 237) (v := nI 0) dL_march_237 (by decide) ?_
                    refine z_iconst C (pc := 238) (v := nI 0) dL_march_238 (by decide) ?_
                    have h_33 : vp_in (nI 0) 3 := by exact vp_in_nI (by omega) (by decide)
                    refine z_iast C (pc := 239) 2 rfl h_33 (ws' := [(ab, .inl (cI, 7, .inl fb)), (ad, .inl (cI, 9, .inl fd')), (ar, .inl (cI, 3, .inl (upd fr2 0 (nI 0))))]) (by rw [nI_clamp (by omega)]; rfl) dL_march_239 ?_
                    refine z_aload_n C (pc := 240) dL_march_240 rfl ?_
                    refine z_iconst C (pc := 241) (v := nI 1) dL_march_241 (by decide) ?_
                    refine z_iconst C (pc := 242) (v := nI 0) dL_march_242 (by decide) ?_
                    have h_34 : vp_in (nI 1) 3 := by exact vp_in_nI (by omega) (by decide)
                    refine z_iast C (pc := 243) 2 rfl h_34 (ws' := [(ab, .inl (cI, 7, .inl fb)), (ad, .inl (cI, 9, .inl fd')), (ar, .inl (cI, 3, .inl (upd (upd fr2 0 (nI 0)) 1 (nI 0))))]) (by rw [nI_clamp (by omega)]; rfl) dL_march_243 ?_
                    refine z_aload_n C (pc := 244) dL_march_244 rfl ?_
                    refine z_iconst C (pc := 245) (v := nI 2) dL_march_245 (by decide) ?_
                    refine z_iload C (pc := 246) dL_march_246 rfl ?_
                    have h_35 : vp_in (nI 2) 3 := by exact vp_in_nI (by omega) (by decide)
                    refine z_iast C (pc := 248) 2 rfl h_35 (ws' := [(ab, .inl (cI, 7, .inl fb)), (ad, .inl (cI, 9, .inl fd')), (ar, .inl (cI, 3, .inl (upd (upd (upd fr2 0 (nI 0)) 1 (nI 0)) 2 (nI (j + 1)))))]) (by rw [nI_clamp (by omega)]; rfl) dL_march_248 ?_
                    refine z_vret C (pc := 249) (fd', (upd (upd (upd fr2 0 (nI 0)) 1 (nI 0)) 2 (nI (j + 1)))) dL_march_249 ?_ rfl
                    have hR : (runv kd n st (j + 1) (x, min f (sumk pls kd x n), c, 0)) = (0, 0, z.2.2.1, j + 1) := hrs.trans (lwg_dead hout hdd)
                    have hm : (marv kd n x st f c) = (0, 0, z.2.2.1, j + 1) := (mar_end hjl (by rw [hR]; exact Nat.succ_ne_zero j)).trans hR
                    rw [hm]
                    exact ⟨by simp [upd], by simp [upd], by simp [upd], hdv, hfd⟩
              · have hs2 : sn < 2 := lt_of_nI (n := 2) c_3 (by omega)
                refine z_aload_n C (pc := 54) dL_march_54 rfl ?_
                refine z_iconst C (pc := 55) (v := nI 0) dL_march_55 (by decide) ?_
                have h_36 : vp_in (nI 0) 7 := by exact vp_in_nI (by omega) (by decide)
                refine z_iald C (pc := 56) 0 rfl h_36 dL_march_56 ?_
                refine z_seti (y := (fb 0)) (by rw [nI_clamp (by omega)]) ?_
                refine z_seti (y := nI n) hb.1 ?_
                refine z_iconst C (pc := 57) (v := nI 1) dL_march_57 (by decide) ?_
                refine z_isub C (pc := 58) dL_march_58 ?_
                refine z_seti (y := nI n - 1) rfl ?_
                refine z_istore C (pc := 59) (lv' := [(0, .ref ab), (1, .ref ad), (2, .ref ar), (3, .int (nI x)), (4, .int (nI st)), (5, .int (nI f)), (6, .int (nI (j + 1))), (7, .int (nI sn)), (8, .int (nI n - 1))]) dL_march_59 (Nat.le_of_ble_eq_true rfl) rfl rfl ?_
                have key61 : ∀ (fu61 : Nat) (m xx ff : Nat) (fr2 : Nat → Int32), m < fu61 → (m ≤ n) → (fr2 0 = nI xx) → (fr2 1 = nI ff) → (fr2 2 = nI 0) → (OK kd n xx ff) → (pvS kd n st (j + 1) sn m (xx, ff) = svS kd n st (j + 1) (sn + 1) (z.1, z.2.1)) → Z pP l eE (rm 2 45) sS mM aV bB mE cC D AA 10 0 0 (MQ bB (va_Qv (S := ((Nat → Int32) × (Nat → Int32))) (fun u => LM fd u.1 u.2 (marv kd n x st f c)) (fun u t => va_P D vwCl ((fun u => [(ab, .inl (cI, 7, .inl fb)), (ad, .inl (cI, 9, .inl u.1)), (ar, .inl (cI, 3, .inl u.2))]) u) t.heap) AA) aV sS 0 0 AA) 61 [(0, .ref ab), (1, .ref ad), (2, .ref ar), (3, .int (nI x)), (4, .int (nI st)), (5, .int (nI f)), (6, .int (nI (j + 1))), (7, .int (nI sn)), (8, .int (nI m - 1))] [] [(ab, .inl (cI, 7, .inl fb)), (ad, .inl (cI, 9, .inl fd')), (ar, .inl (cI, 3, .inl fr2))] := by
                  intro fu61
                  induction fu61 with
                  | zero => intro m xx ff fr2 hfu61; exact absurd hfu61 (Nat.not_lt_zero _)
                  | succ fu61 ih61 =>
                    intro m xx ff fr2 hfu61 hm h20 h21 h22 hok heq
                    refine z_iload C (pc := 61) dL_march_61 rfl ?_
                    refine z_if_lt C (pc := 63) (tgt := 210) dL_march_63 (by decide) (fun c_37 => ?_) (fun c_37 => ?_)
                    · have hm0 := (neg_pred m (by omega)).mp c_37
                      subst hm0
                      refine z_iinc C (pc := 210) (v := ((nI sn) + 1)) (lv' := [(0, .ref ab), (1, .ref ad), (2, .ref ar), (3, .int (nI x)), (4, .int (nI st)), (5, .int (nI f)), (6, .int (nI (j + 1))), (7, .int ((nI sn) + 1)), (8, .int (nI 0 - 1))]) dL_march_210 rfl rfl (Nat.le_of_ble_eq_true rfl) rfl rfl ?_
                      refine z_goto C (pc := 213) (tgt := 48) dL_march_213 (by decide) ?_
                      refine z_lv (lv' := [(0, .ref ab), (1, .ref ad), (2, .ref ar), (3, .int (nI x)), (4, .int (nI st)), (5, .int (nI f)), (6, .int (nI (j + 1))), (7, .int (nI (sn + 1)))]) ⟨rfl, rfl, rfl, rfl, rfl, rfl, rfl, lki (nI_1 _), trivial⟩ ?_
                      exact ih48 (sn + 1) xx ff fr2 (by omega) hs2 h20 h21 h22 hok (pv_0.symm.trans heq)
                    · obtain ⟨k, rfl⟩ : ∃ k, m = k + 1 := ⟨m - 1, by have hm0 : m ≠ 0 := (fun h => c_37 ((neg_pred m (by omega)).mpr h)); omega⟩
                      refine z_lv (lv' := [(0, .ref ab), (1, .ref ad), (2, .ref ar), (3, .int (nI x)), (4, .int (nI st)), (5, .int (nI f)), (6, .int (nI (j + 1))), (7, .int (nI sn)), (8, .int (nI k))]) ⟨rfl, rfl, rfl, rfl, rfl, rfl, rfl, rfl, lki (nI_pred k), trivial⟩ ?_
                      have hk : k < n := by omega
                      have hbk := hb.2.2 k hk
                      have hxl := hok.1
                      have hfl := hok.2
                      have hpp := pl_le (kd := kd) (x := xx) hn6
                      have hee := et_le (kd := kd) (x := xx) hn6
                      have join135 : ∀ (w : Int32), ((w = nI 1 ∧ isv kd n st (j + 1) sn k (xx, ff)) ∨ (w = nI 0 ∧ ¬ isv kd n st (j + 1) sn k (xx, ff))) → Z pP l eE (rm 2 45) sS mM aV bB mE cC D AA 10 0 0 (MQ bB (va_Qv (S := ((Nat → Int32) × (Nat → Int32))) (fun u => LM fd u.1 u.2 (marv kd n x st f c)) (fun u t => va_P D vwCl ((fun u => [(ab, .inl (cI, 7, .inl fb)), (ad, .inl (cI, 9, .inl u.1)), (ar, .inl (cI, 3, .inl u.2))]) u) t.heap) AA) aV sS 0 0 AA) 135 [(0, .ref ab), (1, .ref ad), (2, .ref ar), (3, .int (nI x)), (4, .int (nI st)), (5, .int (nI f)), (6, .int (nI (j + 1))), (7, .int (nI sn)), (8, .int (nI k)), (9, .int w)] [] [(ab, .inl (cI, 7, .inl fb)), (ad, .inl (cI, 9, .inl fd')), (ar, .inl (cI, 3, .inl fr2))] := by
                        intro w hw
                        refine z_aload_n C (pc := 135) dL_march_135 rfl ?_
                        refine z_iconst C (pc := 136) (v := nI 0) dL_march_136 (by decide) ?_
                        have h_38 : vp_in (nI 0) 3 := by exact vp_in_nI (by omega) (by decide)
                        refine z_iald C (pc := 137) 2 rfl h_38 dL_march_137 ?_
                        refine z_seti (y := (fr2 0)) (by rw [nI_clamp (by omega)]) ?_
                        refine z_seti (y := nI xx) h20 ?_
                        refine z_iload C (pc := 138) dL_march_138 rfl ?_
                        refine z_calli C (isC := []) rfl (by exact fun _ => rfl) (runS C (wc := []) (pc := 140) (rY' := rm 0 0) (nn := 2) (As := [.int (nI xx), .int (nI k)]) (rest := []) (g_in l D cI tt xx k (by omega) (by omega)) rfl rfl ⟨rfl, rfl, ⟨Nat.le_of_ble_eq_true rfl, Nat.le_of_ble_eq_true rfl⟩, Nat.le_of_ble_eq_true rfl, Nat.le_of_ble_eq_true rfl⟩ wl_L_20 ws_L_in wi_L wc_L_in (by decide +kernel) rfl rfl (Nat.le_of_ble_eq_true rfl) dL_march_140) (fun r_39 u_39 h_39 => ?_)
                        subst h_39
                        refine z_ws (st' := [.int (b2 (inv xx k))]) (ws' := [(ab, .inl (cI, 7, .inl fb)), (ad, .inl (cI, 9, .inl fd')), (ar, .inl (cI, 3, .inl fr2))]) rfl rfl ?_
                        refine z_if_eq C (pc := 143) (tgt := 204) dL_march_143 (by decide) (fun c_40 => ?_) (fun c_40 => ?_)
                        · have hbt : ¬ bt (xx, ff).1 k = 1 := of_decide_eq_false (b2_f c_40)
                          refine z_iinc C (pc := 204) (v := ((nI k) + (-1))) (lv' := [(0, .ref ab), (1, .ref ad), (2, .ref ar), (3, .int (nI x)), (4, .int (nI st)), (5, .int (nI f)), (6, .int (nI (j + 1))), (7, .int (nI sn)), (8, .int ((nI k) + (-1))), (9, .int w)]) dL_march_204 rfl rfl (Nat.le_of_ble_eq_true rfl) rfl rfl ?_
                          refine z_goto C (pc := 207) (tgt := 61) dL_march_207 (by decide) ?_
                          refine z_lv (lv' := [(0, .ref ab), (1, .ref ad), (2, .ref ar), (3, .int (nI x)), (4, .int (nI st)), (5, .int (nI f)), (6, .int (nI (j + 1))), (7, .int (nI sn)), (8, .int (nI k - 1))]) ⟨rfl, rfl, rfl, rfl, rfl, rfl, rfl, rfl, lki (add_m1 _), trivial⟩ ?_
                          exact ih61 k xx ff fr2 (by omega) (by omega) h20 h21 h22 hok ((pv_bt hbt).symm.trans heq)
                        · have hbt : bt xx k = 1 := of_decide_eq_true (b2_t c_40)
                          have hx64 : xx < 64 := by omega
                          have hbl := bit_le xx hx64 k (by omega) hbt
                          have h2k := Nat.two_pow_pos k
                          refine z_iload C (pc := 146) dL_march_146 rfl ?_
                          refine z_if_ne C (pc := 148) (tgt := 154) dL_march_148 (by decide) (fun c_41 => ?_) (fun c_41 => ?_)
                          · have his : isv kd n st (j + 1) sn k (xx, ff) := hw.elim (fun h => h.2) (fun h => absurd h.1 c_41)
                            refine z_aload_n C (pc := 154) dL_march_154 rfl ?_
                            refine z_iconst C (pc := 155) (v := nI 0) dL_march_155 (by decide) ?_
                            refine z_dup2 C (pc := 156) dL_march_156 rfl rfl ?_
                            have h_42 : vp_in (nI 0) 3 := by exact vp_in_nI (by omega) (by decide)
                            refine z_iald C (pc := 157) 2 rfl h_42 dL_march_157 ?_
                            refine z_seti (y := (fr2 0)) (by rw [nI_clamp (by omega)]) ?_
                            refine z_seti (y := nI xx) h20 ?_
                            refine z_iconst C (pc := 158) (v := nI 1) dL_march_158 (by decide) ?_
                            refine z_iload C (pc := 159) dL_march_159 rfl ?_
                            refine z_ishl C (pc := 161) dL_march_161 ?_
                            refine z_isub C (pc := 162) dL_march_162 ?_
                            refine z_seti (y := nI (xx - 2 ^ k)) (sub_bit xx hx64 k (by omega) hbt) ?_
                            have h_43 : vp_in (nI 0) 3 := by exact vp_in_nI (by omega) (by decide)
                            refine z_iast C (pc := 163) 2 rfl h_43 (ws' := [(ab, .inl (cI, 7, .inl fb)), (ad, .inl (cI, 9, .inl fd')), (ar, .inl (cI, 3, .inl (upd fr2 0 (nI (xx - 2 ^ k)))))]) (by rw [nI_clamp (by omega)]; rfl) dL_march_163 ?_
                            refine z_aload_n C (pc := 164) dL_march_164 rfl ?_
                            refine z_iconst C (pc := 165) (v := nI 1) dL_march_165 (by decide) ?_
                            refine z_dup2 C (pc := 166) dL_march_166 rfl rfl ?_
                            have h_44 : vp_in (nI 1) 3 := by exact vp_in_nI (by omega) (by decide)
                            refine z_iald C (pc := 167) 2 rfl h_44 dL_march_167 ?_
                            refine z_seti (y := ((upd fr2 0 (nI (xx - 2 ^ k))) 1)) (by rw [nI_clamp (by omega)]) ?_
                            refine z_seti (y := nI ff) ((upd_n (by decide)).trans h21) ?_
                            refine z_aload_n C (pc := 168) dL_march_168 rfl ?_
                            refine z_iconst C (pc := 169) (v := nI 1) dL_march_169 (by decide) ?_
                            refine z_iload C (pc := 170) dL_march_170 rfl ?_
                            refine z_iadd C (pc := 172) dL_march_172 ?_
                            refine z_seti (y := nI (1 + k)) (nI_add _ _) ?_
                            have h_45 : vp_in (nI (1 + k)) 7 := by exact vp_in_nI (by omega) (by decide)
                            refine z_iald C (pc := 173) 0 rfl h_45 dL_march_173 ?_
                            refine z_seti (y := (fb (1 + k))) (by rw [nI_clamp (by omega)]) ?_
                            refine z_seti (y := nI (kd k)) (by rw [Nat.add_comm]; exact hbk.1) ?_
                            refine z_calli C (isC := []) rfl (by exact fun _ => rfl) (runS C (wc := []) (pc := 174) (rY' := rm 0 0) (nn := 1) (As := [.int (nI (kd k))]) (rest := [.int (nI ff), .int (nI 1), .ref ar]) (g_feeds l D cI tt (kd k) hbk.2) rfl rfl ⟨rfl, rfl, ⟨Nat.le_of_ble_eq_true rfl, Nat.le_of_ble_eq_true rfl⟩, Nat.le_of_ble_eq_true rfl, Nat.le_of_ble_eq_true rfl⟩ wl_L_31 ws_L_feeds wi_L wc_L_feeds (by decide +kernel) rfl rfl (Nat.le_of_ble_eq_true rfl) dL_march_174) (fun r_46 u_46 h_46 => ?_)
                            subst h_46
                            refine z_ws (st' := [.int (nI (fds (kd k))), .int (nI ff), .int (nI 1), .ref ar]) (ws' := [(ab, .inl (cI, 7, .inl fb)), (ad, .inl (cI, 9, .inl fd')), (ar, .inl (cI, 3, .inl (upd fr2 0 (nI (xx - 2 ^ k)))))]) rfl rfl ?_
                            refine z_iadd C (pc := 177) dL_march_177 ?_
                            refine z_seti (y := nI (ff + (fds (kd k)))) (nI_add _ _) ?_
                            have h_47 : vp_in (nI 1) 3 := by exact vp_in_nI (by omega) (by decide)
                            refine z_iast C (pc := 178) 2 rfl h_47 (ws' := [(ab, .inl (cI, 7, .inl fb)), (ad, .inl (cI, 9, .inl fd')), (ar, .inl (cI, 3, .inl (upd (upd fr2 0 (nI (xx - 2 ^ k))) 1 (nI (ff + (fds (kd k)))))))]) (by rw [nI_clamp (by omega)]; rfl) dL_march_178 ?_
                            have hp2 := pl_le (kd := kd) (x := xx - 2 ^ k) hn6
                            have hfd6 := fds_le (kd k)
                            refine z_aload_n C (pc := 179) dL_march_179 rfl ?_
                            refine z_iconst C (pc := 180) (v := nI 1) dL_march_180 (by decide) ?_
                            have h_48 : vp_in (nI 1) 3 := by exact vp_in_nI (by omega) (by decide)
                            refine z_iald C (pc := 181) 2 rfl h_48 dL_march_181 ?_
                            refine z_seti (y := ((upd (upd fr2 0 (nI (xx - 2 ^ k))) 1 (nI (ff + (fds (kd k))))) 1)) (by rw [nI_clamp (by omega)]) ?_
                            refine z_seti (y := nI (ff + fds (kd k))) upd_s ?_
                            refine z_aload_n C (pc := 182) dL_march_182 rfl ?_
                            refine z_aload_n C (pc := 183) dL_march_183 rfl ?_
                            refine z_iconst C (pc := 184) (v := nI 0) dL_march_184 (by decide) ?_
                            have h_49 : vp_in (nI 0) 3 := by exact vp_in_nI (by omega) (by decide)
                            refine z_iald C (pc := 185) 2 rfl h_49 dL_march_185 ?_
                            refine z_seti (y := ((upd (upd fr2 0 (nI (xx - 2 ^ k))) 1 (nI (ff + (fds (kd k))))) 0)) (by rw [nI_clamp (by omega)]) ?_
                            refine z_seti (y := nI (xx - 2 ^ k)) ((upd_n (by decide)).trans upd_s) ?_
                            refine z_iconst C (pc := 186) (v := nI 0) dL_march_186 (by decide) ?_
                            refine z_calli C (isC := [0]) rfl (by exact fun _ => rfl) (runS C (wc := [(ab, .inl (cI, 7, .inl fb))]) (pc := 187) (rY' := rm 1 21) (nn := 3) (As := [.ref ab, .int (nI (xx - 2 ^ k)), .int (nI 0)]) (rest := [.int (nI (ff + fds (kd k)))]) (g_sumP l D cI tt ab fb kd n hb (xx - 2 ^ k) (by omega)) rfl rfl ⟨rfl, rfl, ⟨Nat.le_of_ble_eq_true rfl, Nat.le_of_ble_eq_true rfl⟩, Nat.le_of_ble_eq_true rfl, Nat.le_of_ble_eq_true rfl⟩ wl_L_27 ws_L_sum wi_L wc_L_sum (by decide +kernel) rfl rfl (Nat.le_of_ble_eq_true rfl) dL_march_187) (fun r_50 u_50 h_50 => ?_)
                            subst h_50
                            refine z_ws (st' := [.int (nI (sumk pls kd (xx - 2 ^ k) n)), .int (nI (ff + fds (kd k)))]) (ws' := [(ab, .inl (cI, 7, .inl fb)), (ad, .inl (cI, 9, .inl fd')), (ar, .inl (cI, 3, .inl (upd (upd fr2 0 (nI (xx - 2 ^ k))) 1 (nI (ff + (fds (kd k)))))))]) rfl rfl ?_
                            refine z_icmp_le C (pc := 190) (tgt := 204) dL_march_190 (by decide) (fun c_51 => ?_) (fun c_51 => ?_)
                            · have hle : ff + fds (kd k) ≤ sumk pls kd (xx - 2 ^ k) n := (nI_leI (by omega) (by omega)).mp c_51
                              have hmn : min (ff + fds (kd k)) (sumk pls kd (xx - 2 ^ k) n) = ff + fds (kd k) := Nat.min_eq_left hle
                              refine z_iinc C (pc := 204) (v := ((nI k) + (-1))) (lv' := [(0, .ref ab), (1, .ref ad), (2, .ref ar), (3, .int (nI x)), (4, .int (nI st)), (5, .int (nI f)), (6, .int (nI (j + 1))), (7, .int (nI sn)), (8, .int ((nI k) + (-1))), (9, .int w)]) dL_march_204 rfl rfl (Nat.le_of_ble_eq_true rfl) rfl rfl ?_
                              refine z_goto C (pc := 207) (tgt := 61) dL_march_207 (by decide) ?_
                              have hdev : dev kd n k (xx, ff) = (xx - 2 ^ k, ff + fds (kd k)) := by
                                unfold dev
                                rw [if_pos hbt]
                                show (xx - 2 ^ k, min (ff + fds (kd k)) (sumk pls kd (xx - 2 ^ k) n)) = _
                                rw [hmn]
                              have hok2 : OK kd n (xx - 2 ^ k) (ff + fds (kd k)) := by
                                have := dev_ok (s := (xx, ff)) hn6 hk hok
                                rw [hdev] at this
                                exact this
                              refine z_lv (lv' := [(0, .ref ab), (1, .ref ad), (2, .ref ar), (3, .int (nI x)), (4, .int (nI st)), (5, .int (nI f)), (6, .int (nI (j + 1))), (7, .int (nI sn)), (8, .int (nI k - 1))]) ⟨rfl, rfl, rfl, rfl, rfl, rfl, rfl, rfl, lki (add_m1 _), trivial⟩ ?_
                              exact ih61 k (xx - 2 ^ k) (ff + fds (kd k)) (upd (upd fr2 0 (nI (xx - 2 ^ k))) 1 (nI (ff + (fds (kd k))))) (by omega) (by omega) ((upd_n (by decide)).trans upd_s) upd_s ((upd_n (by decide)).trans ((upd_n (by decide)).trans h22)) hok2 (by rw [← hdev]; exact (pv_dev his).symm.trans heq)
                            · have hle : sumk pls kd (xx - 2 ^ k) n ≤ ff + fds (kd k) := Nat.le_of_not_le (fun h => c_51 (nI_le h (by omega)))
                              have hmn : min (ff + fds (kd k)) (sumk pls kd (xx - 2 ^ k) n) = sumk pls kd (xx - 2 ^ k) n := Nat.min_eq_right hle
                              refine z_aload_n C (pc := 193) dL_march_193 rfl ?_
                              refine z_iconst C (pc := 194) (v := nI 1) dL_march_194 (by decide) ?_
                              refine z_aload_n C (pc := 195) dL_march_195 rfl ?_
                              refine z_aload_n C (pc := 196) dL_march_196 rfl ?_
                              refine z_iconst C (pc := 197) (v := nI 0) dL_march_197 (by decide) ?_
                              have h_52 : vp_in (nI 0) 3 := by exact vp_in_nI (by omega) (by decide)
                              refine z_iald C (pc := 198) 2 rfl h_52 dL_march_198 ?_
                              refine z_seti (y := ((upd (upd fr2 0 (nI (xx - 2 ^ k))) 1 (nI (ff + (fds (kd k))))) 0)) (by rw [nI_clamp (by omega)]) ?_
                              refine z_seti (y := nI (xx - 2 ^ k)) ((upd_n (by decide)).trans upd_s) ?_
                              refine z_iconst C (pc := 199) (v := nI 0) dL_march_199 (by decide) ?_
                              refine z_calli C (isC := [0]) rfl (by exact fun _ => rfl) (runS C (wc := [(ab, .inl (cI, 7, .inl fb))]) (pc := 200) (rY' := rm 1 21) (nn := 3) (As := [.ref ab, .int (nI (xx - 2 ^ k)), .int (nI 0)]) (rest := [.int (nI 1), .ref ar]) (g_sumP l D cI tt ab fb kd n hb (xx - 2 ^ k) (by omega)) rfl rfl ⟨rfl, rfl, ⟨Nat.le_of_ble_eq_true rfl, Nat.le_of_ble_eq_true rfl⟩, Nat.le_of_ble_eq_true rfl, Nat.le_of_ble_eq_true rfl⟩ wl_L_27 ws_L_sum wi_L wc_L_sum (by decide +kernel) rfl rfl (Nat.le_of_ble_eq_true rfl) dL_march_200) (fun r_53 u_53 h_53 => ?_)
                              subst h_53
                              refine z_ws (st' := [.int (nI (sumk pls kd (xx - 2 ^ k) n)), .int (nI 1), .ref ar]) (ws' := [(ab, .inl (cI, 7, .inl fb)), (ad, .inl (cI, 9, .inl fd')), (ar, .inl (cI, 3, .inl (upd (upd fr2 0 (nI (xx - 2 ^ k))) 1 (nI (ff + (fds (kd k)))))))]) rfl rfl ?_
                              have h_54 : vp_in (nI 1) 3 := by exact vp_in_nI (by omega) (by decide)
                              refine z_iast C (pc := 203) 2 rfl h_54 (ws' := [(ab, .inl (cI, 7, .inl fb)), (ad, .inl (cI, 9, .inl fd')), (ar, .inl (cI, 3, .inl (upd (upd (upd fr2 0 (nI (xx - 2 ^ k))) 1 (nI (ff + (fds (kd k))))) 1 (nI (sumk pls kd (xx - 2 ^ k) n)))))]) (by rw [nI_clamp (by omega)]; rfl) dL_march_203 ?_
                              refine z_iinc C (pc := 204) (v := ((nI k) + (-1))) (lv' := [(0, .ref ab), (1, .ref ad), (2, .ref ar), (3, .int (nI x)), (4, .int (nI st)), (5, .int (nI f)), (6, .int (nI (j + 1))), (7, .int (nI sn)), (8, .int ((nI k) + (-1))), (9, .int w)]) dL_march_204 rfl rfl (Nat.le_of_ble_eq_true rfl) rfl rfl ?_
                              refine z_goto C (pc := 207) (tgt := 61) dL_march_207 (by decide) ?_
                              have hdev : dev kd n k (xx, ff) = (xx - 2 ^ k, sumk pls kd (xx - 2 ^ k) n) := by
                                unfold dev
                                rw [if_pos hbt]
                                show (xx - 2 ^ k, min (ff + fds (kd k)) (sumk pls kd (xx - 2 ^ k) n)) = _
                                rw [hmn]
                              have hok2 : OK kd n (xx - 2 ^ k) (sumk pls kd (xx - 2 ^ k) n) := by
                                have := dev_ok (s := (xx, ff)) hn6 hk hok
                                rw [hdev] at this
                                exact this
                              refine z_lv (lv' := [(0, .ref ab), (1, .ref ad), (2, .ref ar), (3, .int (nI x)), (4, .int (nI st)), (5, .int (nI f)), (6, .int (nI (j + 1))), (7, .int (nI sn)), (8, .int (nI k - 1))]) ⟨rfl, rfl, rfl, rfl, rfl, rfl, rfl, rfl, lki (add_m1 _), trivial⟩ ?_
                              exact ih61 k (xx - 2 ^ k) (sumk pls kd (xx - 2 ^ k) n) (upd (upd (upd fr2 0 (nI (xx - 2 ^ k))) 1 (nI (ff + (fds (kd k))))) 1 (nI (sumk pls kd (xx - 2 ^ k) n))) (by omega) (by omega) ((upd_n (by decide)).trans ((upd_n (by decide)).trans upd_s)) upd_s ((upd_n (by decide)).trans ((upd_n (by decide)).trans ((upd_n (by decide)).trans h22))) hok2 (by rw [← hdev]; exact (pv_dev his).symm.trans heq)
                          · have hni : ¬ isv kd n st (j + 1) sn k (xx, ff) := hw.elim (fun h => absurd (h.1.symm.trans c_41) (by decide)) (fun h => h.2)
                            refine z_goto C (pc := 151) (tgt := 204) dL_march_151 (by decide) ?_
                            refine z_iinc C (pc := 204) (v := ((nI k) + (-1))) (lv' := [(0, .ref ab), (1, .ref ad), (2, .ref ar), (3, .int (nI x)), (4, .int (nI st)), (5, .int (nI f)), (6, .int (nI (j + 1))), (7, .int (nI sn)), (8, .int ((nI k) + (-1))), (9, .int w)]) dL_march_204 rfl rfl (Nat.le_of_ble_eq_true rfl) rfl rfl ?_
                            refine z_goto C (pc := 207) (tgt := 61) dL_march_207 (by decide) ?_
                            refine z_lv (lv' := [(0, .ref ab), (1, .ref ad), (2, .ref ar), (3, .int (nI x)), (4, .int (nI st)), (5, .int (nI f)), (6, .int (nI (j + 1))), (7, .int (nI sn)), (8, .int (nI k - 1))]) ⟨rfl, rfl, rfl, rfl, rfl, rfl, rfl, rfl, lki (add_m1 _), trivial⟩ ?_
                            exact ih61 k xx ff fr2 (by omega) (by omega) h20 h21 h22 hok ((pv_not hni).symm.trans heq)
                      refine z_iload C (pc := 66) dL_march_66 rfl ?_
                      refine z_if_ne C (pc := 68) (tgt := 102) dL_march_68 (by decide) (fun c_55 => ?_) (fun c_55 => ?_)
                      · have hs0 : ¬ sn = 0 := nI_nz c_55
                        refine z_aload_n C (pc := 102) dL_march_102 rfl ?_
                        refine z_iconst C (pc := 103) (v := nI 1) dL_march_103 (by decide) ?_
                        refine z_iload C (pc := 104) dL_march_104 rfl ?_
                        refine z_iadd C (pc := 106) dL_march_106 ?_
                        refine z_seti (y := nI (1 + k)) (nI_add _ _) ?_
                        have h_56 : vp_in (nI (1 + k)) 7 := by exact vp_in_nI (by omega) (by decide)
                        refine z_iald C (pc := 107) 0 rfl h_56 dL_march_107 ?_
                        refine z_seti (y := (fb (1 + k))) (by rw [nI_clamp (by omega)]) ?_
                        refine z_seti (y := nI (kd k)) (by rw [Nat.add_comm]; exact hbk.1) ?_
                        refine z_calli C (isC := []) rfl (by exact fun _ => rfl) (runS C (wc := []) (pc := 108) (rY' := rm 0 0) (nn := 1) (As := [.int (nI (kd k))]) (rest := []) (g_feeds l D cI tt (kd k) hbk.2) rfl rfl ⟨rfl, rfl, ⟨Nat.le_of_ble_eq_true rfl, Nat.le_of_ble_eq_true rfl⟩, Nat.le_of_ble_eq_true rfl, Nat.le_of_ble_eq_true rfl⟩ wl_L_31 ws_L_feeds wi_L wc_L_feeds (by decide +kernel) rfl rfl (Nat.le_of_ble_eq_true rfl) dL_march_108) (fun r_57 u_57 h_57 => ?_)
                        subst h_57
                        refine z_ws (st' := [.int (nI (fds (kd k)))]) (ws' := [(ab, .inl (cI, 7, .inl fb)), (ad, .inl (cI, 9, .inl fd')), (ar, .inl (cI, 3, .inl fr2))]) rfl rfl ?_
                        refine z_if_le C (pc := 111) (tgt := 132) dL_march_111 (by decide) (fun c_58 => ?_) (fun c_58 => ?_)
                        · have h6 := fds_npos hbk.2 c_58
                          have hisv : ¬ isv kd n st (j + 1) sn k (xx, ff) := by
                            unfold isv
                            rw [if_neg hs0]
                            exact fun h => h6 h.1
                          refine z_iconst C (pc := 132) (v := nI 0) dL_march_132 (by decide) ?_
                          refine z_istore C (pc := 133) (lv' := [(0, .ref ab), (1, .ref ad), (2, .ref ar), (3, .int (nI x)), (4, .int (nI st)), (5, .int (nI f)), (6, .int (nI (j + 1))), (7, .int (nI sn)), (8, .int (nI k)), (9, .int (nI 0))]) dL_march_133 (Nat.le_of_ble_eq_true rfl) rfl rfl ?_
                          refine z_lv (lv' := [(0, .ref ab), (1, .ref ad), (2, .ref ar), (3, .int (nI x)), (4, .int (nI st)), (5, .int (nI f)), (6, .int (nI (j + 1))), (7, .int (nI sn)), (8, .int (nI k)), (9, .int (nI 0))]) ⟨rfl, rfl, rfl, rfl, rfl, rfl, rfl, rfl, rfl, rfl, trivial⟩ ?_
                          exact join135 (nI 0) (Or.inr ⟨rfl, hisv⟩)
                        · have h6 := fds_pos hbk.2 c_58
                          refine z_aload_n C (pc := 114) dL_march_114 rfl ?_
                          refine z_iconst C (pc := 115) (v := nI 1) dL_march_115 (by decide) ?_
                          have h_59 : vp_in (nI 1) 3 := by exact vp_in_nI (by omega) (by decide)
                          refine z_iald C (pc := 116) 2 rfl h_59 dL_march_116 ?_
                          refine z_seti (y := (fr2 1)) (by rw [nI_clamp (by omega)]) ?_
                          refine z_seti (y := nI ff) h21 ?_
                          refine z_aload_n C (pc := 117) dL_march_117 rfl ?_
                          refine z_aload_n C (pc := 118) dL_march_118 rfl ?_
                          refine z_iconst C (pc := 119) (v := nI 0) dL_march_119 (by decide) ?_
                          have h_60 : vp_in (nI 0) 3 := by exact vp_in_nI (by omega) (by decide)
                          refine z_iald C (pc := 120) 2 rfl h_60 dL_march_120 ?_
                          refine z_seti (y := (fr2 0)) (by rw [nI_clamp (by omega)]) ?_
                          refine z_seti (y := nI xx) h20 ?_
                          refine z_iconst C (pc := 121) (v := nI 1) dL_march_121 (by decide) ?_
                          refine z_calli C (isC := [0]) rfl (by exact fun _ => rfl) (runS C (wc := [(ab, .inl (cI, 7, .inl fb))]) (pc := 122) (rY' := rm 1 21) (nn := 3) (As := [.ref ab, .int (nI xx), .int (nI 1)]) (rest := [.int (nI ff)]) (g_sumE l D cI tt ab fb kd n hb xx (by omega)) rfl rfl ⟨rfl, rfl, ⟨Nat.le_of_ble_eq_true rfl, Nat.le_of_ble_eq_true rfl⟩, Nat.le_of_ble_eq_true rfl, Nat.le_of_ble_eq_true rfl⟩ wl_L_27 ws_L_sum wi_L wc_L_sum (by decide +kernel) rfl rfl (Nat.le_of_ble_eq_true rfl) dL_march_122) (fun r_61 u_61 h_61 => ?_)
                          subst h_61
                          refine z_ws (st' := [.int (nI (sumk ets kd xx n)), .int (nI ff)]) (ws' := [(ab, .inl (cI, 7, .inl fb)), (ad, .inl (cI, 9, .inl fd')), (ar, .inl (cI, 3, .inl fr2))]) rfl rfl ?_
                          refine z_icmp_ge C (pc := 125) (tgt := 132) dL_march_125 (by decide) (fun c_62 => ?_) (fun c_62 => ?_)
                          · have h7 : sumk ets kd xx n ≤ ff := ge_of_nI c_62 (by omega)
                            have hisv : ¬ isv kd n st (j + 1) sn k (xx, ff) := by
                              unfold isv
                              rw [if_neg hs0]
                              exact fun h => by have h8 : ff < sumk ets kd xx n := h.2; omega
                            refine z_iconst C (pc := 132) (v := nI 0) dL_march_132 (by decide) ?_
                            refine z_istore C (pc := 133) (lv' := [(0, .ref ab), (1, .ref ad), (2, .ref ar), (3, .int (nI x)), (4, .int (nI st)), (5, .int (nI f)), (6, .int (nI (j + 1))), (7, .int (nI sn)), (8, .int (nI k)), (9, .int (nI 0))]) dL_march_133 (Nat.le_of_ble_eq_true rfl) rfl rfl ?_
                            refine z_lv (lv' := [(0, .ref ab), (1, .ref ad), (2, .ref ar), (3, .int (nI x)), (4, .int (nI st)), (5, .int (nI f)), (6, .int (nI (j + 1))), (7, .int (nI sn)), (8, .int (nI k)), (9, .int (nI 0))]) ⟨rfl, rfl, rfl, rfl, rfl, rfl, rfl, rfl, rfl, rfl, trivial⟩ ?_
                            exact join135 (nI 0) (Or.inr ⟨rfl, hisv⟩)
                          · have h7 : ff < sumk ets kd xx n := lt_of_nI c_62 (by omega)
                            have hisv : isv kd n st (j + 1) sn k (xx, ff) := by
                              unfold isv
                              rw [if_neg hs0]
                              exact ⟨h6, h7⟩
                            refine z_iconst C (pc := 128) (v := nI 1) dL_march_128 (by decide) ?_
                            refine z_goto C (pc := 129) (tgt := 133) dL_march_129 (by decide) ?_
                            refine z_istore C (pc := 133) (lv' := [(0, .ref ab), (1, .ref ad), (2, .ref ar), (3, .int (nI x)), (4, .int (nI st)), (5, .int (nI f)), (6, .int (nI (j + 1))), (7, .int (nI sn)), (8, .int (nI k)), (9, .int (nI 1))]) dL_march_133 (Nat.le_of_ble_eq_true rfl) rfl rfl ?_
                            refine z_lv (lv' := [(0, .ref ab), (1, .ref ad), (2, .ref ar), (3, .int (nI x)), (4, .int (nI st)), (5, .int (nI f)), (6, .int (nI (j + 1))), (7, .int (nI sn)), (8, .int (nI k)), (9, .int (nI 1))]) ⟨rfl, rfl, rfl, rfl, rfl, rfl, rfl, rfl, rfl, rfl, trivial⟩ ?_
                            exact join135 (nI 1) (Or.inl ⟨rfl, hisv⟩)
                      · have hs0 : sn = 0 := nI_z (by omega) c_55
                        refine z_iload C (pc := 71) dL_march_71 rfl ?_
                        refine z_iconst C (pc := 73) (v := nI 3) dL_march_73 (by decide) ?_
                        refine z_icmp_le C (pc := 74) (tgt := 98) dL_march_74 (by decide) (fun c_63 => ?_) (fun c_63 => ?_)
                        · have h3 : j + 1 ≤ 3 := (nI_leI (by omega) (by decide)).mp c_63
                          have hisv : ¬ isv kd n st (j + 1) sn k (xx, ff) := by
                            unfold isv
                            rw [if_pos hs0]
                            exact fun h => by have := h.2.1; omega
                          refine z_iconst C (pc := 98) (v := nI 0) dL_march_98 (by decide) ?_
                          refine z_goto C (pc := 99) (tgt := 133) dL_march_99 (by decide) ?_
                          refine z_istore C (pc := 133) (lv' := [(0, .ref ab), (1, .ref ad), (2, .ref ar), (3, .int (nI x)), (4, .int (nI st)), (5, .int (nI f)), (6, .int (nI (j + 1))), (7, .int (nI sn)), (8, .int (nI k)), (9, .int (nI 0))]) dL_march_133 (Nat.le_of_ble_eq_true rfl) rfl rfl ?_
                          refine z_lv (lv' := [(0, .ref ab), (1, .ref ad), (2, .ref ar), (3, .int (nI x)), (4, .int (nI st)), (5, .int (nI f)), (6, .int (nI (j + 1))), (7, .int (nI sn)), (8, .int (nI k)), (9, .int (nI 0))]) ⟨rfl, rfl, rfl, rfl, rfl, rfl, rfl, rfl, rfl, rfl, trivial⟩ ?_
                          exact join135 (nI 0) (Or.inr ⟨rfl, hisv⟩)
                        · have h3 : ¬ j + 1 ≤ 3 := fun h => c_63 (nI_le h (by decide))
                          refine z_iload C (pc := 77) dL_march_77 rfl ?_
                          refine z_iload C (pc := 79) dL_march_79 rfl ?_
                          refine z_icmp_gt C (pc := 81) (tgt := 98) dL_march_81 (by decide) (fun c_64 => ?_) (fun c_64 => ?_)
                          · have h4 : ¬ j + 1 ≤ st := by
                              have := (nI_ltI (by omega) (by omega)).mp c_64
                              omega
                            have hisv : ¬ isv kd n st (j + 1) sn k (xx, ff) := by
                              unfold isv
                              rw [if_pos hs0]
                              exact fun h => h4 h.1
                            refine z_iconst C (pc := 98) (v := nI 0) dL_march_98 (by decide) ?_
                            refine z_goto C (pc := 99) (tgt := 133) dL_march_99 (by decide) ?_
                            refine z_istore C (pc := 133) (lv' := [(0, .ref ab), (1, .ref ad), (2, .ref ar), (3, .int (nI x)), (4, .int (nI st)), (5, .int (nI f)), (6, .int (nI (j + 1))), (7, .int (nI sn)), (8, .int (nI k)), (9, .int (nI 0))]) dL_march_133 (Nat.le_of_ble_eq_true rfl) rfl rfl ?_
                            refine z_lv (lv' := [(0, .ref ab), (1, .ref ad), (2, .ref ar), (3, .int (nI x)), (4, .int (nI st)), (5, .int (nI f)), (6, .int (nI (j + 1))), (7, .int (nI sn)), (8, .int (nI k)), (9, .int (nI 0))]) ⟨rfl, rfl, rfl, rfl, rfl, rfl, rfl, rfl, rfl, rfl, trivial⟩ ?_
                            exact join135 (nI 0) (Or.inr ⟨rfl, hisv⟩)
                          · have h4 : j + 1 ≤ st := Nat.le_of_not_lt (fun h => c_64 (nI_lt h (by omega)))
                            refine z_aload_n C (pc := 84) dL_march_84 rfl ?_
                            refine z_iconst C (pc := 85) (v := nI 1) dL_march_85 (by decide) ?_
                            refine z_iload C (pc := 86) dL_march_86 rfl ?_
                            refine z_iadd C (pc := 88) dL_march_88 ?_
                            refine z_seti (y := nI (1 + k)) (nI_add _ _) ?_
                            have h_65 : vp_in (nI (1 + k)) 7 := by exact vp_in_nI (by omega) (by decide)
                            refine z_iald C (pc := 89) 0 rfl h_65 dL_march_89 ?_
                            refine z_seti (y := (fb (1 + k))) (by rw [nI_clamp (by omega)]) ?_
                            refine z_seti (y := nI (kd k)) (by rw [Nat.add_comm]; exact hbk.1) ?_
                            refine z_iconst C (pc := 90) (v := nI 1) dL_march_90 (by decide) ?_
                            refine z_icmp_ne C (pc := 91) (tgt := 98) dL_march_91 (by decide) (fun c_66 => ?_) (fun c_66 => ?_)
                            · have h5 : ¬ kd k = 1 := fun e => c_66 (by rw [e])
                              have hisv : ¬ isv kd n st (j + 1) sn k (xx, ff) := by
                                unfold isv
                                rw [if_pos hs0]
                                exact fun h => h5 h.2.2
                              refine z_iconst C (pc := 98) (v := nI 0) dL_march_98 (by decide) ?_
                              refine z_goto C (pc := 99) (tgt := 133) dL_march_99 (by decide) ?_
                              refine z_istore C (pc := 133) (lv' := [(0, .ref ab), (1, .ref ad), (2, .ref ar), (3, .int (nI x)), (4, .int (nI st)), (5, .int (nI f)), (6, .int (nI (j + 1))), (7, .int (nI sn)), (8, .int (nI k)), (9, .int (nI 0))]) dL_march_133 (Nat.le_of_ble_eq_true rfl) rfl rfl ?_
                              refine z_lv (lv' := [(0, .ref ab), (1, .ref ad), (2, .ref ar), (3, .int (nI x)), (4, .int (nI st)), (5, .int (nI f)), (6, .int (nI (j + 1))), (7, .int (nI sn)), (8, .int (nI k)), (9, .int (nI 0))]) ⟨rfl, rfl, rfl, rfl, rfl, rfl, rfl, rfl, rfl, rfl, trivial⟩ ?_
                              exact join135 (nI 0) (Or.inr ⟨rfl, hisv⟩)
                            · have h5 : kd k = 1 := (nI_eq (by omega) (by decide)).mp c_66
                              have hisv : isv kd n st (j + 1) sn k (xx, ff) := by
                                unfold isv
                                rw [if_pos hs0]
                                exact ⟨h4, by omega, h5⟩
                              refine z_iconst C (pc := 94) (v := nI 1) dL_march_94 (by decide) ?_
                              refine z_goto C (pc := 95) (tgt := 133) dL_march_95 (by decide) ?_
                              refine z_istore C (pc := 133) (lv' := [(0, .ref ab), (1, .ref ad), (2, .ref ar), (3, .int (nI x)), (4, .int (nI st)), (5, .int (nI f)), (6, .int (nI (j + 1))), (7, .int (nI sn)), (8, .int (nI k)), (9, .int (nI 1))]) dL_march_133 (Nat.le_of_ble_eq_true rfl) rfl rfl ?_
                              refine z_lv (lv' := [(0, .ref ab), (1, .ref ad), (2, .ref ar), (3, .int (nI x)), (4, .int (nI st)), (5, .int (nI f)), (6, .int (nI (j + 1))), (7, .int (nI sn)), (8, .int (nI k)), (9, .int (nI 1))]) ⟨rfl, rfl, rfl, rfl, rfl, rfl, rfl, rfl, rfl, rfl, trivial⟩ ?_
                              exact join135 (nI 1) (Or.inl ⟨rfl, hisv⟩)
                refine z_lv (lv' := [(0, .ref ab), (1, .ref ad), (2, .ref ar), (3, .int (nI x)), (4, .int (nI st)), (5, .int (nI f)), (6, .int (nI (j + 1))), (7, .int (nI sn)), (8, .int (nI n - 1))]) ⟨rfl, rfl, rfl, rfl, rfl, rfl, rfl, rfl, rfl, trivial⟩ ?_
                exact key61 (_ + 1) n xx ff fr2 (Nat.lt_succ_self _) (Nat.le_refl _) h20 h21 h22 hok (by rw [hsv]; rfl)
          refine z_lv (lv' := [(0, .ref ab), (1, .ref ad), (2, .ref ar), (3, .int (nI x)), (4, .int (nI st)), (5, .int (nI f)), (6, .int (nI (j + 1))), (7, .int (nI 0))]) ⟨rfl, rfl, rfl, rfl, rfl, rfl, rfl, rfl, trivial⟩ ?_
          exact key48 (_ + 1) 0 z.1 z.2.1 fr' (Nat.lt_succ_self _) (Nat.zero_le _) hr0 hr1 hr2 hmk.1 rfl
    refine z_lv (lv' := [(0, .ref ab), (1, .ref ad), (2, .ref ar), (3, .int (nI x)), (4, .int (nI st)), (5, .int (nI f)), (6, .int (nI (0 + 1)))]) ⟨rfl, rfl, rfl, rfl, rfl, rfl, rfl, trivial⟩ ?_
    exact key36 (_ + 1) 0 fd (upd fr1 2 (nI 0)) (Nat.lt_succ_self _) (Nat.zero_le _) rfl (by rw [upd_n (by decide)]; exact h10) (by rw [upd_n (by decide)]; exact h11) upd_s hd (fun _ _ => rfl)
  refine z_aload_n C (pc := 0) dL_march_0 rfl ?_
  refine z_iconst C (pc := 1) (v := nI 0) dL_march_1 (by decide) ?_
  refine z_iload_n C (pc := 2) dL_march_2 rfl ?_
  have h_67 : vp_in (nI 0) 3 := by exact vp_in_nI (by omega) (by decide)
  refine z_iast C (pc := 3) 2 rfl h_67 (ws' := [(ab, .inl (cI, 7, .inl fb)), (ad, .inl (cI, 9, .inl fd)), (ar, .inl (cI, 3, .inl (upd fr 0 (nI x))))]) (by rw [nI_clamp (by omega)]; rfl) dL_march_3 ?_
  refine z_aload_n C (pc := 4) dL_march_4 rfl ?_
  refine z_iconst C (pc := 5) (v := nI 1) dL_march_5 (by decide) ?_
  refine z_iload C (pc := 6) dL_march_6 rfl ?_
  refine z_aload_n C (pc := 8) dL_march_8 rfl ?_
  refine z_iload_n C (pc := 9) dL_march_9 rfl ?_
  refine z_iconst C (pc := 10) (v := nI 0) dL_march_10 (by decide) ?_
  refine z_calli C (isC := [0]) rfl (by exact fun _ => rfl) (runS C (wc := [(ab, .inl (cI, 7, .inl fb))]) (pc := 11) (rY' := rm 1 21) (nn := 3) (As := [.ref ab, .int (nI x), .int (nI 0)]) (rest := [.int (nI f), .int (nI 1), .ref ar]) (g_sumP l D cI tt ab fb kd n hb x (by omega)) rfl rfl ⟨rfl, rfl, ⟨Nat.le_of_ble_eq_true rfl, Nat.le_of_ble_eq_true rfl⟩, Nat.le_of_ble_eq_true rfl, Nat.le_of_ble_eq_true rfl⟩ wl_L_27 ws_L_sum wi_L wc_L_sum (by decide +kernel) rfl rfl (Nat.le_of_ble_eq_true rfl) dL_march_11) (fun r_68 u_68 h_68 => ?_)
  subst h_68
  refine z_ws (st' := [.int (nI (sumk pls kd x n)), .int (nI f), .int (nI 1), .ref ar]) (ws' := [(ab, .inl (cI, 7, .inl fb)), (ad, .inl (cI, 9, .inl fd)), (ar, .inl (cI, 3, .inl (upd fr 0 (nI x))))]) rfl rfl ?_
  refine z_icmp_ge C (pc := 14) (tgt := 22) dL_march_14 (by decide) (fun c_69 => ?_) (fun c_69 => ?_)
  · have hfp : sumk pls kd x n ≤ f := ge_of_nI c_69 (by omega)
    have hmin : min f (sumk pls kd x n) = sumk pls kd x n := Nat.min_eq_right hfp
    refine z_aload_n C (pc := 22) dL_march_22 rfl ?_
    refine z_iload_n C (pc := 23) dL_march_23 rfl ?_
    refine z_iconst C (pc := 24) (v := nI 0) dL_march_24 (by decide) ?_
    refine z_calli C (isC := [0]) rfl (by exact fun _ => rfl) (runS C (wc := [(ab, .inl (cI, 7, .inl fb))]) (pc := 25) (rY' := rm 1 21) (nn := 3) (As := [.ref ab, .int (nI x), .int (nI 0)]) (rest := [.int (nI 1), .ref ar]) (g_sumP l D cI tt ab fb kd n hb x (by omega)) rfl rfl ⟨rfl, rfl, ⟨Nat.le_of_ble_eq_true rfl, Nat.le_of_ble_eq_true rfl⟩, Nat.le_of_ble_eq_true rfl, Nat.le_of_ble_eq_true rfl⟩ wl_L_27 ws_L_sum wi_L wc_L_sum (by decide +kernel) rfl rfl (Nat.le_of_ble_eq_true rfl) dL_march_25) (fun r_70 u_70 h_70 => ?_)
    subst h_70
    refine z_ws (st' := [.int (nI (sumk pls kd x n)), .int (nI 1), .ref ar]) (ws' := [(ab, .inl (cI, 7, .inl fb)), (ad, .inl (cI, 9, .inl fd)), (ar, .inl (cI, 3, .inl (upd fr 0 (nI x))))]) rfl rfl ?_
    have h_71 : vp_in (nI 1) 3 := by exact vp_in_nI (by omega) (by decide)
    refine z_iast C (pc := 28) 2 rfl h_71 (ws' := [(ab, .inl (cI, 7, .inl fb)), (ad, .inl (cI, 9, .inl fd)), (ar, .inl (cI, 3, .inl (upd (upd fr 0 (nI x)) 1 (nI (sumk pls kd x n)))))]) (by rw [nI_clamp (by omega)]; rfl) dL_march_28 ?_
    refine z_lv (lv' := [(0, .ref ab), (1, .ref ad), (2, .ref ar), (3, .int (nI x)), (4, .int (nI st)), (5, .int (nI f))]) ⟨rfl, rfl, rfl, rfl, rfl, rfl, trivial⟩ ?_
    exact join29 (upd (upd fr 0 (nI x)) 1 (nI (sumk pls kd x n))) (by rw [upd_n (by decide), upd_s]) (by rw [upd_s, hmin])
  · have hfp : f < sumk pls kd x n := lt_of_nI c_69 (by omega)
    have hmin : min f (sumk pls kd x n) = f := Nat.min_eq_left (by omega)
    refine z_iload C (pc := 17) dL_march_17 rfl ?_
    refine z_goto C (pc := 19) (tgt := 28) dL_march_19 (by decide) ?_
    have h_72 : vp_in (nI 1) 3 := by exact vp_in_nI (by omega) (by decide)
    refine z_iast C (pc := 28) 2 rfl h_72 (ws' := [(ab, .inl (cI, 7, .inl fb)), (ad, .inl (cI, 9, .inl fd)), (ar, .inl (cI, 3, .inl (upd (upd fr 0 (nI x)) 1 (nI f))))]) (by rw [nI_clamp (by omega)]; rfl) dL_march_28 ?_
    refine z_lv (lv' := [(0, .ref ab), (1, .ref ad), (2, .ref ar), (3, .int (nI x)), (4, .int (nI st)), (5, .int (nI f))]) ⟨rfl, rfl, rfl, rfl, rfl, rfl, trivial⟩ ?_
    exact join29 (upd (upd fr 0 (nI x)) 1 (nI f)) (by rw [upd_n (by decide), upd_s]) (by rw [upd_s, hmin])
