theorem add_m1 (x : Int32) : x + (-1) = x - 1 := (Int32.sub_eq_add_neg x 1).symm
theorem neg_pred : ∀ m, m < 7 → (nI m - 1 < 0 ↔ m = 0) := by decide +kernel
theorem nI_eq1 {t : Nat} (h : t < 2 ^ 31) : nI t = 1 ↔ t = 1 := nI_eq (b := 1) h (by decide)
theorem isOf_2 : ∀ t, t ≤ 4 → (isOfv (nI t) 2 = 0 ↔ ¬ (t = 2 ∨ t = 4)) := by decide +kernel
theorem pon_s {kd : Nat → Nat} {n k : Nat} {s : Nat × Nat} (h : kd k = 1) : pon kd n (k + 1) s = pon kd n k (dev kd n k s) := by
  show pon kd n k (if kd k = 1 then _ else _) = _
  rw [if_pos h]
theorem pon_n {kd : Nat → Nat} {n k : Nat} {s : Nat × Nat} (h : ¬ kd k = 1) : pon kd n (k + 1) s = pon kd n k s := by
  show pon kd n k (if kd k = 1 then _ else _) = _
  rw [if_neg h]
theorem bea_s {kd : Nat → Nat} {n k : Nat} {s : Nat × Nat} (h0 : s.2 < sumk ets kd s.1 n) (h : isB (kd k) = true) : bea kd n (k + 1) s = bea kd n k (dev kd n k s) := by
  show (if _ then bea kd n k (if isB (kd k) = true then _ else _) else _) = _
  rw [if_pos h0, if_pos h]
theorem bea_n {kd : Nat → Nat} {n k : Nat} {s : Nat × Nat} (h0 : s.2 < sumk ets kd s.1 n) (h : ¬ isB (kd k) = true) : bea kd n (k + 1) s = bea kd n k s := by
  show (if _ then bea kd n k (if isB (kd k) = true then _ else _) else _) = _
  rw [if_pos h0, if_neg h]
theorem bea_x {kd : Nat → Nat} {n : Nat} {s : Nat × Nat} (h0 : ¬ s.2 < sumk ets kd s.1 n) : ∀ k, bea kd n k s = s
  | 0 => rfl
  | k + 1 => by
    show (if _ then _ else _) = _
    rw [if_neg h0]
theorem isB_iff (t : Nat) : isB t = true ↔ t = 1 ∨ t = 2 ∨ t = 4 := by simp [isB, or_assoc]
def cav (c : Nat → Nat) (q : Nat) : Nat := if q = 0 then 0 else c (q - 1)
theorem pred_neg : ∀ q, q < 6 → (nI q - 1 < 0 ↔ q = 0) := by decide +kernel
theorem pred_5 : ∀ q, q < 6 → ¬ nI 5 ≤ nI q - 1 := by decide +kernel
theorem pred_cl : ∀ q, q < 6 → q ≠ 0 → (nI q - 1).toNatClampNeg = q - 1 := by decide +kernel
theorem at_c {f : Nat → Int32} {c : Nat → Nat} {q : Nat} (hq : q < 6) (h : ∀ k, k < 5 → f k = nI (c k) ∧ c k ≤ 9) : atv 5 f (nI q - 1) = nI (cav c q) := by
  unfold atv cav
  by_cases e : q = 0
  · rw [if_pos ((pred_neg q hq).mpr e), if_pos e]; rfl
  · rw [if_neg (fun h => e ((pred_neg q hq).mp h)), if_neg (pred_5 q hq), if_neg e, pred_cl q hq e]
    exact (h (q - 1) (by omega)).1
theorem put_c {f : Nat → Int32} {q : Nat} {v : Int32} (hq : q < 6) : putv 5 f (nI q - 1) v = if q = 0 then f else upd f (q - 1) v := by
  unfold putv
  by_cases e : q = 0
  · rw [if_pos ((pred_neg q hq).mpr e), if_pos e]
  · rw [if_neg (fun h => e ((pred_neg q hq).mp h)), if_neg (pred_5 q hq), if_neg e, pred_cl q hq e]
theorem cav_le {f : Nat → Int32} (c : Nat → Nat) (q : Nat) (h : ∀ k, k < 5 → f k = nI (c k) ∧ c k ≤ 9) : q < 6 → cav c q ≤ 9 := fun hq => by
  unfold cav
  by_cases e : q = 0
  · rw [if_pos e]; decide
  · rw [if_neg e]; exact (h _ (by omega)).2
set_option maxHeartbeats 4000000 in
set_option maxRecDepth 100000 in
theorem c_eatPonies (l : Launch) (D : va_G) (cI : ClassId) (tt : Nat × Nat × Nat) (a : Nat → Nat) (i : Nat → Int32) (r : Nat → Nat → Int32) (kd : Nat → Nat) (n x f : Nat) (hv : PV i r kd n) (hs : PS i kd n x f) (ho : OK kd n x f) : MetV (S := (Nat → Int32)) l yX1_eatPonies cX1_eatPonies 2 none (rm 2 43) D cI tt [.ref (a 3)] (cW cI a i r) (fun i' => SP i i' ∧ i' 9 = i 9 ∧ PS i' kd n (pon kd n n (x, f)).1 (pon kd n n (x, f)).2) (fun i' => cW cI a i' r) := by
  have hn6 := hv.2.1
  have hx6 := pow_le6 hn6
  have hx := ho.1
  refine met_ofV (by decide) (Nat.le_of_ble_eq_true rfl) ?_
  intro pP eE sS mM aV bB mE cC AA C hin
  refine z_conv (lv' := [(0, .ref (a 3))]) ⟨rfl, trivial⟩ rfl rfl ?_
  refine z_aload_n C (pc := 0) dX1_eatPonies_0 rfl ?_
  refine z_get C (pc := 1) 3 rfl rfl wf_X1 1 (by decide) rfl wl_X1_18 (v := .int (i 4)) rfl dX1_eatPonies_1 ?_
  refine z_iconst C (pc := 4) (v := 1) dX1_eatPonies_4 (by decide) ?_
  refine z_isub C (pc := 5) dX1_eatPonies_5 ?_
  refine z_istore_n C (pc := 6) (lv' := [(0, .ref (a 3)), (1, .int ((i 4) - 1))]) dX1_eatPonies_6 (Nat.le_of_ble_eq_true rfl) rfl rfl ?_
  have key7 : ∀ (fu7 : Nat) (m x' f' : Nat) (i' : Nat → Int32), m < fu7 → (m ≤ n) → (SP i i') → (i' 9 = i 9) → (PS i' kd n x' f') → (OK kd n x' f') → (pon kd n m (x', f') = pon kd n n (x, f)) → Z pP l eE (rm 2 43) sS mM aV bB mE cC D AA 2 0 0 (MQ bB (va_Qv (S := (Nat → Int32)) (fun i' => SP i i' ∧ i' 9 = i 9 ∧ PS i' kd n (pon kd n n (x, f)).1 (pon kd n n (x, f)).2) (fun u t => va_P D vwCl ((fun i' => cW cI a i' r) u) t.heap) AA) aV sS 0 0 AA) 7 [(0, .ref (a 3)), (1, .int (nI m - 1))] [] (cW cI a i' r) := by
    intro fu7
    induction fu7 with
    | zero => intro m x' f' i' hfu7; exact absurd hfu7 (Nat.not_lt_zero _)
    | succ fu7 ih7 =>
      intro m x' f' i' hfu7 hm hsp h9 hps hok heq
      refine z_iload_n C (pc := 7) dX1_eatPonies_7 rfl ?_
      refine z_if_lt C (pc := 8) (tgt := 34) dX1_eatPonies_8 (by decide) (fun c_1 => ?_) (fun c_1 => ?_)
      · refine z_vret C (pc := 34) i' dX1_eatPonies_34 ?_ rfl
        have hm0 := (neg_pred m (by omega)).mp c_1
        subst hm0
        refine ⟨hsp, h9, ?_⟩
        rw [← heq]; exact hps
      · obtain ⟨k, rfl⟩ : ∃ k, m = k + 1 := ⟨m - 1, by have hm0 : m ≠ 0 := (fun h => c_1 ((neg_pred m (by omega)).mpr h)); omega⟩
        refine z_lv (lv' := [(0, .ref (a 3)), (1, .int (nI k))]) ⟨rfl, lki (nI_pred k), trivial⟩ ?_
        have hk : k < n := by omega
        have hv' := hv.sp hsp (SR.rf (r := r))
        refine z_aload_n C (pc := 11) dX1_eatPonies_11 rfl ?_
        refine z_get C (pc := 12) 3 rfl rfl wf_X1 0 (by decide) rfl wl_X1_9 (v := .ref (a 4)) rfl dX1_eatPonies_12 ?_
        refine z_iload_n C (pc := 15) dX1_eatPonies_15 rfl ?_
        refine z_calli C (isC := [4]) rfl (by exact fun _ => rfl) (runSN C (wc := [(a 4, .inl (cI, 6, .inl (r 1)))]) (pc := 16) (rY' := rm 0 0) (nn := 2) (As := [.ref (a 4), .int (nI k)]) (rest := []) (c_at l D cI tt (a 4) 6 (r 1) (nI k) (by decide)) rfl rfl ⟨rfl, rfl, ⟨Nat.le_of_ble_eq_true rfl, Nat.le_of_ble_eq_true rfl⟩, Nat.le_of_ble_eq_true rfl, Nat.le_of_ble_eq_true rfl⟩ wl_X1_22 ws_X3_at wi_X3 wc_X3_at (by decide +kernel) rfl rfl (Nat.le_of_ble_eq_true rfl) dX1_eatPonies_16) (fun r_2 u_2 h_2 => ?_)
        have h_2 : r_2 = (nI (kd k)) := h_2.trans (kind_at hv' hk)
        subst h_2
        refine z_ws (st' := [.int (nI (kd k))]) (ws' := (cW cI a i' r)) rfl rfl ?_
        refine z_iconst C (pc := 19) (v := 1) dX1_eatPonies_19 (by decide) ?_
        refine z_icmp_ne C (pc := 20) (tgt := 28) dX1_eatPonies_20 (by decide) (fun c_3 => ?_) (fun c_3 => ?_)
        · have hkd : ¬ kd k = 1 := fun h => c_3 ((nI_eq1 (by have := (hv.2.2 k hk).2; omega)).mpr h)
          refine z_iinc C (pc := 28) (v := ((nI k) + (-1))) (lv' := [(0, .ref (a 3)), (1, .int ((nI k) + (-1)))]) dX1_eatPonies_28 rfl rfl (Nat.le_of_ble_eq_true rfl) rfl rfl ?_
          refine z_goto C (pc := 31) (tgt := 7) dX1_eatPonies_31 (by decide) ?_
          refine z_lv (lv' := [(0, .ref (a 3)), (1, .int (nI k - 1))]) ⟨rfl, lki (add_m1 _), trivial⟩ ?_
          exact ih7 k x' f' i' (by omega) (by omega) hsp h9 hps hok ((pon_n hkd).symm.trans heq)
        · have hkd : kd k = 1 := (nI_eq1 (by have := (hv.2.2 k hk).2; omega)).mp c_3
          refine z_aload_n C (pc := 23) dX1_eatPonies_23 rfl ?_
          refine z_iload_n C (pc := 24) dX1_eatPonies_24 rfl ?_
          refine z_callvF C (by exact fun _ => cW_ad) (runV C (wc := (cW cI a i' r)) (pc := 25) (rY' := rm 1 21) (nn := 1) (As := [.int (nI k)]) (rest := []) (c_devour l D cI tt a i' r kd n x' f' hv' hps hok k hk) (full_hC _) (full_nd _) ⟨rfl, rfl, ⟨Nat.le_of_ble_eq_true rfl, Nat.le_of_ble_eq_true rfl⟩, Nat.le_of_ble_eq_true rfl, Nat.le_of_ble_eq_true rfl⟩ wl_X1_78 wm_X1_devour we_X1_devour wi_X1 wc_X1_devour (by decide +kernel) rfl 3 rfl rfl rfl rfl (Nat.le_of_ble_eq_true rfl) dX1_eatPonies_25) (fun u_4 h_4 => ?_)
          generalize u_4 = i4 at h_4 ⊢
          obtain ⟨g1, g2, g3⟩ := h_4
          refine z_ws (st' := []) (ws' := (cW cI a i4 r)) rfl rfl ?_
          refine z_iinc C (pc := 28) (v := ((nI k) + (-1))) (lv' := [(0, .ref (a 3)), (1, .int ((nI k) + (-1)))]) dX1_eatPonies_28 rfl rfl (Nat.le_of_ble_eq_true rfl) rfl rfl ?_
          refine z_goto C (pc := 31) (tgt := 7) dX1_eatPonies_31 (by decide) ?_
          refine z_lv (lv' := [(0, .ref (a 3)), (1, .int (nI k - 1))]) ⟨rfl, lki (add_m1 _), trivial⟩ ?_
          exact ih7 k ((dev kd n k (x', f')).1) ((dev kd n k (x', f')).2) i4 (by omega) (by omega) (hsp.tr g1) (g2.trans h9) g3 (dev_ok hn6 hk hok) ((pon_s hkd).symm.trans heq)
  refine z_lv (lv' := [(0, .ref (a 3)), (1, .int (nI n - 1))]) ⟨rfl, lki (by rw [hv.1]), trivial⟩ ?_
  exact key7 (_ + 1) n x f i (Nat.lt_succ_self _) (Nat.le_refl _) SP.rf rfl hs ho rfl

set_option maxHeartbeats 4000000 in
set_option maxRecDepth 100000 in
theorem c_eatBeasts (l : Launch) (D : va_G) (cI : ClassId) (tt : Nat × Nat × Nat) (a : Nat → Nat) (i : Nat → Int32) (r : Nat → Nat → Int32) (kd : Nat → Nat) (n x f : Nat) (hv : PV i r kd n) (hs : PS i kd n x f) (ho : OK kd n x f) : MetV (S := (Nat → Int32)) l yX1_eatBeasts cX1_eatBeasts 3 none (rm 2 43) D cI tt [.ref (a 3)] (cW cI a i r) (fun i' => SP i i' ∧ i' 9 = i 9 ∧ PS i' kd n (bea kd n n (x, f)).1 (bea kd n n (x, f)).2) (fun i' => cW cI a i' r) := by
  have hn6 := hv.2.1
  have hx6 := pow_le6 hn6
  have hx := ho.1
  refine met_ofV (by decide) (Nat.le_of_ble_eq_true rfl) ?_
  intro pP eE sS mM aV bB mE cC AA C hin
  refine z_conv (lv' := [(0, .ref (a 3))]) ⟨rfl, trivial⟩ rfl rfl ?_
  refine z_aload_n C (pc := 0) dX1_eatBeasts_0 rfl ?_
  refine z_get C (pc := 1) 3 rfl rfl wf_X1 1 (by decide) rfl wl_X1_18 (v := .int (i 4)) rfl dX1_eatBeasts_1 ?_
  refine z_iconst C (pc := 4) (v := 1) dX1_eatBeasts_4 (by decide) ?_
  refine z_isub C (pc := 5) dX1_eatBeasts_5 ?_
  refine z_istore_n C (pc := 6) (lv' := [(0, .ref (a 3)), (1, .int ((i 4) - 1))]) dX1_eatBeasts_6 (Nat.le_of_ble_eq_true rfl) rfl rfl ?_
  have key7 : ∀ (fu7 : Nat) (m x' f' : Nat) (i' : Nat → Int32), m < fu7 → (m ≤ n) → (SP i i') → (i' 9 = i 9) → (PS i' kd n x' f') → (OK kd n x' f') → (bea kd n m (x', f') = bea kd n n (x, f)) → Z pP l eE (rm 2 43) sS mM aV bB mE cC D AA 3 0 0 (MQ bB (va_Qv (S := (Nat → Int32)) (fun i' => SP i i' ∧ i' 9 = i 9 ∧ PS i' kd n (bea kd n n (x, f)).1 (bea kd n n (x, f)).2) (fun u t => va_P D vwCl ((fun i' => cW cI a i' r) u) t.heap) AA) aV sS 0 0 AA) 7 [(0, .ref (a 3)), (1, .int (nI m - 1))] [] (cW cI a i' r) := by
    intro fu7
    induction fu7 with
    | zero => intro m x' f' i' hfu7; exact absurd hfu7 (Nat.not_lt_zero _)
    | succ fu7 ih7 =>
      intro m x' f' i' hfu7 hm hsp h9 hps hok heq
      refine z_iload_n C (pc := 7) dX1_eatBeasts_7 rfl ?_
      refine z_if_lt C (pc := 8) (tgt := 55) dX1_eatBeasts_8 (by decide) (fun c_1 => ?_) (fun c_1 => ?_)
      · refine z_vret C (pc := 55) i' dX1_eatBeasts_55 ?_ rfl
        have hm0 := (neg_pred m (by omega)).mp c_1
        subst hm0
        refine ⟨hsp, h9, ?_⟩
        rw [← heq]; exact hps
      · obtain ⟨k, rfl⟩ : ∃ k, m = k + 1 := ⟨m - 1, by have hm0 : m ≠ 0 := (fun h => c_1 ((neg_pred m (by omega)).mpr h)); omega⟩
        refine z_lv (lv' := [(0, .ref (a 3)), (1, .int (nI k))]) ⟨rfl, lki (nI_pred k), trivial⟩ ?_
        have hk : k < n := by omega
        have hv' := hv.sp hsp (SR.rf (r := r))
        refine z_aload_n C (pc := 11) dX1_eatBeasts_11 rfl ?_
        refine z_get C (pc := 12) 3 rfl rfl wf_X1 4 (by decide) rfl wl_X1_43 (v := .int (i' 6)) rfl dX1_eatBeasts_12 ?_
        refine z_aload_n C (pc := 15) dX1_eatBeasts_15 rfl ?_
        refine z_get C (pc := 16) 3 rfl rfl wf_X1 6 (by decide) rfl wl_X1_46 (v := .int (i' 8)) rfl dX1_eatBeasts_16 ?_
        refine z_icmp_ge C (pc := 19) (tgt := 55) dX1_eatBeasts_19 (by decide) (fun c_2 => ?_) (fun c_2 => ?_)
        · refine z_vret C (pc := 55) i' dX1_eatBeasts_55 ?_ rfl
          have hge : ¬ (x', f').2 < sumk ets kd (x', f').1 n := by
            rw [hps.2.2.2, hps.2.1] at c_2
            have := ge_of_nI c_2 (by have := et_le (kd := kd) (x := x') hn6; omega)
            exact Nat.not_lt.mpr this
          refine ⟨hsp, h9, ?_⟩
          rw [← heq, bea_x hge]; exact hps
        · have hlt : (x', f').2 < sumk ets kd (x', f').1 n := by
            rw [hps.2.2.2, hps.2.1] at c_2
            exact lt_of_nI c_2 (by have := hok.2; have := pl_le (kd := kd) (x := x') hn6; omega)
          refine z_aload_n C (pc := 22) dX1_eatBeasts_22 rfl ?_
          refine z_get C (pc := 23) 3 rfl rfl wf_X1 0 (by decide) rfl wl_X1_9 (v := .ref (a 4)) rfl dX1_eatBeasts_23 ?_
          refine z_iload_n C (pc := 26) dX1_eatBeasts_26 rfl ?_
          refine z_calli C (isC := [4]) rfl (by exact fun _ => rfl) (runSN C (wc := [(a 4, .inl (cI, 6, .inl (r 1)))]) (pc := 27) (rY' := rm 0 0) (nn := 2) (As := [.ref (a 4), .int (nI k)]) (rest := []) (c_at l D cI tt (a 4) 6 (r 1) (nI k) (by decide)) rfl rfl ⟨rfl, rfl, ⟨Nat.le_of_ble_eq_true rfl, Nat.le_of_ble_eq_true rfl⟩, Nat.le_of_ble_eq_true rfl, Nat.le_of_ble_eq_true rfl⟩ wl_X1_22 ws_X3_at wi_X3 wc_X3_at (by decide +kernel) rfl rfl (Nat.le_of_ble_eq_true rfl) dX1_eatBeasts_27) (fun r_3 u_3 h_3 => ?_)
          have h_3 : r_3 = (nI (kd k)) := h_3.trans (kind_at hv' hk)
          subst h_3
          refine z_ws (st' := [.int (nI (kd k))]) (ws' := (cW cI a i' r)) rfl rfl ?_
          refine z_istore_n C (pc := 30) (lv' := [(0, .ref (a 3)), (1, .int (nI k)), (2, .int (nI (kd k)))]) dX1_eatBeasts_30 (Nat.le_of_ble_eq_true rfl) rfl rfl ?_
          refine z_iload_n C (pc := 31) dX1_eatBeasts_31 rfl ?_
          refine z_iconst C (pc := 32) (v := 1) dX1_eatBeasts_32 (by decide) ?_
          refine z_icmp_eq C (pc := 33) (tgt := 44) dX1_eatBeasts_33 (by decide) (fun c_4 => ?_) (fun c_4 => ?_)
          · have hkd : isB (kd k) = true := (isB_iff _).mpr (Or.inl ((nI_eq1 (by have := (hv.2.2 k hk).2; omega)).mp c_4))
            refine z_aload_n C (pc := 44) dX1_eatBeasts_44 rfl ?_
            refine z_iload_n C (pc := 45) dX1_eatBeasts_45 rfl ?_
            refine z_callvF C (by exact fun _ => cW_ad) (runV C (wc := (cW cI a i' r)) (pc := 46) (rY' := rm 1 21) (nn := 1) (As := [.int (nI k)]) (rest := []) (c_devour l D cI tt a i' r kd n x' f' hv' hps hok k hk) (full_hC _) (full_nd _) ⟨rfl, rfl, ⟨Nat.le_of_ble_eq_true rfl, Nat.le_of_ble_eq_true rfl⟩, Nat.le_of_ble_eq_true rfl, Nat.le_of_ble_eq_true rfl⟩ wl_X1_78 wm_X1_devour we_X1_devour wi_X1 wc_X1_devour (by decide +kernel) rfl 3 rfl rfl rfl rfl (Nat.le_of_ble_eq_true rfl) dX1_eatBeasts_46) (fun u_5 h_5 => ?_)
            generalize u_5 = i5 at h_5 ⊢
            obtain ⟨g1, g2, g3⟩ := h_5
            refine z_ws (st' := []) (ws' := (cW cI a i5 r)) rfl rfl ?_
            refine z_iinc C (pc := 49) (v := ((nI k) + (-1))) (lv' := [(0, .ref (a 3)), (1, .int ((nI k) + (-1))), (2, .int (nI (kd k)))]) dX1_eatBeasts_49 rfl rfl (Nat.le_of_ble_eq_true rfl) rfl rfl ?_
            refine z_goto C (pc := 52) (tgt := 7) dX1_eatBeasts_52 (by decide) ?_
            refine z_lv (lv' := [(0, .ref (a 3)), (1, .int (nI k - 1))]) ⟨rfl, lki (add_m1 _), trivial⟩ ?_
            exact ih7 k ((dev kd n k (x', f')).1) ((dev kd n k (x', f')).2) i5 (by omega) (by omega) (hsp.tr g1) (g2.trans h9) g3 (dev_ok hn6 hk hok) ((bea_s hlt hkd).symm.trans heq)
          · have hk1 : ¬ kd k = 1 := fun h => c_4 ((nI_eq1 (by have := (hv.2.2 k hk).2; omega)).mpr h)
            refine z_iload_n C (pc := 36) dX1_eatBeasts_36 rfl ?_
            refine z_iconst C (pc := 37) (v := 2) dX1_eatBeasts_37 (by decide) ?_
            refine z_calli C (isC := []) rfl (by exact fun _ => rfl) (runSN C (wc := []) (pc := 38) (rY' := rm 0 0) (nn := 2) (As := [.int (nI (kd k)), .int 2]) (rest := []) (c_isOf l D cI tt (nI (kd k)) 2) rfl rfl ⟨rfl, rfl, ⟨Nat.le_of_ble_eq_true rfl, Nat.le_of_ble_eq_true rfl⟩, Nat.le_of_ble_eq_true rfl, Nat.le_of_ble_eq_true rfl⟩ wl_X1_81 ws_X3_isOf wi_X3 wc_X3_isOf (by decide +kernel) rfl rfl (Nat.le_of_ble_eq_true rfl) dX1_eatBeasts_38) (fun r_6 u_6 h_6 => ?_)
            subst h_6
            refine z_ws (st' := [.int (isOfv (nI (kd k)) 2)]) (ws' := (cW cI a i' r)) rfl rfl ?_
            refine z_if_eq C (pc := 41) (tgt := 49) dX1_eatBeasts_41 (by decide) (fun c_7 => ?_) (fun c_7 => ?_)
            · have hkd : ¬ isB (kd k) = true := fun h => ((isOf_2 _ (hv.2.2 k hk).2).mp c_7) (((isB_iff _).mp h).resolve_left hk1)
              refine z_iinc C (pc := 49) (v := ((nI k) + (-1))) (lv' := [(0, .ref (a 3)), (1, .int ((nI k) + (-1))), (2, .int (nI (kd k)))]) dX1_eatBeasts_49 rfl rfl (Nat.le_of_ble_eq_true rfl) rfl rfl ?_
              refine z_goto C (pc := 52) (tgt := 7) dX1_eatBeasts_52 (by decide) ?_
              refine z_lv (lv' := [(0, .ref (a 3)), (1, .int (nI k - 1))]) ⟨rfl, lki (add_m1 _), trivial⟩ ?_
              exact ih7 k x' f' i' (by omega) (by omega) hsp h9 hps hok ((bea_n hlt hkd).symm.trans heq)
            · have hkd : isB (kd k) = true := (isB_iff _).mpr (Or.inr (Classical.not_not.mp (fun h => c_7 ((isOf_2 _ (hv.2.2 k hk).2).mpr h))))
              refine z_aload_n C (pc := 44) dX1_eatBeasts_44 rfl ?_
              refine z_iload_n C (pc := 45) dX1_eatBeasts_45 rfl ?_
              refine z_callvF C (by exact fun _ => cW_ad) (runV C (wc := (cW cI a i' r)) (pc := 46) (rY' := rm 1 21) (nn := 1) (As := [.int (nI k)]) (rest := []) (c_devour l D cI tt a i' r kd n x' f' hv' hps hok k hk) (full_hC _) (full_nd _) ⟨rfl, rfl, ⟨Nat.le_of_ble_eq_true rfl, Nat.le_of_ble_eq_true rfl⟩, Nat.le_of_ble_eq_true rfl, Nat.le_of_ble_eq_true rfl⟩ wl_X1_78 wm_X1_devour we_X1_devour wi_X1 wc_X1_devour (by decide +kernel) rfl 3 rfl rfl rfl rfl (Nat.le_of_ble_eq_true rfl) dX1_eatBeasts_46) (fun u_8 h_8 => ?_)
              generalize u_8 = i8 at h_8 ⊢
              obtain ⟨g1, g2, g3⟩ := h_8
              refine z_ws (st' := []) (ws' := (cW cI a i8 r)) rfl rfl ?_
              refine z_iinc C (pc := 49) (v := ((nI k) + (-1))) (lv' := [(0, .ref (a 3)), (1, .int ((nI k) + (-1))), (2, .int (nI (kd k)))]) dX1_eatBeasts_49 rfl rfl (Nat.le_of_ble_eq_true rfl) rfl rfl ?_
              refine z_goto C (pc := 52) (tgt := 7) dX1_eatBeasts_52 (by decide) ?_
              refine z_lv (lv' := [(0, .ref (a 3)), (1, .int (nI k - 1))]) ⟨rfl, lki (add_m1 _), trivial⟩ ?_
              exact ih7 k ((dev kd n k (x', f')).1) ((dev kd n k (x', f')).2) i8 (by omega) (by omega) (hsp.tr g1) (g2.trans h9) g3 (dev_ok hn6 hk hok) ((bea_s hlt hkd).symm.trans heq)
  refine z_lv (lv' := [(0, .ref (a 3)), (1, .int (nI n - 1))]) ⟨rfl, lki (by rw [hv.1]), trivial⟩ ?_
  exact key7 (_ + 1) n x f i (Nat.lt_succ_self _) (Nat.le_refl _) SP.rf rfl hs ho rfl

set_option maxHeartbeats 4000000 in
set_option maxRecDepth 100000 in
theorem c_setOut (l : Launch) (D : va_G) (cI : ClassId) (tt : Nat × Nat × Nat) (a : Nat → Nat) (i : Nat → Int32) (r : Nat → Nat → Int32) (kd : Nat → Nat) (n x f : Nat) (hv : PV i r kd n) (hx : x < 2 ^ n) (hf : f ≤ 40) : MetV (S := (Nat → Int32)) l yX1_setOut cX1_setOut 3 none (rm 2 45) D cI tt [.ref (a 3), .int (nI x), .int (nI f)] (cW cI a i r) (fun i' => SP i i' ∧ i' 9 = 0 ∧ PS i' kd n x (min f (sumk pls kd x n))) (fun i' => cW cI a i' r) := by
  have hn6 := hv.2.1
  have hx6 := pow_le6 hn6
  refine met_ofV (by decide) (Nat.le_of_ble_eq_true rfl) ?_
  intro pP eE sS mM aV bB mE cC AA C hin
  refine z_conv (lv' := [(0, .ref (a 3)), (1, .int (nI x)), (2, .int (nI f))]) ⟨rfl, rfl, rfl, trivial⟩ rfl rfl ?_
  refine z_aload_n C (pc := 0) dX1_setOut_0 rfl ?_
  refine z_iload_n C (pc := 1) dX1_setOut_1 rfl ?_
  refine z_put C (pc := 2) 3 rfl rfl wf_X1 3 (by decide) rfl tyX1 tyX1_ok nmX1 rfl rfl rfl (Nat.le_of_ble_eq_true rfl) (ws' := (cW cI a (upd i 5 (nI x)) r)) rfl wl_X1_40 dX1_setOut_2 ?_
  refine z_aload_n C (pc := 5) dX1_setOut_5 rfl ?_
  refine z_aload_n C (pc := 6) dX1_setOut_6 rfl ?_
  refine z_iload_n C (pc := 7) dX1_setOut_7 rfl ?_
  refine z_getsN C (pc := 8) C.2.2.2.2.2.2.2.1.1.1 wl_X1_56 dX1_setOut_8 ?_
  refine z_calliF C (by exact fun _ => cW_ad) (runV C (wc := (cW cI a (upd i 5 (nI x)) r)) (pc := 11) (rY' := rm 1 21) (nn := 2) (As := [.int (nI x), .ref tt.1]) (rest := [.ref (a 3)]) (c_togetherP l D cI tt a (upd i 5 (nI x)) r kd n x (hv.sp (SP.rf.up (by omega)) SR.rf) (by omega)) (full_hC _) (full_nd _) ⟨rfl, rfl, ⟨Nat.le_of_ble_eq_true rfl, Nat.le_of_ble_eq_true rfl⟩, Nat.le_of_ble_eq_true rfl, Nat.le_of_ble_eq_true rfl⟩ wl_X1_59 wm_X1_together we_X1_together wi_X1 wc_X1_together (by decide +kernel) rfl 3 rfl rfl rfl rfl (Nat.le_of_ble_eq_true rfl) dX1_setOut_11) (fun q_1 u_1 h_1 => ?_)
  subst h_1
  refine z_ws (st' := [.int (nI (sumk pls kd x n)), .ref (a 3)]) (ws' := (cW cI a (upd i 5 (nI x)) r)) rfl rfl ?_
  refine z_put C (pc := 14) 3 rfl rfl wf_X1 5 (by decide) rfl tyX1 tyX1_ok nmX1 rfl rfl rfl (Nat.le_of_ble_eq_true rfl) (ws' := (cW cI a (upd (upd i 5 (nI x)) 7 (nI (sumk pls kd x n))) r)) rfl wl_X1_63 dX1_setOut_14 ?_
  refine z_aload_n C (pc := 17) dX1_setOut_17 rfl ?_
  refine z_aload_n C (pc := 18) dX1_setOut_18 rfl ?_
  refine z_iload_n C (pc := 19) dX1_setOut_19 rfl ?_
  refine z_getsN C (pc := 20) C.2.2.2.2.2.2.2.1.2.1.1 wl_X1_66 dX1_setOut_20 ?_
  refine z_calliF C (by exact fun _ => cW_ad) (runV C (wc := (cW cI a (upd (upd i 5 (nI x)) 7 (nI (sumk pls kd x n))) r)) (pc := 23) (rY' := rm 1 21) (nn := 2) (As := [.int (nI x), .ref tt.2.1]) (rest := [.ref (a 3)]) (c_togetherE l D cI tt a (upd (upd i 5 (nI x)) 7 (nI (sumk pls kd x n))) r kd n x (hv.sp ((SP.rf.up (by omega)).up (by omega)) SR.rf) (by omega)) (full_hC _) (full_nd _) ⟨rfl, rfl, ⟨Nat.le_of_ble_eq_true rfl, Nat.le_of_ble_eq_true rfl⟩, Nat.le_of_ble_eq_true rfl, Nat.le_of_ble_eq_true rfl⟩ wl_X1_59 wm_X1_together we_X1_together wi_X1 wc_X1_together (by decide +kernel) rfl 3 rfl rfl rfl rfl (Nat.le_of_ble_eq_true rfl) dX1_setOut_23) (fun q_2 u_2 h_2 => ?_)
  subst h_2
  refine z_ws (st' := [.int (nI (sumk ets kd x n)), .ref (a 3)]) (ws' := (cW cI a (upd (upd i 5 (nI x)) 7 (nI (sumk pls kd x n))) r)) rfl rfl ?_
  refine z_put C (pc := 26) 3 rfl rfl wf_X1 6 (by decide) rfl tyX1 tyX1_ok nmX1 rfl rfl rfl (Nat.le_of_ble_eq_true rfl) (ws' := (cW cI a (upd (upd (upd i 5 (nI x)) 7 (nI (sumk pls kd x n))) 8 (nI (sumk ets kd x n))) r)) rfl wl_X1_46 dX1_setOut_26 ?_
  refine z_aload_n C (pc := 29) dX1_setOut_29 rfl ?_
  refine z_iload_n C (pc := 30) dX1_setOut_30 rfl ?_
  refine z_aload_n C (pc := 31) dX1_setOut_31 rfl ?_
  refine z_get C (pc := 32) 3 rfl rfl wf_X1 5 (by decide) rfl wl_X1_63 (v := .int (nI (sumk pls kd x n))) rfl dX1_setOut_32 ?_
  refine z_mmin C (pc := 35) wl_X1_69 (Nat.le_of_ble_eq_true rfl) (Nat.le_of_ble_eq_true rfl) (Nat.zero_le _) (Nat.zero_le _) dX1_setOut_35 ?_
  refine z_put C (pc := 38) 3 rfl rfl wf_X1 4 (by decide) rfl tyX1 tyX1_ok nmX1 rfl rfl rfl (Nat.le_of_ble_eq_true rfl) (ws' := (cW cI a (upd (upd (upd (upd i 5 (nI x)) 7 (nI (sumk pls kd x n))) 8 (nI (sumk ets kd x n))) 6 (if (nI (sumk pls kd x n)) < (nI f) then (nI (sumk pls kd x n)) else (nI f))) r)) rfl wl_X1_43 dX1_setOut_38 ?_
  refine z_aload_n C (pc := 41) dX1_setOut_41 rfl ?_
  refine z_iconst C (pc := 42) (v := 0) dX1_setOut_42 (by decide) ?_
  refine z_put C (pc := 43) 3 rfl rfl wf_X1 7 (by decide) rfl tyX1 tyX1_ok nmX1 rfl rfl rfl (Nat.le_of_ble_eq_true rfl) (ws' := (cW cI a (upd (upd (upd (upd (upd i 5 (nI x)) 7 (nI (sumk pls kd x n))) 8 (nI (sumk ets kd x n))) 6 (if (nI (sumk pls kd x n)) < (nI f) then (nI (sumk pls kd x n)) else (nI f))) 9 0) r)) rfl wl_X1_75 dX1_setOut_43 ?_
  refine z_vret C (pc := 46) (upd (upd (upd (upd (upd i 5 (nI x)) 7 (nI (sumk pls kd x n))) 8 (nI (sumk ets kd x n))) 6 (if (nI (sumk pls kd x n)) < (nI f) then (nI (sumk pls kd x n)) else (nI f))) 9 0) dX1_setOut_46 ?_ rfl
  refine ⟨((((SP.rf.up (by omega)).up (by omega)).up (by omega)).up (by omega)).up (by omega), by simp [upd], by simp [upd], ?_, by simp [upd], by simp [upd]⟩
  rw [upd_n (by decide), upd_s]
  exact min_nI (by omega) (by have := pl_le (kd := kd) (x := x) hn6; omega)

set_option maxHeartbeats 4000000 in
set_option maxRecDepth 100000 in
theorem c_takeUpAt (l : Launch) (D : va_G) (cI : ClassId) (tt : Nat × Nat × Nat) (a : Nat → Nat) (i : Nat → Int32) (r : Nat → Nat → Int32) (kd : Nat → Nat) (n x f : Nat) (hv : PV i r kd n) (hs : PS i kd n x f) (ho : OK kd n x f) (c : Nat → Nat) (hc : ∀ k, k < 5 → r 2 k = nI (c k) ∧ c k ≤ 9) (q : Nat) (hq : q < 6) : MetV (S := ((Nat → Int32) × (Nat → Nat → Int32))) l yX1_takeUpAt cX1_takeUpAt 3 none (rm 1 22) D cI tt [.ref (a 3), .int (nI q)] (cW cI a i r) (fun u => SP i u.1 ∧ SR r u.2 ∧ u.1 9 = i 9 ∧ PS u.1 kd n x (takev kd n q (x, f) c).1 ∧ ∀ k, k < 5 → u.2 2 k = nI ((takev kd n q (x, f) c).2 k)) (fun u => cW cI a u.1 u.2) := by
  have hn6 := hv.2.1
  have hx6 := pow_le6 hn6
  have hx := ho.1
  refine met_ofV (by decide) (Nat.le_of_ble_eq_true rfl) ?_
  intro pP eE sS mM aV bB mE cC AA C hin
  refine z_conv (lv' := [(0, .ref (a 3)), (1, .int (nI q))]) ⟨rfl, rfl, trivial⟩ rfl rfl ?_
  refine z_aload_n C (pc := 0) dX1_takeUpAt_0 rfl ?_
  refine z_get C (pc := 1) 3 rfl rfl wf_X1 2 (by decide) rfl wl_X1_15 (v := .ref (a 5)) rfl dX1_takeUpAt_1 ?_
  refine z_iload_n C (pc := 4) dX1_takeUpAt_4 rfl ?_
  refine z_iconst C (pc := 5) (v := 1) dX1_takeUpAt_5 (by decide) ?_
  refine z_isub C (pc := 6) dX1_takeUpAt_6 ?_
  refine z_calli C (isC := [5]) rfl (by exact fun _ => rfl) (runSN C (wc := [(a 5, .inl (cI, 5, .inl (r 2)))]) (pc := 7) (rY' := rm 0 0) (nn := 2) (As := [.ref (a 5), .int ((nI q) - 1)]) (rest := []) (c_at l D cI tt (a 5) 5 (r 2) ((nI q) - 1) (by decide)) rfl rfl ⟨rfl, rfl, ⟨Nat.le_of_ble_eq_true rfl, Nat.le_of_ble_eq_true rfl⟩, Nat.le_of_ble_eq_true rfl, Nat.le_of_ble_eq_true rfl⟩ wl_X1_22 ws_X3_at wi_X3 wc_X3_at (by decide +kernel) rfl rfl (Nat.le_of_ble_eq_true rfl) dX1_takeUpAt_7) (fun r_1 u_1 h_1 => ?_)
  have h_1 : r_1 = (nI (cav c q)) := h_1.trans (at_c hq hc)
  subst h_1
  refine z_ws (st' := [.int (nI (cav c q))]) (ws' := (cW cI a i r)) rfl rfl ?_
  refine z_aload_n C (pc := 10) dX1_takeUpAt_10 rfl ?_
  refine z_get C (pc := 11) 3 rfl rfl wf_X1 5 (by decide) rfl wl_X1_63 (v := .int (i 7)) rfl dX1_takeUpAt_11 ?_
  refine z_aload_n C (pc := 14) dX1_takeUpAt_14 rfl ?_
  refine z_get C (pc := 15) 3 rfl rfl wf_X1 4 (by decide) rfl wl_X1_43 (v := .int (i 6)) rfl dX1_takeUpAt_15 ?_
  refine z_isub C (pc := 18) dX1_takeUpAt_18 ?_
  refine z_mmin C (pc := 19) wl_X1_69 (Nat.le_of_ble_eq_true rfl) (Nat.le_of_ble_eq_true rfl) (Nat.zero_le _) (Nat.zero_le _) dX1_takeUpAt_19 ?_
  refine z_topi (fun t_2 et_2 => ?_)
  refine z_istore_n C (pc := 22) (lv' := [(0, .ref (a 3)), (1, .int (nI q)), (2, .int t_2)]) dX1_takeUpAt_22 (Nat.le_of_ble_eq_true rfl) rfl rfl ?_
  have ht : t_2 = (nI (min (cav c q) (sumk pls kd x n - f))) := by rw [et_2, hs.2.2.1, hs.2.1, pk_sub ho.2, min_nI (by have := cav_le c q hc hq; omega) (by have := pl_le (kd := kd) (x := x) hn6; omega)]
  subst ht
  refine z_lv (lv' := [(0, .ref (a 3)), (1, .int (nI q)), (2, .int (nI (min (cav c q) (sumk pls kd x n - f))))]) ⟨rfl, rfl, rfl, trivial⟩ ?_
  refine z_aload_n C (pc := 23) dX1_takeUpAt_23 rfl ?_
  refine z_get C (pc := 24) 3 rfl rfl wf_X1 2 (by decide) rfl wl_X1_15 (v := .ref (a 5)) rfl dX1_takeUpAt_24 ?_
  refine z_iload_n C (pc := 27) dX1_takeUpAt_27 rfl ?_
  refine z_iconst C (pc := 28) (v := 1) dX1_takeUpAt_28 (by decide) ?_
  refine z_isub C (pc := 29) dX1_takeUpAt_29 ?_
  refine z_aload_n C (pc := 30) dX1_takeUpAt_30 rfl ?_
  refine z_get C (pc := 31) 3 rfl rfl wf_X1 2 (by decide) rfl wl_X1_15 (v := .ref (a 5)) rfl dX1_takeUpAt_31 ?_
  refine z_iload_n C (pc := 34) dX1_takeUpAt_34 rfl ?_
  refine z_iconst C (pc := 35) (v := 1) dX1_takeUpAt_35 (by decide) ?_
  refine z_isub C (pc := 36) dX1_takeUpAt_36 ?_
  refine z_calli C (isC := [5]) rfl (by exact fun _ => rfl) (runSN C (wc := [(a 5, .inl (cI, 5, .inl (r 2)))]) (pc := 37) (rY' := rm 0 0) (nn := 2) (As := [.ref (a 5), .int ((nI q) - 1)]) (rest := [.int ((nI q) - 1), .ref (a 5)]) (c_at l D cI tt (a 5) 5 (r 2) ((nI q) - 1) (by decide)) rfl rfl ⟨rfl, rfl, ⟨Nat.le_of_ble_eq_true rfl, Nat.le_of_ble_eq_true rfl⟩, Nat.le_of_ble_eq_true rfl, Nat.le_of_ble_eq_true rfl⟩ wl_X1_22 ws_X3_at wi_X3 wc_X3_at (by decide +kernel) rfl rfl (Nat.le_of_ble_eq_true rfl) dX1_takeUpAt_37) (fun r_3 u_3 h_3 => ?_)
  have h_3 : r_3 = (nI (cav c q)) := h_3.trans (at_c hq hc)
  subst h_3
  refine z_ws (st' := [.int (nI (cav c q)), .int ((nI q) - 1), .ref (a 5)]) (ws' := (cW cI a i r)) rfl rfl ?_
  refine z_iload_n C (pc := 40) dX1_takeUpAt_40 rfl ?_
  refine z_isub C (pc := 41) dX1_takeUpAt_41 ?_
  refine z_callv C (isC := [5]) rfl (by exact fun _ => rfl) (runSN C (wc := [(a 5, .inl (cI, 5, .inl (r 2)))]) (pc := 42) (rY' := rm 0 0) (nn := 3) (As := [.ref (a 5), .int ((nI q) - 1), .int ((nI (cav c q)) - (nI (min (cav c q) (sumk pls kd x n - f))))]) (rest := []) (c_put l D cI tt (a 5) 5 (r 2) ((nI q) - 1) ((nI (cav c q)) - (nI (min (cav c q) (sumk pls kd x n - f)))) (by decide)) rfl rfl ⟨rfl, rfl, ⟨Nat.le_of_ble_eq_true rfl, Nat.le_of_ble_eq_true rfl⟩, Nat.le_of_ble_eq_true rfl, Nat.le_of_ble_eq_true rfl⟩ wl_X1_88 ws_X3_put wi_X3 wc_X3_put (by decide +kernel) rfl rfl (Nat.le_of_ble_eq_true rfl) dX1_takeUpAt_42) (fun u_4 h_4 => ?_)
  subst h_4
  refine z_ws (st' := []) (ws' := (cW cI a i (va_up r 2 (putv 5 (r 2) ((nI q) - 1) ((nI (cav c q)) - (nI (min (cav c q) (sumk pls kd x n - f)))))))) rfl rfl ?_
  refine z_aload_n C (pc := 45) dX1_takeUpAt_45 rfl ?_
  refine z_dup C (pc := 46) dX1_takeUpAt_46 rfl ?_
  refine z_get C (pc := 47) 3 rfl rfl wf_X1 4 (by decide) rfl wl_X1_43 (v := .int (i 6)) rfl dX1_takeUpAt_47 ?_
  refine z_iload_n C (pc := 50) dX1_takeUpAt_50 rfl ?_
  refine z_iadd C (pc := 51) dX1_takeUpAt_51 ?_
  refine z_put C (pc := 52) 3 rfl rfl wf_X1 4 (by decide) rfl tyX1 tyX1_ok nmX1 rfl rfl rfl (Nat.le_of_ble_eq_true rfl) (ws' := (cW cI a (upd i 6 ((i 6) + (nI (min (cav c q) (sumk pls kd x n - f))))) (va_up r 2 (putv 5 (r 2) ((nI q) - 1) ((nI (cav c q)) - (nI (min (cav c q) (sumk pls kd x n - f)))))))) rfl wl_X1_43 dX1_takeUpAt_52 ?_
  refine z_vret C (pc := 55) ((upd i 6 ((i 6) + (nI (min (cav c q) (sumk pls kd x n - f))))), (va_up r 2 (putv 5 (r 2) ((nI q) - 1) ((nI (cav c q)) - (nI (min (cav c q) (sumk pls kd x n - f))))))) dX1_takeUpAt_55 ?_ rfl
  have hcv := cav_le c q hc hq
  have hpl := pl_le (kd := kd) (x := x) hn6
  have hof := ho.2
  refine ⟨SP.rf.up (by omega), SR.rf.up, by simp [upd], ⟨by simp [upd]; exact hs.1, ?_, by simp [upd]; exact hs.2.2.1, by simp [upd]; exact hs.2.2.2⟩, fun k hk => ?_⟩
  · dsimp only
    rw [upd_s, hs.2.1, nI_add]
    unfold takev cav
    by_cases e : q = 0
    · rw [if_pos e, if_pos e]; simp
    · rw [if_neg e, if_neg e]
  · dsimp only
    rw [vup_s, put_c hq]
    unfold takev cav
    by_cases e : q = 0
    · rw [if_pos e, if_pos e]; exact (hc k hk).1
    · rw [if_neg e, if_neg e, if_neg e]
      show upd (r 2) (q - 1) _ k = nI (upN c (q - 1) _ k)
      unfold upd upN
      by_cases e2 : k = q - 1
      · rw [if_pos e2, if_pos e2, pk_sub (Nat.min_le_left _ _)]
      · rw [if_neg e2, if_neg e2]; exact (hc k hk).1
