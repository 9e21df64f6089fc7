theorem camp_at {f : Nat → Int32} {L : Nat} (hL : L ≤ 15) (h : (scv f L 0 0).1 = L) : atv 15 f (nI L - 5 - 1) = 59 ↔ ((scv f L 0 0).2 ≠ 0 ∧ L = (scv f L 0 0).2 + 5) := by
  have hs := scv_SI (f := f) L 0 0 SI_0
  rw [h] at hs
  obtain ⟨h1, h2, h3, -⟩ := hs
  by_cases h6 : 6 ≤ L
  · have e : nI L - 5 - 1 = nI (L - 6) := by
      rw [show (5 : Int32) = nI 5 from rfl, pk_sub (by omega), show (1 : Int32) = nI 1 from rfl, pk_sub (by omega)]
      rfl
    rw [e, atv_nI (by omega) (by decide), h1 (L - 6) (by omega)]
    omega
  · have hneg : (nI L - 5 - 1) < 0 := (show ∀ L, L < 6 → nI L - 5 - 1 < 0 by decide +kernel) L (by omega)
    have e : atv 15 f (nI L - 5 - 1) = 0 := by unfold atv; rw [if_pos hneg]
    rw [e]
    refine ⟨fun h => absurd h (by decide), fun h => ?_⟩
    have := h2 h.1
    omega
theorem crn_eq {t : Nat} (h : t < 2147483648) : nI t >>> ((16 : Int32) &&& 31) - nI t >>> ((16 : Int32) &&& 31) / 3 * 3 = nI (crn t) := by
  have e : nI t >>> ((16 : Int32) &&& 31) = nI (t / 2 ^ 16) := pk_shrN h _ 16 (by decide)
  rw [e]
  have e2 := pk_rem (a := t / 2 ^ 16) (d := 3) (by omega) (by decide) (by decide)
  have e3 : (3 : Int32) = nI 3 := rfl
  rw [e3, e2]
  unfold crn
  rw [show (2 : Nat) ^ 16 = 65536 from rfl]
theorem crw_s (j : Nat) (z : Nat × (Nat → Nat)) : crw (j + 1) z = crp 5 (crw j z) := rfl
theorem crp_1 (k : Nat) (z : Nat × (Nat → Nat)) : (crp (k + 1) z).1 = nxt (crp k z).1 := rfl
theorem crp_2 (k : Nat) (z : Nat × (Nat → Nat)) : (crp (k + 1) z).2 = upN (crp k z).2 k ((crp k z).2 k - crn (nxt (crp k z).1)) := rfl
def CRO (z : Nat × (Nat → Nat)) : Prop := z.1 < 2147483648 ∧ ∀ k, k < 5 → z.2 k ≤ 9
theorem crp_ok {z : Nat × (Nat → Nat)} (h : CRO z) : ∀ k, CRO (crp k z)
  | 0 => h
  | k + 1 => by
    have h1 := crp_ok h k
    refine ⟨nxt_lt _, fun q hq => ?_⟩
    show upN _ k _ q ≤ 9
    unfold upN
    by_cases e : q = k
    · rw [if_pos e]; exact Nat.le_trans (Nat.sub_le _ _) (h1.2 k (by omega))
    · rw [if_neg e]; exact h1.2 q hq
theorem crw_ok {t : Nat} {c : Nat → Nat} (ht : t < 2147483648) (hc : ∀ k, k < 5 → c k ≤ 9) : ∀ j, CRO (crw j (t, c))
  | 0 => ⟨ht, hc⟩
  | j + 1 => crp_ok (crw_ok ht hc j) 5
set_option maxHeartbeats 4000000 in
set_option maxRecDepth 100000 in
theorem c_begin (l : Launch) (D : va_G) (cI : ClassId) (tt : Nat × Nat × Nat) (a : Nat → Nat) (i : Nat → Int32) (r : Nat → Nat → Int32) (x : Int32) : MetV (S := ((Nat → Int32) × (Nat → Nat → Int32))) l yX2_begin cX2_begin 2 none (rm 0 0) D cI tt [.ref (a 6), .int x] (cW cI a i r) (fun u => u = ((upd (upd (upd (upd i 10 x) 11 0) 12 0) 13 0), r)) (fun u => cW cI a u.1 u.2) := by
  refine met_ofV (by decide) (Nat.le_of_ble_eq_true rfl) ?_
  intro pP eE sS mM aV bB mE cC AA C hin
  refine z_conv (lv' := [(0, .ref (a 6)), (1, .int x)]) ⟨rfl, rfl, trivial⟩ rfl rfl ?_
  refine z_aload_n C (pc := 0) dX2_begin_0 rfl ?_
  refine z_iload_n C (pc := 1) dX2_begin_1 rfl ?_
  refine z_put C (pc := 2) 6 rfl rfl wf_X2 0 (by decide) rfl tyX2 tyX2_ok nmX2 rfl rfl rfl (Nat.le_of_ble_eq_true rfl) (ws' := (cW cI a (upd i 10 x) r)) rfl wl_X2_27 dX2_begin_2 ?_
  refine z_aload_n C (pc := 5) dX2_begin_5 rfl ?_
  refine z_iconst C (pc := 6) (v := 0) dX2_begin_6 (by decide) ?_
  refine z_put C (pc := 7) 6 rfl rfl wf_X2 2 (by decide) rfl tyX2 tyX2_ok nmX2 rfl rfl rfl (Nat.le_of_ble_eq_true rfl) (ws' := (cW cI a (upd (upd i 10 x) 11 0) r)) rfl wl_X2_31 dX2_begin_7 ?_
  refine z_aload_n C (pc := 10) dX2_begin_10 rfl ?_
  refine z_iconst C (pc := 11) (v := 0) dX2_begin_11 (by decide) ?_
  refine z_put C (pc := 12) 6 rfl rfl wf_X2 3 (by decide) rfl tyX2 tyX2_ok nmX2 rfl rfl rfl (Nat.le_of_ble_eq_true rfl) (ws' := (cW cI a (upd (upd (upd i 10 x) 11 0) 12 0) r)) rfl wl_X2_34 dX2_begin_12 ?_
  refine z_aload_n C (pc := 15) dX2_begin_15 rfl ?_
  refine z_iconst C (pc := 16) (v := 0) dX2_begin_16 (by decide) ?_
  refine z_put C (pc := 17) 6 rfl rfl wf_X2 4 (by decide) rfl tyX2 tyX2_ok nmX2 rfl rfl rfl (Nat.le_of_ble_eq_true rfl) (ws' := (cW cI a (upd (upd (upd (upd i 10 x) 11 0) 12 0) 13 0) r)) rfl wl_X2_37 dX2_begin_17 ?_
  refine z_vret C (pc := 20) ((upd (upd (upd (upd i 10 x) 11 0) 12 0) 13 0), r) dX2_begin_20 ?_ rfl
  rfl




set_option maxHeartbeats 4000000 in
set_option maxRecDepth 100000 in
theorem c_isCamp (l : Launch) (D : va_G) (cI : ClassId) (tt : Nat × Nat × Nat) (a : Nat → Nat) (i : Nat → Int32) (r : Nat → Nat → Int32) (L : Nat) (hl : i 3 = nI L) (hL : L ≤ 15) : MetI (S := Unit) l yX0_isCamp cX0_isCamp 1 (some .boolean) (rm 3 66) D cI tt [.ref (a 1)] (cW cI a i r) (fun q _ => q = b2 (campb (r 0) L)) (fun _ => cW cI a i r) := by
  refine met_ofI (by decide) (Nat.le_of_ble_eq_true rfl) ?_
  intro pP eE sS mM aV bB mE cC AA C hin
  refine z_conv (lv' := [(0, .ref (a 1))]) ⟨rfl, trivial⟩ rfl rfl ?_
  refine z_aload_n C (pc := 0) dX0_isCamp_0 rfl ?_
  refine z_calliF C (by exact fun _ => cW_ad) (runV C (wc := (cW cI a i r)) (pc := 1) (rY' := rm 2 42) (nn := 0) (As := []) (rest := []) (c_firstWrong l D cI tt a i r L hl hL) (full_hC _) (full_nd _) ⟨rfl, rfl, ⟨Nat.le_of_ble_eq_true rfl, Nat.le_of_ble_eq_true rfl⟩, Nat.le_of_ble_eq_true rfl, Nat.le_of_ble_eq_true rfl⟩ wl_X0_34 wm_X0_firstWrong we_X0_firstWrong wi_X0 wc_X0_firstWrong (by decide +kernel) rfl 1 rfl rfl rfl rfl (Nat.le_of_ble_eq_true rfl) dX0_isCamp_1) (fun q_1 u_1 h_1 => ?_)
  subst h_1
  refine z_ws (st' := [.int (nI (scv (r 0) L 0 0).1)]) (ws' := (cW cI a i r)) rfl rfl ?_
  refine z_aload_n C (pc := 4) dX0_isCamp_4 rfl ?_
  refine z_get C (pc := 5) 1 rfl rfl wf_X0 1 (by decide) rfl wl_X0_15 (v := .int (i 3)) rfl dX0_isCamp_5 ?_
  refine z_icmp_ne C (pc := 8) (tgt := 32) dX0_isCamp_8 (by decide) (fun c_2 => ?_) (fun c_2 => ?_)
  · rw [hl] at c_2
    have hsl := scv_le (f := r 0) L 0 0
    have hx : ¬ (scv (r 0) L 0 0).1 = L := fun h => c_2 (by rw [h])
    refine z_iconst C (pc := 32) (v := 0) dX0_isCamp_32 (by decide) ?_
    refine z_zret C (pc := 33) () dX0_isCamp_33 rfl ?_ rfl
    unfold campb b2
    rw [decide_eq_false hx]
    rfl
  · rw [hl] at c_2
    have hsl := scv_le (f := r 0) L 0 0
    have hx : (scv (r 0) L 0 0).1 = L := (nI_eq (by omega) (by omega)).mp c_2
    refine z_aload_n C (pc := 11) dX0_isCamp_11 rfl ?_
    refine z_aload_n C (pc := 12) dX0_isCamp_12 rfl ?_
    refine z_get C (pc := 13) 1 rfl rfl wf_X0 1 (by decide) rfl wl_X0_15 (v := .int (i 3)) rfl dX0_isCamp_13 ?_
    refine z_iconst C (pc := 16) (v := 5) dX0_isCamp_16 (by decide) ?_
    refine z_isub C (pc := 17) dX0_isCamp_17 ?_
    refine z_iconst C (pc := 18) (v := 1) dX0_isCamp_18 (by decide) ?_
    refine z_isub C (pc := 19) dX0_isCamp_19 ?_
    refine z_calliF C (by exact fun _ => cW_ad) (runV C (wc := (cW cI a i r)) (pc := 20) (rY' := rm 1 21) (nn := 1) (As := [.int (((i 3) - 5) - 1)]) (rest := []) (c_codeAt l D cI tt a i r (((i 3) - 5) - 1)) (full_hC _) (full_nd _) ⟨rfl, rfl, ⟨Nat.le_of_ble_eq_true rfl, Nat.le_of_ble_eq_true rfl⟩, Nat.le_of_ble_eq_true rfl, Nat.le_of_ble_eq_true rfl⟩ wl_X0_27 wm_X0_codeAt we_X0_codeAt wi_X0 wc_X0_codeAt (by decide +kernel) rfl 1 rfl rfl rfl rfl (Nat.le_of_ble_eq_true rfl) dX0_isCamp_20) (fun q_3 u_3 h_3 => ?_)
    subst h_3
    refine z_ws (st' := [.int (atv 15 (r 0) (((i 3) - 5) - 1))]) (ws' := (cW cI a i r)) rfl rfl ?_
    refine z_bipush C (pc := 23) (v := 59) dX0_isCamp_23 (by decide) ?_
    refine z_icmp_ne C (pc := 25) (tgt := 32) dX0_isCamp_25 (by decide) (fun c_4 => ?_) (fun c_4 => ?_)
    · refine z_iconst C (pc := 32) (v := 0) dX0_isCamp_32 (by decide) ?_
      refine z_zret C (pc := 33) () dX0_isCamp_33 rfl ?_ rfl
      rw [hl] at c_4
      have hy : ¬ ((scv (r 0) L 0 0).2 ≠ 0 ∧ L = (scv (r 0) L 0 0).2 + 5) := fun h => c_4 ((camp_at hL hx).mpr h)
      unfold campb b2
      rw [decide_eq_true hx, Bool.true_and, ← Bool.decide_and, decide_eq_false hy]
      rfl
    · refine z_iconst C (pc := 28) (v := 1) dX0_isCamp_28 (by decide) ?_
      refine z_goto C (pc := 29) (tgt := 33) dX0_isCamp_29 (by decide) ?_
      refine z_zret C (pc := 33) () dX0_isCamp_33 rfl ?_ rfl
      rw [hl] at c_4
      have hy := (camp_at hL hx).mp c_4
      unfold campb b2
      rw [decide_eq_true hx, decide_eq_true hy.1, decide_eq_true hy.2]
      rfl
