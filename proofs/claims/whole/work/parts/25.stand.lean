theorem camp_at {f : Nat → Int32} {L : Nat} (hL : L ≤ 15) (h : (scv f L 0 0).1 = L) : atv 15 f (nI L - 5 - 1) = 59 ↔ ((scv f L 0 0).2 ≠ 0 ∧ L = (scv f L 0 0).2 + 5) := by
  have hs := scv_SI (f := f) L 0 0 SI_0
  rw [h] at hs
  obtain ⟨h1, h2, h3, -⟩ := hs
  by_cases h6 : 6 ≤ L
  · have e : nI L - 5 - 1 = nI (L - 6) := by
      rw [show (5 : Int32) = nI 5 from rfl, pk_sub (by omega), show (1 : Int32) = nI 1 from rfl, pk_sub (by omega)]
      rfl
    rw [e, atv_nI (by omega) (by decide), h1 (L - 6) (by omega)]
    omega
  · have hneg : (nI L - 5 - 1) < 0 := (show ∀ L, L < 6 → nI L - 5 - 1 < 0 by decide +kernel) L (by omega)
    have e : atv 15 f (nI L - 5 - 1) = 0 := by unfold atv; rw [if_pos hneg]
    rw [e]
    refine ⟨fun h => absurd h (by decide), fun h => ?_⟩
    have := h2 h.1
    omega
theorem crn_eq {t : Nat} (h : t < 2147483648) : nI t >>> ((16 : Int32) &&& 31) - nI t >>> ((16 : Int32) &&& 31) / 3 * 3 = nI (crn t) := by
  have e : nI t >>> ((16 : Int32) &&& 31) = nI (t / 2 ^ 16) := pk_shrN h _ 16 (by decide)
  rw [e]
  have e2 := pk_rem (a := t / 2 ^ 16) (d := 3) (by omega) (by decide) (by decide)
  have e3 : (3 : Int32) = nI 3 := rfl
  rw [e3, e2]
  unfold crn
  rw [show (2 : Nat) ^ 16 = 65536 from rfl]
theorem crw_s (j : Nat) (z : Nat × (Nat → Nat)) : crw (j + 1) z = crp 5 (crw j z) := rfl
theorem crp_1 (k : Nat) (z : Nat × (Nat → Nat)) : (crp (k + 1) z).1 = nxt (crp k z).1 := rfl
theorem crp_2 (k : Nat) (z : Nat × (Nat → Nat)) : (crp (k + 1) z).2 = upN (crp k z).2 k ((crp k z).2 k - crn (nxt (crp k z).1)) := rfl
def CRO (z : Nat × (Nat → Nat)) : Prop := z.1 < 2147483648 ∧ ∀ k, k < 5 → z.2 k ≤ 9
theorem crp_ok {z : Nat × (Nat → Nat)} (h : CRO z) : ∀ k, CRO (crp k z)
  | 0 => h
  | k + 1 => by
    have h1 := crp_ok h k
    refine ⟨nxt_lt _, fun q hq => ?_⟩
    show upN _ k _ q ≤ 9
    unfold upN
    by_cases e : q = k
    · rw [if_pos e]; exact Nat.le_trans (Nat.sub_le _ _) (h1.2 k (by omega))
    · rw [if_neg e]; exact h1.2 q hq
theorem crw_ok {t : Nat} {c : Nat → Nat} (ht : t < 2147483648) (hc : ∀ k, k < 5 → c k ≤ 9) : ∀ j, CRO (crw j (t, c))
  | 0 => ⟨ht, hc⟩
  | j + 1 => crp_ok (crw_ok ht hc j) 5
set_option maxHeartbeats 4000000 in
set_option maxRecDepth 100000 in
theorem c_begin (l : Launch) (D : va_G) (cI : ClassId) (tt : Nat × Nat × Nat) (a : Nat → Nat) (i : Nat → Int32) (r : Nat → Nat → Int32) (x : Int32) : MetV (S := ((Nat → Int32) × (Nat → Nat → Int32))) l yX2_begin cX2_begin 2 none (rm 0 0) D cI tt [.ref (a 6), .int x] (cW cI a i r) (fun u => u = ((upd (upd (upd (upd i 10 x) 11 0) 12 0) 13 0), r)) (fun u => cW cI a u.1 u.2) := by
  refine met_ofV (by decide) (Nat.le_of_ble_eq_true rfl) ?_
  intro pP eE sS mM aV bB mE cC AA C hin
  refine z_conv (lv' := [(0, .ref (a 6)), (1, .int x)]) ⟨rfl, rfl, trivial⟩ rfl rfl ?_
  refine z_aload_n C (pc := 0) dX2_begin_0 rfl ?_
  refine z_iload_n C (pc := 1) dX2_begin_1 rfl ?_
  refine z_put C (pc := 2) 6 rfl rfl wf_X2 0 (by decide) rfl tyX2 tyX2_ok nmX2 rfl rfl rfl (Nat.le_of_ble_eq_true rfl) (ws' := (cW cI a (upd i 10 x) r)) rfl wl_X2_27 dX2_begin_2 ?_
  refine z_aload_n C (pc := 5) dX2_begin_5 rfl ?_
  refine z_iconst C (pc := 6) (v := 0) dX2_begin_6 (by decide) ?_
  refine z_put C (pc := 7) 6 rfl rfl wf_X2 2 (by decide) rfl tyX2 tyX2_ok nmX2 rfl rfl rfl (Nat.le_of_ble_eq_true rfl) (ws' := (cW cI a (upd (upd i 10 x) 11 0) r)) rfl wl_X2_31 dX2_begin_7 ?_
  refine z_aload_n C (pc := 10) dX2_begin_10 rfl ?_
  refine z_iconst C (pc := 11) (v := 0) dX2_begin_11 (by decide) ?_
  refine z_put C (pc := 12) 6 rfl rfl wf_X2 3 (by decide) rfl tyX2 tyX2_ok nmX2 rfl rfl rfl (Nat.le_of_ble_eq_true rfl) (ws' := (cW cI a (upd (upd (upd i 10 x) 11 0) 12 0) r)) rfl wl_X2_34 dX2_begin_12 ?_
  refine z_aload_n C (pc := 15) dX2_begin_15 rfl ?_
  refine z_iconst C (pc := 16) (v := 0) dX2_begin_16 (by decide) ?_
  refine z_put C (pc := 17) 6 rfl rfl wf_X2 4 (by decide) rfl tyX2 tyX2_ok nmX2 rfl rfl rfl (Nat.le_of_ble_eq_true rfl) (ws' := (cW cI a (upd (upd (upd (upd i 10 x) 11 0) 12 0) 13 0) r)) rfl wl_X2_37 dX2_begin_17 ?_
  refine z_vret C (pc := 20) ((upd (upd (upd (upd i 10 x) 11 0) 12 0) 13 0), r) dX2_begin_20 ?_ rfl
  rfl

set_option maxHeartbeats 4000000 in
set_option maxRecDepth 100000 in
theorem c_note (l : Launch) (D : va_G) (cI : ClassId) (tt : Nat × Nat × Nat) (a : Nat → Nat) (i : Nat → Int32) (r : Nat → Nat → Int32) (x y f h : Int32) : MetV (S := ((Nat → Int32) × (Nat → Nat → Int32))) l yX2_note cX2_note 5 none (rm 1 22) D cI tt [.ref (a 6), .int x, .int y, .int f, .int h] (cW cI a i r) (fun u => u = (upd i 13 (i 13 + 1), va_up (va_up (va_up (va_up r 4 (putv 6 (r 4) (i 13) x)) 5 (putv 6 (r 5) (i 13) y)) 6 (putv 6 (r 6) (i 13) f)) 7 (putv 6 (r 7) (i 13) (if h = 0 then 0 else 1)))) (fun u => cW cI a u.1 u.2) := by
  refine met_ofV (by decide) (Nat.le_of_ble_eq_true rfl) ?_
  intro pP eE sS mM aV bB mE cC AA C hin
  refine z_conv (lv' := [(0, .ref (a 6)), (1, .int x), (2, .int y), (3, .int f), (4, .int h)]) ⟨rfl, rfl, rfl, rfl, rfl, trivial⟩ rfl rfl ?_
  refine z_aload_n C (pc := 0) dX2_note_0 rfl ?_
  refine z_get C (pc := 1) 6 rfl rfl wf_X2 5 (by decide) rfl wl_X2_15 (v := .ref (a 8)) rfl dX2_note_1 ?_
  refine z_aload_n C (pc := 4) dX2_note_4 rfl ?_
  refine z_get C (pc := 5) 6 rfl rfl wf_X2 4 (by decide) rfl wl_X2_37 (v := .int (i 13)) rfl dX2_note_5 ?_
  refine z_iload_n C (pc := 8) dX2_note_8 rfl ?_
  refine z_callv C (isC := [8]) rfl (by exact fun _ => rfl) (runSN C (wc := [(a 8, .inl (cI, 6, .inl (r 4)))]) (pc := 9) (rY' := rm 0 0) (nn := 3) (As := [.ref (a 8), .int (i 13), .int x]) (rest := []) (c_put l D cI tt (a 8) 6 (r 4) (i 13) x (by decide)) rfl rfl ⟨rfl, rfl, ⟨Nat.le_of_ble_eq_true rfl, Nat.le_of_ble_eq_true rfl⟩, Nat.le_of_ble_eq_true rfl, Nat.le_of_ble_eq_true rfl⟩ wl_X2_40 ws_X3_put wi_X3 wc_X3_put (by decide +kernel) rfl rfl (Nat.le_of_ble_eq_true rfl) dX2_note_9) (fun u_1 h_1 => ?_)
  subst h_1
  refine z_ws (st' := []) (ws' := (cW cI a i (va_up r 4 (putv 6 (r 4) (i 13) x)))) rfl rfl ?_
  refine z_aload_n C (pc := 12) dX2_note_12 rfl ?_
  refine z_get C (pc := 13) 6 rfl rfl wf_X2 6 (by decide) rfl wl_X2_18 (v := .ref (a 9)) rfl dX2_note_13 ?_
  refine z_aload_n C (pc := 16) dX2_note_16 rfl ?_
  refine z_get C (pc := 17) 6 rfl rfl wf_X2 4 (by decide) rfl wl_X2_37 (v := .int (i 13)) rfl dX2_note_17 ?_
  refine z_iload_n C (pc := 20) dX2_note_20 rfl ?_
  refine z_callv C (isC := [9]) rfl (by exact fun _ => rfl) (runSN C (wc := [(a 9, .inl (cI, 6, .inl (r 5)))]) (pc := 21) (rY' := rm 0 0) (nn := 3) (As := [.ref (a 9), .int (i 13), .int y]) (rest := []) (c_put l D cI tt (a 9) 6 (r 5) (i 13) y (by decide)) rfl rfl ⟨rfl, rfl, ⟨Nat.le_of_ble_eq_true rfl, Nat.le_of_ble_eq_true rfl⟩, Nat.le_of_ble_eq_true rfl, Nat.le_of_ble_eq_true rfl⟩ wl_X2_40 ws_X3_put wi_X3 wc_X3_put (by decide +kernel) rfl rfl (Nat.le_of_ble_eq_true rfl) dX2_note_21) (fun u_2 h_2 => ?_)
  subst h_2
  refine z_ws (st' := []) (ws' := (cW cI a i (va_up (va_up r 4 (putv 6 (r 4) (i 13) x)) 5 (putv 6 (r 5) (i 13) y)))) rfl rfl ?_
  refine z_aload_n C (pc := 24) dX2_note_24 rfl ?_
  refine z_get C (pc := 25) 6 rfl rfl wf_X2 7 (by decide) rfl wl_X2_21 (v := .ref (a 10)) rfl dX2_note_25 ?_
  refine z_aload_n C (pc := 28) dX2_note_28 rfl ?_
  refine z_get C (pc := 29) 6 rfl rfl wf_X2 4 (by decide) rfl wl_X2_37 (v := .int (i 13)) rfl dX2_note_29 ?_
  refine z_iload_n C (pc := 32) dX2_note_32 rfl ?_
  refine z_callv C (isC := [10]) rfl (by exact fun _ => rfl) (runSN C (wc := [(a 10, .inl (cI, 6, .inl (r 6)))]) (pc := 33) (rY' := rm 0 0) (nn := 3) (As := [.ref (a 10), .int (i 13), .int f]) (rest := []) (c_put l D cI tt (a 10) 6 (r 6) (i 13) f (by decide)) rfl rfl ⟨rfl, rfl, ⟨Nat.le_of_ble_eq_true rfl, Nat.le_of_ble_eq_true rfl⟩, Nat.le_of_ble_eq_true rfl, Nat.le_of_ble_eq_true rfl⟩ wl_X2_40 ws_X3_put wi_X3 wc_X3_put (by decide +kernel) rfl rfl (Nat.le_of_ble_eq_true rfl) dX2_note_33) (fun u_3 h_3 => ?_)
  subst h_3
  refine z_ws (st' := []) (ws' := (cW cI a i (va_up (va_up (va_up r 4 (putv 6 (r 4) (i 13) x)) 5 (putv 6 (r 5) (i 13) y)) 6 (putv 6 (r 6) (i 13) f)))) rfl rfl ?_
  refine z_aload_n C (pc := 36) dX2_note_36 rfl ?_
  refine z_get C (pc := 37) 6 rfl rfl wf_X2 8 (by decide) rfl wl_X2_24 (v := .ref (a 11)) rfl dX2_note_37 ?_
  refine z_aload_n C (pc := 40) dX2_note_40 rfl ?_
  refine z_get C (pc := 41) 6 rfl rfl wf_X2 4 (by decide) rfl wl_X2_37 (v := .int (i 13)) rfl dX2_note_41 ?_
  refine z_iload C (pc := 44) dX2_note_44 rfl ?_
  refine z_if_eq C (pc := 46) (tgt := 53) dX2_note_46 (by decide) (fun c_4 => ?_) (fun c_4 => ?_)
  · refine z_iconst C (pc := 53) (v := 0) dX2_note_53 (by decide) ?_
    refine z_callv C (isC := [11]) rfl (by exact fun _ => rfl) (runSN C (wc := [(a 11, .inl (cI, 6, .inl (r 7)))]) (pc := 54) (rY' := rm 0 0) (nn := 3) (As := [.ref (a 11), .int (i 13), .int 0]) (rest := []) (c_put l D cI tt (a 11) 6 (r 7) (i 13) 0 (by decide)) rfl rfl ⟨rfl, rfl, ⟨Nat.le_of_ble_eq_true rfl, Nat.le_of_ble_eq_true rfl⟩, Nat.le_of_ble_eq_true rfl, Nat.le_of_ble_eq_true rfl⟩ wl_X2_40 ws_X3_put wi_X3 wc_X3_put (by decide +kernel) rfl rfl (Nat.le_of_ble_eq_true rfl) dX2_note_54) (fun u_5 h_5 => ?_)
    subst h_5
    refine z_ws (st' := []) (ws' := (cW cI a i (va_up (va_up (va_up (va_up r 4 (putv 6 (r 4) (i 13) x)) 5 (putv 6 (r 5) (i 13) y)) 6 (putv 6 (r 6) (i 13) f)) 7 (putv 6 (r 7) (i 13) 0)))) rfl rfl ?_
    refine z_aload_n C (pc := 57) dX2_note_57 rfl ?_
    refine z_dup C (pc := 58) dX2_note_58 rfl ?_
    refine z_get C (pc := 59) 6 rfl rfl wf_X2 4 (by decide) rfl wl_X2_37 (v := .int (i 13)) rfl dX2_note_59 ?_
    refine z_iconst C (pc := 62) (v := 1) dX2_note_62 (by decide) ?_
    refine z_iadd C (pc := 63) dX2_note_63 ?_
    refine z_put C (pc := 64) 6 rfl rfl wf_X2 4 (by decide) rfl tyX2 tyX2_ok nmX2 rfl rfl rfl (Nat.le_of_ble_eq_true rfl) (ws' := (cW cI a (upd i 13 ((i 13) + 1)) (va_up (va_up (va_up (va_up r 4 (putv 6 (r 4) (i 13) x)) 5 (putv 6 (r 5) (i 13) y)) 6 (putv 6 (r 6) (i 13) f)) 7 (putv 6 (r 7) (i 13) 0)))) rfl wl_X2_37 dX2_note_64 ?_
    refine z_vret C (pc := 67) ((upd i 13 ((i 13) + 1)), (va_up (va_up (va_up (va_up r 4 (putv 6 (r 4) (i 13) x)) 5 (putv 6 (r 5) (i 13) y)) 6 (putv 6 (r 6) (i 13) f)) 7 (putv 6 (r 7) (i 13) 0))) dX2_note_67 ?_ rfl
    rw [if_pos c_4]
  · refine z_iconst C (pc := 49) (v := 1) dX2_note_49 (by decide) ?_
    refine z_goto C (pc := 50) (tgt := 54) dX2_note_50 (by decide) ?_
    refine z_callv C (isC := [11]) rfl (by exact fun _ => rfl) (runSN C (wc := [(a 11, .inl (cI, 6, .inl (r 7)))]) (pc := 54) (rY' := rm 0 0) (nn := 3) (As := [.ref (a 11), .int (i 13), .int 1]) (rest := []) (c_put l D cI tt (a 11) 6 (r 7) (i 13) 1 (by decide)) rfl rfl ⟨rfl, rfl, ⟨Nat.le_of_ble_eq_true rfl, Nat.le_of_ble_eq_true rfl⟩, Nat.le_of_ble_eq_true rfl, Nat.le_of_ble_eq_true rfl⟩ wl_X2_40 ws_X3_put wi_X3 wc_X3_put (by decide +kernel) rfl rfl (Nat.le_of_ble_eq_true rfl) dX2_note_54) (fun u_6 h_6 => ?_)
    subst h_6
    refine z_ws (st' := []) (ws' := (cW cI a i (va_up (va_up (va_up (va_up r 4 (putv 6 (r 4) (i 13) x)) 5 (putv 6 (r 5) (i 13) y)) 6 (putv 6 (r 6) (i 13) f)) 7 (putv 6 (r 7) (i 13) 1)))) rfl rfl ?_
    refine z_aload_n C (pc := 57) dX2_note_57 rfl ?_
    refine z_dup C (pc := 58) dX2_note_58 rfl ?_
    refine z_get C (pc := 59) 6 rfl rfl wf_X2 4 (by decide) rfl wl_X2_37 (v := .int (i 13)) rfl dX2_note_59 ?_
    refine z_iconst C (pc := 62) (v := 1) dX2_note_62 (by decide) ?_
    refine z_iadd C (pc := 63) dX2_note_63 ?_
    refine z_put C (pc := 64) 6 rfl rfl wf_X2 4 (by decide) rfl tyX2 tyX2_ok nmX2 rfl rfl rfl (Nat.le_of_ble_eq_true rfl) (ws' := (cW cI a (upd i 13 ((i 13) + 1)) (va_up (va_up (va_up (va_up r 4 (putv 6 (r 4) (i 13) x)) 5 (putv 6 (r 5) (i 13) y)) 6 (putv 6 (r 6) (i 13) f)) 7 (putv 6 (r 7) (i 13) 1)))) rfl wl_X2_37 dX2_note_64 ?_
    refine z_vret C (pc := 67) ((upd i 13 ((i 13) + 1)), (va_up (va_up (va_up (va_up r 4 (putv 6 (r 4) (i 13) x)) 5 (putv 6 (r 5) (i 13) y)) 6 (putv 6 (r 6) (i 13) f)) 7 (putv 6 (r 7) (i 13) 1))) dX2_note_67 ?_ rfl
    rw [if_neg c_4]

set_option maxHeartbeats 4000000 in
set_option maxRecDepth 100000 in
theorem c_takeNow (l : Launch) (D : va_G) (cI : ClassId) (tt : Nat × Nat × Nat) (a : Nat → Nat) (i : Nat → Int32) (r : Nat → Nat → Int32) : MetV (S := ((Nat → Int32) × (Nat → Nat → Int32))) l yX2_takeFrom cX2_takeFrom 2 none (rm 2 44) D cI tt [.ref (a 6), .ref (a 12)] (cW cI a i r) (fun u => u = ((upd (upd (upd (upd i 10 (i 14)) 11 (i 15)) 12 (i 16)) 13 (i 17)), (va_up (va_up (va_up (va_up (va_up r 3 (cpv 5 (r 8) 5 (r 3) 5)) 4 (cpv 6 (r 9) 6 (r 4) 6)) 5 (cpv 6 (r 10) 6 (r 5) 6)) 6 (cpv 6 (r 11) 6 (r 6) 6)) 7 (cpv 6 (r 12) 6 (r 7) 6)))) (fun u => cW cI a u.1 u.2) := by
  refine met_ofV (by decide) (Nat.le_of_ble_eq_true rfl) ?_
  intro pP eE sS mM aV bB mE cC AA C hin
  refine z_conv (lv' := [(0, .ref (a 6)), (1, .ref (a 12))]) ⟨rfl, rfl, trivial⟩ rfl rfl ?_
  refine z_aload_n C (pc := 0) dX2_takeFrom_0 rfl ?_
  refine z_ifnonnull C (pc := 1) (tgt := 5) dX2_takeFrom_1 (by decide) ?_
  refine z_aload_n C (pc := 5) dX2_takeFrom_5 rfl ?_
  refine z_aload_n C (pc := 6) dX2_takeFrom_6 rfl ?_
  refine z_get C (pc := 7) 12 rfl rfl wf_X2 0 (by decide) rfl wl_X2_27 (v := .int (i 14)) rfl dX2_takeFrom_7 ?_
  refine z_put C (pc := 10) 6 rfl rfl wf_X2 0 (by decide) rfl tyX2 tyX2_ok nmX2 rfl rfl rfl (Nat.le_of_ble_eq_true rfl) (ws' := (cW cI a (upd i 10 (i 14)) r)) rfl wl_X2_27 dX2_takeFrom_10 ?_
  refine z_aload_n C (pc := 13) dX2_takeFrom_13 rfl ?_
  refine z_aload_n C (pc := 14) dX2_takeFrom_14 rfl ?_
  refine z_get C (pc := 15) 12 rfl rfl wf_X2 2 (by decide) rfl wl_X2_31 (v := .int (i 15)) rfl dX2_takeFrom_15 ?_
  refine z_put C (pc := 18) 6 rfl rfl wf_X2 2 (by decide) rfl tyX2 tyX2_ok nmX2 rfl rfl rfl (Nat.le_of_ble_eq_true rfl) (ws' := (cW cI a (upd (upd i 10 (i 14)) 11 (i 15)) r)) rfl wl_X2_31 dX2_takeFrom_18 ?_
  refine z_aload_n C (pc := 21) dX2_takeFrom_21 rfl ?_
  refine z_aload_n C (pc := 22) dX2_takeFrom_22 rfl ?_
  refine z_get C (pc := 23) 12 rfl rfl wf_X2 3 (by decide) rfl wl_X2_34 (v := .int (i 16)) rfl dX2_takeFrom_23 ?_
  refine z_put C (pc := 26) 6 rfl rfl wf_X2 3 (by decide) rfl tyX2 tyX2_ok nmX2 rfl rfl rfl (Nat.le_of_ble_eq_true rfl) (ws' := (cW cI a (upd (upd (upd i 10 (i 14)) 11 (i 15)) 12 (i 16)) r)) rfl wl_X2_34 dX2_takeFrom_26 ?_
  refine z_aload_n C (pc := 29) dX2_takeFrom_29 rfl ?_
  refine z_aload_n C (pc := 30) dX2_takeFrom_30 rfl ?_
  refine z_get C (pc := 31) 12 rfl rfl wf_X2 4 (by decide) rfl wl_X2_37 (v := .int (i 17)) rfl dX2_takeFrom_31 ?_
  refine z_put C (pc := 34) 6 rfl rfl wf_X2 4 (by decide) rfl tyX2 tyX2_ok nmX2 rfl rfl rfl (Nat.le_of_ble_eq_true rfl) (ws' := (cW cI a (upd (upd (upd (upd i 10 (i 14)) 11 (i 15)) 12 (i 16)) 13 (i 17)) r)) rfl wl_X2_37 dX2_takeFrom_34 ?_
  refine z_aload_n C (pc := 37) dX2_takeFrom_37 rfl ?_
  refine z_get C (pc := 38) 12 rfl rfl wf_X2 1 (by decide) rfl wl_X2_9 (v := .ref (a 13)) rfl dX2_takeFrom_38 ?_
  refine z_aload_n C (pc := 41) dX2_takeFrom_41 rfl ?_
  refine z_get C (pc := 42) 6 rfl rfl wf_X2 1 (by decide) rfl wl_X2_9 (v := .ref (a 7)) rfl dX2_takeFrom_42 ?_
  refine z_callv C (isC := [13, 7]) rfl (by exact fun _ => rfl) (runSN C (wc := [(a 13, .inl (cI, 5, .inl (r 8))), (a 7, .inl (cI, 5, .inl (r 3)))]) (pc := 45) (rY' := rm 1 22) (nn := 2) (As := [.ref (a 13), .ref (a 7)]) (rest := []) (c_copy l D cI tt (a 13) 5 (a 7) 5 (r 8) (r 3) (by decide) (by decide)) rfl rfl ⟨rfl, rfl, ⟨Nat.le_of_ble_eq_true rfl, Nat.le_of_ble_eq_true rfl⟩, Nat.le_of_ble_eq_true rfl, Nat.le_of_ble_eq_true rfl⟩ wl_X2_44 ws_X3_copy wi_X3 wc_X3_copy (by decide +kernel) rfl rfl (Nat.le_of_ble_eq_true rfl) dX2_takeFrom_45) (fun u_1 h_1 => ?_)
  subst h_1
  refine z_ws (st' := []) (ws' := (cW cI a (upd (upd (upd (upd i 10 (i 14)) 11 (i 15)) 12 (i 16)) 13 (i 17)) (va_up r 3 (cpv 5 (r 8) 5 (r 3) 5)))) rfl rfl ?_
  refine z_aload_n C (pc := 48) dX2_takeFrom_48 rfl ?_
  refine z_get C (pc := 49) 12 rfl rfl wf_X2 5 (by decide) rfl wl_X2_15 (v := .ref (a 14)) rfl dX2_takeFrom_49 ?_
  refine z_aload_n C (pc := 52) dX2_takeFrom_52 rfl ?_
  refine z_get C (pc := 53) 6 rfl rfl wf_X2 5 (by decide) rfl wl_X2_15 (v := .ref (a 8)) rfl dX2_takeFrom_53 ?_
  refine z_callv C (isC := [14, 8]) rfl (by exact fun _ => rfl) (runSN C (wc := [(a 14, .inl (cI, 6, .inl (r 9))), (a 8, .inl (cI, 6, .inl (r 4)))]) (pc := 56) (rY' := rm 1 22) (nn := 2) (As := [.ref (a 14), .ref (a 8)]) (rest := []) (c_copy l D cI tt (a 14) 6 (a 8) 6 (r 9) (r 4) (by decide) (by decide)) rfl rfl ⟨rfl, rfl, ⟨Nat.le_of_ble_eq_true rfl, Nat.le_of_ble_eq_true rfl⟩, Nat.le_of_ble_eq_true rfl, Nat.le_of_ble_eq_true rfl⟩ wl_X2_44 ws_X3_copy wi_X3 wc_X3_copy (by decide +kernel) rfl rfl (Nat.le_of_ble_eq_true rfl) dX2_takeFrom_56) (fun u_2 h_2 => ?_)
  subst h_2
  refine z_ws (st' := []) (ws' := (cW cI a (upd (upd (upd (upd i 10 (i 14)) 11 (i 15)) 12 (i 16)) 13 (i 17)) (va_up (va_up r 3 (cpv 5 (r 8) 5 (r 3) 5)) 4 (cpv 6 (r 9) 6 (r 4) 6)))) rfl rfl ?_
  refine z_aload_n C (pc := 59) dX2_takeFrom_59 rfl ?_
  refine z_get C (pc := 60) 12 rfl rfl wf_X2 6 (by decide) rfl wl_X2_18 (v := .ref (a 15)) rfl dX2_takeFrom_60 ?_
  refine z_aload_n C (pc := 63) dX2_takeFrom_63 rfl ?_
  refine z_get C (pc := 64) 6 rfl rfl wf_X2 6 (by decide) rfl wl_X2_18 (v := .ref (a 9)) rfl dX2_takeFrom_64 ?_
  refine z_callv C (isC := [15, 9]) rfl (by exact fun _ => rfl) (runSN C (wc := [(a 15, .inl (cI, 6, .inl (r 10))), (a 9, .inl (cI, 6, .inl (r 5)))]) (pc := 67) (rY' := rm 1 22) (nn := 2) (As := [.ref (a 15), .ref (a 9)]) (rest := []) (c_copy l D cI tt (a 15) 6 (a 9) 6 (r 10) (r 5) (by decide) (by decide)) rfl rfl ⟨rfl, rfl, ⟨Nat.le_of_ble_eq_true rfl, Nat.le_of_ble_eq_true rfl⟩, Nat.le_of_ble_eq_true rfl, Nat.le_of_ble_eq_true rfl⟩ wl_X2_44 ws_X3_copy wi_X3 wc_X3_copy (by decide +kernel) rfl rfl (Nat.le_of_ble_eq_true rfl) dX2_takeFrom_67) (fun u_3 h_3 => ?_)
  subst h_3
  refine z_ws (st' := []) (ws' := (cW cI a (upd (upd (upd (upd i 10 (i 14)) 11 (i 15)) 12 (i 16)) 13 (i 17)) (va_up (va_up (va_up r 3 (cpv 5 (r 8) 5 (r 3) 5)) 4 (cpv 6 (r 9) 6 (r 4) 6)) 5 (cpv 6 (r 10) 6 (r 5) 6)))) rfl rfl ?_
  refine z_aload_n C (pc := 70) dX2_takeFrom_70 rfl ?_
  refine z_get C (pc := 71) 12 rfl rfl wf_X2 7 (by decide) rfl wl_X2_21 (v := .ref (a 16)) rfl dX2_takeFrom_71 ?_
  refine z_aload_n C (pc := 74) dX2_takeFrom_74 rfl ?_
  refine z_get C (pc := 75) 6 rfl rfl wf_X2 7 (by decide) rfl wl_X2_21 (v := .ref (a 10)) rfl dX2_takeFrom_75 ?_
  refine z_callv C (isC := [16, 10]) rfl (by exact fun _ => rfl) (runSN C (wc := [(a 16, .inl (cI, 6, .inl (r 11))), (a 10, .inl (cI, 6, .inl (r 6)))]) (pc := 78) (rY' := rm 1 22) (nn := 2) (As := [.ref (a 16), .ref (a 10)]) (rest := []) (c_copy l D cI tt (a 16) 6 (a 10) 6 (r 11) (r 6) (by decide) (by decide)) rfl rfl ⟨rfl, rfl, ⟨Nat.le_of_ble_eq_true rfl, Nat.le_of_ble_eq_true rfl⟩, Nat.le_of_ble_eq_true rfl, Nat.le_of_ble_eq_true rfl⟩ wl_X2_44 ws_X3_copy wi_X3 wc_X3_copy (by decide +kernel) rfl rfl (Nat.le_of_ble_eq_true rfl) dX2_takeFrom_78) (fun u_4 h_4 => ?_)
  subst h_4
  refine z_ws (st' := []) (ws' := (cW cI a (upd (upd (upd (upd i 10 (i 14)) 11 (i 15)) 12 (i 16)) 13 (i 17)) (va_up (va_up (va_up (va_up r 3 (cpv 5 (r 8) 5 (r 3) 5)) 4 (cpv 6 (r 9) 6 (r 4) 6)) 5 (cpv 6 (r 10) 6 (r 5) 6)) 6 (cpv 6 (r 11) 6 (r 6) 6)))) rfl rfl ?_
  refine z_aload_n C (pc := 81) dX2_takeFrom_81 rfl ?_
  refine z_get C (pc := 82) 12 rfl rfl wf_X2 8 (by decide) rfl wl_X2_24 (v := .ref (a 17)) rfl dX2_takeFrom_82 ?_
  refine z_aload_n C (pc := 85) dX2_takeFrom_85 rfl ?_
  refine z_get C (pc := 86) 6 rfl rfl wf_X2 8 (by decide) rfl wl_X2_24 (v := .ref (a 11)) rfl dX2_takeFrom_86 ?_
  refine z_callv C (isC := [17, 11]) rfl (by exact fun _ => rfl) (runSN C (wc := [(a 17, .inl (cI, 6, .inl (r 12))), (a 11, .inl (cI, 6, .inl (r 7)))]) (pc := 89) (rY' := rm 1 22) (nn := 2) (As := [.ref (a 17), .ref (a 11)]) (rest := []) (c_copy l D cI tt (a 17) 6 (a 11) 6 (r 12) (r 7) (by decide) (by decide)) rfl rfl ⟨rfl, rfl, ⟨Nat.le_of_ble_eq_true rfl, Nat.le_of_ble_eq_true rfl⟩, Nat.le_of_ble_eq_true rfl, Nat.le_of_ble_eq_true rfl⟩ wl_X2_44 ws_X3_copy wi_X3 wc_X3_copy (by decide +kernel) rfl rfl (Nat.le_of_ble_eq_true rfl) dX2_takeFrom_89) (fun u_5 h_5 => ?_)
  subst h_5
  refine z_ws (st' := []) (ws' := (cW cI a (upd (upd (upd (upd i 10 (i 14)) 11 (i 15)) 12 (i 16)) 13 (i 17)) (va_up (va_up (va_up (va_up (va_up r 3 (cpv 5 (r 8) 5 (r 3) 5)) 4 (cpv 6 (r 9) 6 (r 4) 6)) 5 (cpv 6 (r 10) 6 (r 5) 6)) 6 (cpv 6 (r 11) 6 (r 6) 6)) 7 (cpv 6 (r 12) 6 (r 7) 6)))) rfl rfl ?_
  refine z_vret C (pc := 92) ((upd (upd (upd (upd i 10 (i 14)) 11 (i 15)) 12 (i 16)) 13 (i 17)), (va_up (va_up (va_up (va_up (va_up r 3 (cpv 5 (r 8) 5 (r 3) 5)) 4 (cpv 6 (r 9) 6 (r 4) 6)) 5 (cpv 6 (r 10) 6 (r 5) 6)) 6 (cpv 6 (r 11) 6 (r 6) 6)) 7 (cpv 6 (r 12) 6 (r 7) 6))) dX2_takeFrom_92 ?_ rfl
  rfl

set_option maxHeartbeats 4000000 in
set_option maxRecDepth 100000 in
theorem c_takeKept (l : Launch) (D : va_G) (cI : ClassId) (tt : Nat × Nat × Nat) (a : Nat → Nat) (i : Nat → Int32) (r : Nat → Nat → Int32) : MetV (S := ((Nat → Int32) × (Nat → Nat → Int32))) l yX2_takeFrom cX2_takeFrom 2 none (rm 2 44) D cI tt [.ref (a 12), .ref (a 6)] (cW cI a i r) (fun u => u = ((upd (upd (upd (upd i 14 (i 10)) 15 (i 11)) 16 (i 12)) 17 (i 13)), (va_up (va_up (va_up (va_up (va_up r 8 (cpv 5 (r 3) 5 (r 8) 5)) 9 (cpv 6 (r 4) 6 (r 9) 6)) 10 (cpv 6 (r 5) 6 (r 10) 6)) 11 (cpv 6 (r 6) 6 (r 11) 6)) 12 (cpv 6 (r 7) 6 (r 12) 6)))) (fun u => cW cI a u.1 u.2) := by
  refine met_ofV (by decide) (Nat.le_of_ble_eq_true rfl) ?_
  intro pP eE sS mM aV bB mE cC AA C hin
  refine z_conv (lv' := [(0, .ref (a 12)), (1, .ref (a 6))]) ⟨rfl, rfl, trivial⟩ rfl rfl ?_
  refine z_aload_n C (pc := 0) dX2_takeFrom_0 rfl ?_
  refine z_ifnonnull C (pc := 1) (tgt := 5) dX2_takeFrom_1 (by decide) ?_
  refine z_aload_n C (pc := 5) dX2_takeFrom_5 rfl ?_
  refine z_aload_n C (pc := 6) dX2_takeFrom_6 rfl ?_
  refine z_get C (pc := 7) 6 rfl rfl wf_X2 0 (by decide) rfl wl_X2_27 (v := .int (i 10)) rfl dX2_takeFrom_7 ?_
  refine z_put C (pc := 10) 12 rfl rfl wf_X2 0 (by decide) rfl tyX2 tyX2_ok nmX2 rfl rfl rfl (Nat.le_of_ble_eq_true rfl) (ws' := (cW cI a (upd i 14 (i 10)) r)) rfl wl_X2_27 dX2_takeFrom_10 ?_
  refine z_aload_n C (pc := 13) dX2_takeFrom_13 rfl ?_
  refine z_aload_n C (pc := 14) dX2_takeFrom_14 rfl ?_
  refine z_get C (pc := 15) 6 rfl rfl wf_X2 2 (by decide) rfl wl_X2_31 (v := .int (i 11)) rfl dX2_takeFrom_15 ?_
  refine z_put C (pc := 18) 12 rfl rfl wf_X2 2 (by decide) rfl tyX2 tyX2_ok nmX2 rfl rfl rfl (Nat.le_of_ble_eq_true rfl) (ws' := (cW cI a (upd (upd i 14 (i 10)) 15 (i 11)) r)) rfl wl_X2_31 dX2_takeFrom_18 ?_
  refine z_aload_n C (pc := 21) dX2_takeFrom_21 rfl ?_
  refine z_aload_n C (pc := 22) dX2_takeFrom_22 rfl ?_
  refine z_get C (pc := 23) 6 rfl rfl wf_X2 3 (by decide) rfl wl_X2_34 (v := .int (i 12)) rfl dX2_takeFrom_23 ?_
  refine z_put C (pc := 26) 12 rfl rfl wf_X2 3 (by decide) rfl tyX2 tyX2_ok nmX2 rfl rfl rfl (Nat.le_of_ble_eq_true rfl) (ws' := (cW cI a (upd (upd (upd i 14 (i 10)) 15 (i 11)) 16 (i 12)) r)) rfl wl_X2_34 dX2_takeFrom_26 ?_
  refine z_aload_n C (pc := 29) dX2_takeFrom_29 rfl ?_
  refine z_aload_n C (pc := 30) dX2_takeFrom_30 rfl ?_
  refine z_get C (pc := 31) 6 rfl rfl wf_X2 4 (by decide) rfl wl_X2_37 (v := .int (i 13)) rfl dX2_takeFrom_31 ?_
  refine z_put C (pc := 34) 12 rfl rfl wf_X2 4 (by decide) rfl tyX2 tyX2_ok nmX2 rfl rfl rfl (Nat.le_of_ble_eq_true rfl) (ws' := (cW cI a (upd (upd (upd (upd i 14 (i 10)) 15 (i 11)) 16 (i 12)) 17 (i 13)) r)) rfl wl_X2_37 dX2_takeFrom_34 ?_
  refine z_aload_n C (pc := 37) dX2_takeFrom_37 rfl ?_
  refine z_get C (pc := 38) 6 rfl rfl wf_X2 1 (by decide) rfl wl_X2_9 (v := .ref (a 7)) rfl dX2_takeFrom_38 ?_
  refine z_aload_n C (pc := 41) dX2_takeFrom_41 rfl ?_
  refine z_get C (pc := 42) 12 rfl rfl wf_X2 1 (by decide) rfl wl_X2_9 (v := .ref (a 13)) rfl dX2_takeFrom_42 ?_
  refine z_callv C (isC := [7, 13]) rfl (by exact fun _ => rfl) (runSN C (wc := [(a 7, .inl (cI, 5, .inl (r 3))), (a 13, .inl (cI, 5, .inl (r 8)))]) (pc := 45) (rY' := rm 1 22) (nn := 2) (As := [.ref (a 7), .ref (a 13)]) (rest := []) (c_copy l D cI tt (a 7) 5 (a 13) 5 (r 3) (r 8) (by decide) (by decide)) rfl rfl ⟨rfl, rfl, ⟨Nat.le_of_ble_eq_true rfl, Nat.le_of_ble_eq_true rfl⟩, Nat.le_of_ble_eq_true rfl, Nat.le_of_ble_eq_true rfl⟩ wl_X2_44 ws_X3_copy wi_X3 wc_X3_copy (by decide +kernel) rfl rfl (Nat.le_of_ble_eq_true rfl) dX2_takeFrom_45) (fun u_1 h_1 => ?_)
  subst h_1
  refine z_ws (st' := []) (ws' := (cW cI a (upd (upd (upd (upd i 14 (i 10)) 15 (i 11)) 16 (i 12)) 17 (i 13)) (va_up r 8 (cpv 5 (r 3) 5 (r 8) 5)))) rfl rfl ?_
  refine z_aload_n C (pc := 48) dX2_takeFrom_48 rfl ?_
  refine z_get C (pc := 49) 6 rfl rfl wf_X2 5 (by decide) rfl wl_X2_15 (v := .ref (a 8)) rfl dX2_takeFrom_49 ?_
  refine z_aload_n C (pc := 52) dX2_takeFrom_52 rfl ?_
  refine z_get C (pc := 53) 12 rfl rfl wf_X2 5 (by decide) rfl wl_X2_15 (v := .ref (a 14)) rfl dX2_takeFrom_53 ?_
  refine z_callv C (isC := [8, 14]) rfl (by exact fun _ => rfl) (runSN C (wc := [(a 8, .inl (cI, 6, .inl (r 4))), (a 14, .inl (cI, 6, .inl (r 9)))]) (pc := 56) (rY' := rm 1 22) (nn := 2) (As := [.ref (a 8), .ref (a 14)]) (rest := []) (c_copy l D cI tt (a 8) 6 (a 14) 6 (r 4) (r 9) (by decide) (by decide)) rfl rfl ⟨rfl, rfl, ⟨Nat.le_of_ble_eq_true rfl, Nat.le_of_ble_eq_true rfl⟩, Nat.le_of_ble_eq_true rfl, Nat.le_of_ble_eq_true rfl⟩ wl_X2_44 ws_X3_copy wi_X3 wc_X3_copy (by decide +kernel) rfl rfl (Nat.le_of_ble_eq_true rfl) dX2_takeFrom_56) (fun u_2 h_2 => ?_)
  subst h_2
  refine z_ws (st' := []) (ws' := (cW cI a (upd (upd (upd (upd i 14 (i 10)) 15 (i 11)) 16 (i 12)) 17 (i 13)) (va_up (va_up r 8 (cpv 5 (r 3) 5 (r 8) 5)) 9 (cpv 6 (r 4) 6 (r 9) 6)))) rfl rfl ?_
  refine z_aload_n C (pc := 59) dX2_takeFrom_59 rfl ?_
  refine z_get C (pc := 60) 6 rfl rfl wf_X2 6 (by decide) rfl wl_X2_18 (v := .ref (a 9)) rfl dX2_takeFrom_60 ?_
  refine z_aload_n C (pc := 63) dX2_takeFrom_63 rfl ?_
  refine z_get C (pc := 64) 12 rfl rfl wf_X2 6 (by decide) rfl wl_X2_18 (v := .ref (a 15)) rfl dX2_takeFrom_64 ?_
  refine z_callv C (isC := [9, 15]) rfl (by exact fun _ => rfl) (runSN C (wc := [(a 9, .inl (cI, 6, .inl (r 5))), (a 15, .inl (cI, 6, .inl (r 10)))]) (pc := 67) (rY' := rm 1 22) (nn := 2) (As := [.ref (a 9), .ref (a 15)]) (rest := []) (c_copy l D cI tt (a 9) 6 (a 15) 6 (r 5) (r 10) (by decide) (by decide)) rfl rfl ⟨rfl, rfl, ⟨Nat.le_of_ble_eq_true rfl, Nat.le_of_ble_eq_true rfl⟩, Nat.le_of_ble_eq_true rfl, Nat.le_of_ble_eq_true rfl⟩ wl_X2_44 ws_X3_copy wi_X3 wc_X3_copy (by decide +kernel) rfl rfl (Nat.le_of_ble_eq_true rfl) dX2_takeFrom_67) (fun u_3 h_3 => ?_)
  subst h_3
  refine z_ws (st' := []) (ws' := (cW cI a (upd (upd (upd (upd i 14 (i 10)) 15 (i 11)) 16 (i 12)) 17 (i 13)) (va_up (va_up (va_up r 8 (cpv 5 (r 3) 5 (r 8) 5)) 9 (cpv 6 (r 4) 6 (r 9) 6)) 10 (cpv 6 (r 5) 6 (r 10) 6)))) rfl rfl ?_
  refine z_aload_n C (pc := 70) dX2_takeFrom_70 rfl ?_
  refine z_get C (pc := 71) 6 rfl rfl wf_X2 7 (by decide) rfl wl_X2_21 (v := .ref (a 10)) rfl dX2_takeFrom_71 ?_
  refine z_aload_n C (pc := 74) dX2_takeFrom_74 rfl ?_
  refine z_get C (pc := 75) 12 rfl rfl wf_X2 7 (by decide) rfl wl_X2_21 (v := .ref (a 16)) rfl dX2_takeFrom_75 ?_
  refine z_callv C (isC := [10, 16]) rfl (by exact fun _ => rfl) (runSN C (wc := [(a 10, .inl (cI, 6, .inl (r 6))), (a 16, .inl (cI, 6, .inl (r 11)))]) (pc := 78) (rY' := rm 1 22) (nn := 2) (As := [.ref (a 10), .ref (a 16)]) (rest := []) (c_copy l D cI tt (a 10) 6 (a 16) 6 (r 6) (r 11) (by decide) (by decide)) rfl rfl ⟨rfl, rfl, ⟨Nat.le_of_ble_eq_true rfl, Nat.le_of_ble_eq_true rfl⟩, Nat.le_of_ble_eq_true rfl, Nat.le_of_ble_eq_true rfl⟩ wl_X2_44 ws_X3_copy wi_X3 wc_X3_copy (by decide +kernel) rfl rfl (Nat.le_of_ble_eq_true rfl) dX2_takeFrom_78) (fun u_4 h_4 => ?_)
  subst h_4
  refine z_ws (st' := []) (ws' := (cW cI a (upd (upd (upd (upd i 14 (i 10)) 15 (i 11)) 16 (i 12)) 17 (i 13)) (va_up (va_up (va_up (va_up r 8 (cpv 5 (r 3) 5 (r 8) 5)) 9 (cpv 6 (r 4) 6 (r 9) 6)) 10 (cpv 6 (r 5) 6 (r 10) 6)) 11 (cpv 6 (r 6) 6 (r 11) 6)))) rfl rfl ?_
  refine z_aload_n C (pc := 81) dX2_takeFrom_81 rfl ?_
  refine z_get C (pc := 82) 6 rfl rfl wf_X2 8 (by decide) rfl wl_X2_24 (v := .ref (a 11)) rfl dX2_takeFrom_82 ?_
  refine z_aload_n C (pc := 85) dX2_takeFrom_85 rfl ?_
  refine z_get C (pc := 86) 12 rfl rfl wf_X2 8 (by decide) rfl wl_X2_24 (v := .ref (a 17)) rfl dX2_takeFrom_86 ?_
  refine z_callv C (isC := [11, 17]) rfl (by exact fun _ => rfl) (runSN C (wc := [(a 11, .inl (cI, 6, .inl (r 7))), (a 17, .inl (cI, 6, .inl (r 12)))]) (pc := 89) (rY' := rm 1 22) (nn := 2) (As := [.ref (a 11), .ref (a 17)]) (rest := []) (c_copy l D cI tt (a 11) 6 (a 17) 6 (r 7) (r 12) (by decide) (by decide)) rfl rfl ⟨rfl, rfl, ⟨Nat.le_of_ble_eq_true rfl, Nat.le_of_ble_eq_true rfl⟩, Nat.le_of_ble_eq_true rfl, Nat.le_of_ble_eq_true rfl⟩ wl_X2_44 ws_X3_copy wi_X3 wc_X3_copy (by decide +kernel) rfl rfl (Nat.le_of_ble_eq_true rfl) dX2_takeFrom_89) (fun u_5 h_5 => ?_)
  subst h_5
  refine z_ws (st' := []) (ws' := (cW cI a (upd (upd (upd (upd i 14 (i 10)) 15 (i 11)) 16 (i 12)) 17 (i 13)) (va_up (va_up (va_up (va_up (va_up r 8 (cpv 5 (r 3) 5 (r 8) 5)) 9 (cpv 6 (r 4) 6 (r 9) 6)) 10 (cpv 6 (r 5) 6 (r 10) 6)) 11 (cpv 6 (r 6) 6 (r 11) 6)) 12 (cpv 6 (r 7) 6 (r 12) 6)))) rfl rfl ?_
  refine z_vret C (pc := 92) ((upd (upd (upd (upd i 14 (i 10)) 15 (i 11)) 16 (i 12)) 17 (i 13)), (va_up (va_up (va_up (va_up (va_up r 8 (cpv 5 (r 3) 5 (r 8) 5)) 9 (cpv 6 (r 4) 6 (r 9) 6)) 10 (cpv 6 (r 5) 6 (r 10) 6)) 11 (cpv 6 (r 6) 6 (r 11) 6)) 12 (cpv 6 (r 7) 6 (r 12) 6))) dX2_takeFrom_92 ?_ rfl
  rfl

set_option maxHeartbeats 4000000 in
set_option maxRecDepth 100000 in
theorem c_isCamp (l : Launch) (D : va_G) (cI : ClassId) (tt : Nat × Nat × Nat) (a : Nat → Nat) (i : Nat → Int32) (r : Nat → Nat → Int32) (L : Nat) (hl : i 3 = nI L) (hL : L ≤ 15) : MetI (S := Unit) l yX0_isCamp cX0_isCamp 1 (some .boolean) (rm 3 66) D cI tt [.ref (a 1)] (cW cI a i r) (fun q _ => q = b2 (campb (r 0) L)) (fun _ => cW cI a i r) := by
  refine met_ofI (by decide) (Nat.le_of_ble_eq_true rfl) ?_
  intro pP eE sS mM aV bB mE cC AA C hin
  refine z_conv (lv' := [(0, .ref (a 1))]) ⟨rfl, trivial⟩ rfl rfl ?_
  refine z_aload_n C (pc := 0) dX0_isCamp_0 rfl ?_
  refine z_calliF C (by exact fun _ => cW_ad) (runV C (wc := (cW cI a i r)) (pc := 1) (rY' := rm 2 42) (nn := 0) (As := []) (rest := []) (c_firstWrong l D cI tt a i r L hl hL) (full_hC _) (full_nd _) ⟨rfl, rfl, ⟨Nat.le_of_ble_eq_true rfl, Nat.le_of_ble_eq_true rfl⟩, Nat.le_of_ble_eq_true rfl, Nat.le_of_ble_eq_true rfl⟩ wl_X0_34 wm_X0_firstWrong we_X0_firstWrong wi_X0 wc_X0_firstWrong (by decide +kernel) rfl 1 rfl rfl rfl rfl (Nat.le_of_ble_eq_true rfl) dX0_isCamp_1) (fun q_1 u_1 h_1 => ?_)
  subst h_1
  refine z_ws (st' := [.int (nI (scv (r 0) L 0 0).1)]) (ws' := (cW cI a i r)) rfl rfl ?_
  refine z_aload_n C (pc := 4) dX0_isCamp_4 rfl ?_
  refine z_get C (pc := 5) 1 rfl rfl wf_X0 1 (by decide) rfl wl_X0_15 (v := .int (i 3)) rfl dX0_isCamp_5 ?_
  refine z_icmp_ne C (pc := 8) (tgt := 32) dX0_isCamp_8 (by decide) (fun c_2 => ?_) (fun c_2 => ?_)
  · rw [hl] at c_2
    have hsl := scv_le (f := r 0) L 0 0
    have hx : ¬ (scv (r 0) L 0 0).1 = L := fun h => c_2 (by rw [h])
    refine z_iconst C (pc := 32) (v := 0) dX0_isCamp_32 (by decide) ?_
    refine z_zret C (pc := 33) () dX0_isCamp_33 rfl ?_ rfl
    unfold campb b2
    rw [decide_eq_false hx]
    rfl
  · rw [hl] at c_2
    have hsl := scv_le (f := r 0) L 0 0
    have hx : (scv (r 0) L 0 0).1 = L := (nI_eq (by omega) (by omega)).mp c_2
    refine z_aload_n C (pc := 11) dX0_isCamp_11 rfl ?_
    refine z_aload_n C (pc := 12) dX0_isCamp_12 rfl ?_
    refine z_get C (pc := 13) 1 rfl rfl wf_X0 1 (by decide) rfl wl_X0_15 (v := .int (i 3)) rfl dX0_isCamp_13 ?_
    refine z_iconst C (pc := 16) (v := 5) dX0_isCamp_16 (by decide) ?_
    refine z_isub C (pc := 17) dX0_isCamp_17 ?_
    refine z_iconst C (pc := 18) (v := 1) dX0_isCamp_18 (by decide) ?_
    refine z_isub C (pc := 19) dX0_isCamp_19 ?_
    refine z_calliF C (by exact fun _ => cW_ad) (runV C (wc := (cW cI a i r)) (pc := 20) (rY' := rm 1 21) (nn := 1) (As := [.int (((i 3) - 5) - 1)]) (rest := []) (c_codeAt l D cI tt a i r (((i 3) - 5) - 1)) (full_hC _) (full_nd _) ⟨rfl, rfl, ⟨Nat.le_of_ble_eq_true rfl, Nat.le_of_ble_eq_true rfl⟩, Nat.le_of_ble_eq_true rfl, Nat.le_of_ble_eq_true rfl⟩ wl_X0_27 wm_X0_codeAt we_X0_codeAt wi_X0 wc_X0_codeAt (by decide +kernel) rfl 1 rfl rfl rfl rfl (Nat.le_of_ble_eq_true rfl) dX0_isCamp_20) (fun q_3 u_3 h_3 => ?_)
    subst h_3
    refine z_ws (st' := [.int (atv 15 (r 0) (((i 3) - 5) - 1))]) (ws' := (cW cI a i r)) rfl rfl ?_
    refine z_bipush C (pc := 23) (v := 59) dX0_isCamp_23 (by decide) ?_
    refine z_icmp_ne C (pc := 25) (tgt := 32) dX0_isCamp_25 (by decide) (fun c_4 => ?_) (fun c_4 => ?_)
    · refine z_iconst C (pc := 32) (v := 0) dX0_isCamp_32 (by decide) ?_
      refine z_zret C (pc := 33) () dX0_isCamp_33 rfl ?_ rfl
      rw [hl] at c_4
      have hy : ¬ ((scv (r 0) L 0 0).2 ≠ 0 ∧ L = (scv (r 0) L 0 0).2 + 5) := fun h => c_4 ((camp_at hL hx).mpr h)
      unfold campb b2
      rw [decide_eq_true hx, Bool.true_and, ← Bool.decide_and, decide_eq_false hy]
      rfl
    · refine z_iconst C (pc := 28) (v := 1) dX0_isCamp_28 (by decide) ?_
      refine z_goto C (pc := 29) (tgt := 33) dX0_isCamp_29 (by decide) ?_
      refine z_zret C (pc := 33) () dX0_isCamp_33 rfl ?_ rfl
      rw [hl] at c_4
      have hy := (camp_at hL hx).mp c_4
      unfold campb b2
      rw [decide_eq_true hx, decide_eq_true hy.1, decide_eq_true hy.2]
      rfl
