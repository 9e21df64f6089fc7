theorem min_nI {x y : Nat} (hx : x < 2 ^ 31) (hy : y < 2 ^ 31) : (if nI y < nI x then nI y else nI x) = nI (min x y) := by
  by_cases h : y < x
  · rw [if_pos (nI_lt h hx), Nat.min_eq_right (by omega)]
  · rw [if_neg (nI_nlt (by omega) hy), Nat.min_eq_left (by omega)]
set_option maxHeartbeats 4000000 in
set_option maxRecDepth 100000 in
theorem c_setCairnsN (l : Launch) (D : va_G) (cI : ClassId) (tt : Nat × Nat × Nat) (a : Nat → Nat) (i : Nat → Int32) (r : Nat → Nat → Int32) : MetV (S := (Nat → Nat → Int32)) l yX1_setCairns cX1_setCairns 2 none (rm 2 44) D cI tt [.ref (a 3), .ref (a 7)] (cW cI a i r) (fun r' => SR r r' ∧ ∀ k, k < 5 → r' 2 k = r 3 k) (fun r' => cW cI a i r') := by
  refine met_ofV (by decide) (Nat.le_of_ble_eq_true rfl) ?_
  intro pP eE sS mM aV bB mE cC AA C hin
  refine z_conv (lv' := [(0, .ref (a 3)), (1, .ref (a 7))]) ⟨rfl, rfl, trivial⟩ rfl rfl ?_
  refine z_aload_n C (pc := 0) dX1_setCairns_0 rfl ?_
  refine z_aload_n C (pc := 1) dX1_setCairns_1 rfl ?_
  refine z_get C (pc := 2) 3 rfl rfl wf_X1 2 (by decide) rfl wl_X1_15 (v := .ref (a 5)) rfl dX1_setCairns_2 ?_
  refine z_callv C (isC := [7, 5]) rfl (by exact fun _ => rfl) (runSN C (wc := [(a 7, .inl (cI, 5, .inl (r 3))), (a 5, .inl (cI, 5, .inl (r 2)))]) (pc := 5) (rY' := rm 1 22) (nn := 2) (As := [.ref (a 7), .ref (a 5)]) (rest := []) (c_copy l D cI tt (a 7) 5 (a 5) 5 (r 3) (r 2) (by decide) (by decide)) rfl rfl ⟨rfl, rfl, ⟨Nat.le_of_ble_eq_true rfl, Nat.le_of_ble_eq_true rfl⟩, Nat.le_of_ble_eq_true rfl, Nat.le_of_ble_eq_true rfl⟩ wl_X1_26 ws_X3_copy wi_X3 wc_X3_copy (by decide +kernel) rfl rfl (Nat.le_of_ble_eq_true rfl) dX1_setCairns_5) (fun u_1 h_1 => ?_)
  subst h_1
  refine z_ws (st' := []) (ws' := (cW cI a i (va_up r 2 (cpv 5 (r 3) 5 (r 2) 5)))) rfl rfl ?_
  refine z_vret C (pc := 8) (va_up r 2 (cpv 5 (r 3) 5 (r 2) 5)) dX1_setCairns_8 ?_ rfl
  refine ⟨SR.rf.up, fun k hk => ?_⟩
  rw [vup_s, cpv_at (by decide) (by decide) 5 (by decide) (by decide), if_pos hk]

set_option maxHeartbeats 4000000 in
set_option maxRecDepth 100000 in
theorem c_setCairnsW (l : Launch) (D : va_G) (cI : ClassId) (tt : Nat × Nat × Nat) (a : Nat → Nat) (i : Nat → Int32) (r : Nat → Nat → Int32) : MetV (S := (Nat → Nat → Int32)) l yX1_setCairns cX1_setCairns 2 none (rm 2 44) D cI tt [.ref (a 3), .ref (a 18)] (cW cI a i r) (fun r' => SR r r' ∧ ∀ k, k < 5 → r' 2 k = r 13 k) (fun r' => cW cI a i r') := by
  refine met_ofV (by decide) (Nat.le_of_ble_eq_true rfl) ?_
  intro pP eE sS mM aV bB mE cC AA C hin
  refine z_conv (lv' := [(0, .ref (a 3)), (1, .ref (a 18))]) ⟨rfl, rfl, trivial⟩ rfl rfl ?_
  refine z_aload_n C (pc := 0) dX1_setCairns_0 rfl ?_
  refine z_aload_n C (pc := 1) dX1_setCairns_1 rfl ?_
  refine z_get C (pc := 2) 3 rfl rfl wf_X1 2 (by decide) rfl wl_X1_15 (v := .ref (a 5)) rfl dX1_setCairns_2 ?_
  refine z_callv C (isC := [18, 5]) rfl (by exact fun _ => rfl) (runSN C (wc := [(a 18, .inl (cI, 5, .inl (r 13))), (a 5, .inl (cI, 5, .inl (r 2)))]) (pc := 5) (rY' := rm 1 22) (nn := 2) (As := [.ref (a 18), .ref (a 5)]) (rest := []) (c_copy l D cI tt (a 18) 5 (a 5) 5 (r 13) (r 2) (by decide) (by decide)) rfl rfl ⟨rfl, rfl, ⟨Nat.le_of_ble_eq_true rfl, Nat.le_of_ble_eq_true rfl⟩, Nat.le_of_ble_eq_true rfl, Nat.le_of_ble_eq_true rfl⟩ wl_X1_26 ws_X3_copy wi_X3 wc_X3_copy (by decide +kernel) rfl rfl (Nat.le_of_ble_eq_true rfl) dX1_setCairns_5) (fun u_1 h_1 => ?_)
  subst h_1
  refine z_ws (st' := []) (ws' := (cW cI a i (va_up r 2 (cpv 5 (r 13) 5 (r 2) 5)))) rfl rfl ?_
  refine z_vret C (pc := 8) (va_up r 2 (cpv 5 (r 13) 5 (r 2) 5)) dX1_setCairns_8 ?_ rfl
  refine ⟨SR.rf.up, fun k hk => ?_⟩
  rw [vup_s, cpv_at (by decide) (by decide) 5 (by decide) (by decide), if_pos hk]

set_option maxHeartbeats 4000000 in
set_option maxRecDepth 100000 in
theorem c_dieOn (l : Launch) (D : va_G) (cI : ClassId) (tt : Nat × Nat × Nat) (a : Nat → Nat) (i : Nat → Int32) (r : Nat → Nat → Int32) (v : Int32) : MetV (S := (Nat → Int32)) l yX1_dieOn cX1_dieOn 2 none (rm 0 0) D cI tt [.ref (a 3), .int v] (cW cI a i r) (fun i' => SP i i' ∧ i' 5 = 0 ∧ i' 6 = 0 ∧ i' 9 = v) (fun i' => cW cI a i' r) := by
  refine met_ofV (by decide) (Nat.le_of_ble_eq_true rfl) ?_
  intro pP eE sS mM aV bB mE cC AA C hin
  refine z_conv (lv' := [(0, .ref (a 3)), (1, .int v)]) ⟨rfl, rfl, trivial⟩ rfl rfl ?_
  refine z_aload_n C (pc := 0) dX1_dieOn_0 rfl ?_
  refine z_iconst C (pc := 1) (v := 0) dX1_dieOn_1 (by decide) ?_
  refine z_put C (pc := 2) 3 rfl rfl wf_X1 3 (by decide) rfl tyX1 tyX1_ok nmX1 rfl rfl rfl (Nat.le_of_ble_eq_true rfl) (ws' := (cW cI a (upd i 5 0) r)) rfl wl_X1_40 dX1_dieOn_2 ?_
  refine z_aload_n C (pc := 5) dX1_dieOn_5 rfl ?_
  refine z_iconst C (pc := 6) (v := 0) dX1_dieOn_6 (by decide) ?_
  refine z_put C (pc := 7) 3 rfl rfl wf_X1 4 (by decide) rfl tyX1 tyX1_ok nmX1 rfl rfl rfl (Nat.le_of_ble_eq_true rfl) (ws' := (cW cI a (upd (upd i 5 0) 6 0) r)) rfl wl_X1_43 dX1_dieOn_7 ?_
  refine z_aload_n C (pc := 10) dX1_dieOn_10 rfl ?_
  refine z_iload_n C (pc := 11) dX1_dieOn_11 rfl ?_
  refine z_put C (pc := 12) 3 rfl rfl wf_X1 7 (by decide) rfl tyX1 tyX1_ok nmX1 rfl rfl rfl (Nat.le_of_ble_eq_true rfl) (ws' := (cW cI a (upd (upd (upd i 5 0) 6 0) 9 v) r)) rfl wl_X1_75 dX1_dieOn_12 ?_
  refine z_vret C (pc := 15) (upd (upd (upd i 5 0) 6 0) 9 v) dX1_dieOn_15 ?_ rfl
  exact ⟨((SP.rf.up (by omega)).up (by omega)).up (by omega), by simp [upd], by simp [upd], by simp [upd]⟩

set_option maxHeartbeats 4000000 in
set_option maxRecDepth 100000 in
theorem c_devour (l : Launch) (D : va_G) (cI : ClassId) (tt : Nat × Nat × Nat) (a : Nat → Nat) (i : Nat → Int32) (r : Nat → Nat → Int32) (kd : Nat → Nat) (n x f : Nat) (hv : PV i r kd n) (hs : PS i kd n x f) (ho : OK kd n x f) (k : Nat) (hk : k < n) : MetV (S := (Nat → Int32)) l yX1_devour cX1_devour 3 none (rm 1 21) D cI tt [.ref (a 3), .int (nI k)] (cW cI a i r) (fun i' => SP i i' ∧ i' 9 = i 9 ∧ PS i' kd n (dev kd n k (x, f)).1 (dev kd n k (x, f)).2) (fun i' => cW cI a i' r) := by
  have hn6 := hv.2.1
  have hx6 := pow_le6 hn6
  have hx := ho.1
  refine met_ofV (by decide) (Nat.le_of_ble_eq_true rfl) ?_
  intro pP eE sS mM aV bB mE cC AA C hin
  refine z_conv (lv' := [(0, .ref (a 3)), (1, .int (nI k))]) ⟨rfl, rfl, trivial⟩ rfl rfl ?_
  refine z_aload_n C (pc := 0) dX1_devour_0 rfl ?_
  refine z_get C (pc := 1) 3 rfl rfl wf_X1 3 (by decide) rfl wl_X1_40 (v := .int (i 5)) rfl dX1_devour_1 ?_
  refine z_iload_n C (pc := 4) dX1_devour_4 rfl ?_
  refine z_ishr C (pc := 5) dX1_devour_5 ?_
  refine z_iconst C (pc := 6) (v := 1) dX1_devour_6 (by decide) ?_
  refine z_iand C (pc := 7) dX1_devour_7 ?_
  refine z_if_ne C (pc := 8) (tgt := 12) dX1_devour_8 (by decide) (fun c_1 => ?_) (fun c_1 => ?_)
  · have hb := bt1' (by omega) (by omega) (hs.1 ▸ c_1)
    refine z_aload_n C (pc := 12) dX1_devour_12 rfl ?_
    refine z_get C (pc := 13) 3 rfl rfl wf_X1 0 (by decide) rfl wl_X1_9 (v := .ref (a 4)) rfl dX1_devour_13 ?_
    refine z_iload_n C (pc := 16) dX1_devour_16 rfl ?_
    refine z_calli C (isC := [4]) rfl (by exact fun _ => rfl) (runSN C (wc := [(a 4, .inl (cI, 6, .inl (r 1)))]) (pc := 17) (rY' := rm 0 0) (nn := 2) (As := [.ref (a 4), .int (nI k)]) (rest := []) (c_at l D cI tt (a 4) 6 (r 1) (nI k) (by decide)) rfl rfl ⟨rfl, rfl, ⟨Nat.le_of_ble_eq_true rfl, Nat.le_of_ble_eq_true rfl⟩, Nat.le_of_ble_eq_true rfl, Nat.le_of_ble_eq_true rfl⟩ wl_X1_22 ws_X3_at wi_X3 wc_X3_at (by decide +kernel) rfl rfl (Nat.le_of_ble_eq_true rfl) dX1_devour_17) (fun r_2 u_2 h_2 => ?_)
    have h_2 : r_2 = (nI (kd k)) := h_2.trans (kind_at hv hk)
    subst h_2
    refine z_ws (st' := [.int (nI (kd k))]) (ws' := (cW cI a i r)) rfl rfl ?_
    refine z_istore_n C (pc := 20) (lv' := [(0, .ref (a 3)), (1, .int (nI k)), (2, .int (nI (kd k)))]) dX1_devour_20 (Nat.le_of_ble_eq_true rfl) rfl rfl ?_
    refine z_aload_n C (pc := 21) dX1_devour_21 rfl ?_
    refine z_dup C (pc := 22) dX1_devour_22 rfl ?_
    refine z_get C (pc := 23) 3 rfl rfl wf_X1 3 (by decide) rfl wl_X1_40 (v := .int (i 5)) rfl dX1_devour_23 ?_
    refine z_iconst C (pc := 26) (v := 1) dX1_devour_26 (by decide) ?_
    refine z_iload_n C (pc := 27) dX1_devour_27 rfl ?_
    refine z_ishl C (pc := 28) dX1_devour_28 ?_
    refine z_iconst C (pc := 29) (v := (-1)) dX1_devour_29 (by decide) ?_
    refine z_ixor C (pc := 30) dX1_devour_30 ?_
    refine z_iand C (pc := 31) dX1_devour_31 ?_
    refine z_put C (pc := 32) 3 rfl rfl wf_X1 3 (by decide) rfl tyX1 tyX1_ok nmX1 rfl rfl rfl (Nat.le_of_ble_eq_true rfl) (ws' := (cW cI a (upd i 5 ((i 5) &&& ((1 <<< ((nI k) &&& 31)) ^^^ (-1)))) r)) rfl wl_X1_40 dX1_devour_32 ?_
    refine z_aload_n C (pc := 35) dX1_devour_35 rfl ?_
    refine z_dup C (pc := 36) dX1_devour_36 rfl ?_
    refine z_get C (pc := 37) 3 rfl rfl wf_X1 5 (by decide) rfl wl_X1_63 (v := .int (i 7)) rfl dX1_devour_37 ?_
    refine z_getsN C (pc := 40) C.2.2.2.2.2.2.2.1.1.1 wl_X1_56 dX1_devour_40 ?_
    refine z_iload_n C (pc := 43) dX1_devour_43 rfl ?_
    refine z_calli C (isC := []) rfl (by exact fun _ => rfl) (runSN C (wc := []) (pc := 44) (rY' := rm 0 0) (nn := 2) (As := [.ref tt.1, .int (nI (kd k))]) (rest := [.int (i 7), .ref (a 3)]) (c_atP l D cI tt (nI (kd k))) rfl rfl ⟨rfl, rfl, ⟨Nat.le_of_ble_eq_true rfl, Nat.le_of_ble_eq_true rfl⟩, Nat.le_of_ble_eq_true rfl, Nat.le_of_ble_eq_true rfl⟩ wl_X1_22 ws_X3_at wi_X3 wc_X3_at (by decide +kernel) rfl rfl (Nat.le_of_ble_eq_true rfl) dX1_devour_44) (fun r_3 u_3 h_3 => ?_)
    have h_3 : r_3 = (nI (pls (kd k))) := h_3.trans (tabP (hv.2.2 k hk).2)
    subst h_3
    refine z_ws (st' := [.int (nI (pls (kd k))), .int (i 7), .ref (a 3)]) (ws' := (cW cI a (upd i 5 ((i 5) &&& ((1 <<< ((nI k) &&& 31)) ^^^ (-1)))) r)) rfl rfl ?_
    refine z_isub C (pc := 47) dX1_devour_47 ?_
    refine z_put C (pc := 48) 3 rfl rfl wf_X1 5 (by decide) rfl tyX1 tyX1_ok nmX1 rfl rfl rfl (Nat.le_of_ble_eq_true rfl) (ws' := (cW cI a (upd (upd i 5 ((i 5) &&& ((1 <<< ((nI k) &&& 31)) ^^^ (-1)))) 7 ((i 7) - (nI (pls (kd k))))) r)) rfl wl_X1_63 dX1_devour_48 ?_
    refine z_aload_n C (pc := 51) dX1_devour_51 rfl ?_
    refine z_dup C (pc := 52) dX1_devour_52 rfl ?_
    refine z_get C (pc := 53) 3 rfl rfl wf_X1 6 (by decide) rfl wl_X1_46 (v := .int (i 8)) rfl dX1_devour_53 ?_
    refine z_getsN C (pc := 56) C.2.2.2.2.2.2.2.1.2.1.1 wl_X1_66 dX1_devour_56 ?_
    refine z_iload_n C (pc := 59) dX1_devour_59 rfl ?_
    refine z_calli C (isC := []) rfl (by exact fun _ => rfl) (runSN C (wc := []) (pc := 60) (rY' := rm 0 0) (nn := 2) (As := [.ref tt.2.1, .int (nI (kd k))]) (rest := [.int (i 8), .ref (a 3)]) (c_atE l D cI tt (nI (kd k))) rfl rfl ⟨rfl, rfl, ⟨Nat.le_of_ble_eq_true rfl, Nat.le_of_ble_eq_true rfl⟩, Nat.le_of_ble_eq_true rfl, Nat.le_of_ble_eq_true rfl⟩ wl_X1_22 ws_X3_at wi_X3 wc_X3_at (by decide +kernel) rfl rfl (Nat.le_of_ble_eq_true rfl) dX1_devour_60) (fun r_4 u_4 h_4 => ?_)
    have h_4 : r_4 = (nI (ets (kd k))) := h_4.trans (tabE (hv.2.2 k hk).2)
    subst h_4
    refine z_ws (st' := [.int (nI (ets (kd k))), .int (i 8), .ref (a 3)]) (ws' := (cW cI a (upd (upd i 5 ((i 5) &&& ((1 <<< ((nI k) &&& 31)) ^^^ (-1)))) 7 ((i 7) - (nI (pls (kd k))))) r)) rfl rfl ?_
    refine z_isub C (pc := 63) dX1_devour_63 ?_
    refine z_put C (pc := 64) 3 rfl rfl wf_X1 6 (by decide) rfl tyX1 tyX1_ok nmX1 rfl rfl rfl (Nat.le_of_ble_eq_true rfl) (ws' := (cW cI a (upd (upd (upd i 5 ((i 5) &&& ((1 <<< ((nI k) &&& 31)) ^^^ (-1)))) 7 ((i 7) - (nI (pls (kd k))))) 8 ((i 8) - (nI (ets (kd k))))) r)) rfl wl_X1_46 dX1_devour_64 ?_
    refine z_aload_n C (pc := 67) dX1_devour_67 rfl ?_
    refine z_aload_n C (pc := 68) dX1_devour_68 rfl ?_
    refine z_get C (pc := 69) 3 rfl rfl wf_X1 4 (by decide) rfl wl_X1_43 (v := .int (i 6)) rfl dX1_devour_69 ?_
    refine z_getsN C (pc := 72) C.2.2.2.2.2.2.2.1.2.2.1 wl_X1_85 dX1_devour_72 ?_
    refine z_iload_n C (pc := 75) dX1_devour_75 rfl ?_
    refine z_calli C (isC := []) rfl (by exact fun _ => rfl) (runSN C (wc := []) (pc := 76) (rY' := rm 0 0) (nn := 2) (As := [.ref tt.2.2, .int (nI (kd k))]) (rest := [.int (i 6), .ref (a 3)]) (c_atF l D cI tt (nI (kd k))) rfl rfl ⟨rfl, rfl, ⟨Nat.le_of_ble_eq_true rfl, Nat.le_of_ble_eq_true rfl⟩, Nat.le_of_ble_eq_true rfl, Nat.le_of_ble_eq_true rfl⟩ wl_X1_22 ws_X3_at wi_X3 wc_X3_at (by decide +kernel) rfl rfl (Nat.le_of_ble_eq_true rfl) dX1_devour_76) (fun r_5 u_5 h_5 => ?_)
    have h_5 : r_5 = (nI (fds (kd k))) := h_5.trans (tabF (hv.2.2 k hk).2)
    subst h_5
    refine z_ws (st' := [.int (nI (fds (kd k))), .int (i 6), .ref (a 3)]) (ws' := (cW cI a (upd (upd (upd i 5 ((i 5) &&& ((1 <<< ((nI k) &&& 31)) ^^^ (-1)))) 7 ((i 7) - (nI (pls (kd k))))) 8 ((i 8) - (nI (ets (kd k))))) r)) rfl rfl ?_
    refine z_iadd C (pc := 79) dX1_devour_79 ?_
    refine z_aload_n C (pc := 80) dX1_devour_80 rfl ?_
    refine z_get C (pc := 81) 3 rfl rfl wf_X1 5 (by decide) rfl wl_X1_63 (v := .int ((i 7) - (nI (pls (kd k))))) rfl dX1_devour_81 ?_
    refine z_mmin C (pc := 84) wl_X1_69 (Nat.le_of_ble_eq_true rfl) (Nat.le_of_ble_eq_true rfl) (Nat.zero_le _) (Nat.zero_le _) dX1_devour_84 ?_
    refine z_put C (pc := 87) 3 rfl rfl wf_X1 4 (by decide) rfl tyX1 tyX1_ok nmX1 rfl rfl rfl (Nat.le_of_ble_eq_true rfl) (ws' := (cW cI a (upd (upd (upd (upd i 5 ((i 5) &&& ((1 <<< ((nI k) &&& 31)) ^^^ (-1)))) 7 ((i 7) - (nI (pls (kd k))))) 8 ((i 8) - (nI (ets (kd k))))) 6 (if ((i 7) - (nI (pls (kd k)))) < ((i 6) + (nI (fds (kd k)))) then ((i 7) - (nI (pls (kd k)))) else ((i 6) + (nI (fds (kd k)))))) r)) rfl wl_X1_43 dX1_devour_87 ?_
    refine z_vret C (pc := 90) (upd (upd (upd (upd i 5 ((i 5) &&& ((1 <<< ((nI k) &&& 31)) ^^^ (-1)))) 7 ((i 7) - (nI (pls (kd k))))) 8 ((i 8) - (nI (ets (kd k))))) 6 (if ((i 7) - (nI (pls (kd k)))) < ((i 6) + (nI (fds (kd k)))) then ((i 7) - (nI (pls (kd k)))) else ((i 6) + (nI (fds (kd k)))))) dX1_devour_90 ?_ rfl
    have e5 : i 5 &&& ((1 <<< (nI k &&& 31)) ^^^ (-1)) = nI (x - 2 ^ k) := by rw [hs.1]; exact and_not x (by omega) k (by omega) hb
    have hp := sumk_sub (g := pls) (kd := kd) (by omega) (by omega) hb n hn6 hk
    have hq := sumk_sub (g := ets) (kd := kd) (by omega) (by omega) hb n hn6 hk
    have e7 : i 7 - nI (pls (kd k)) = nI (sumk pls kd (x - 2 ^ k) n) := by rw [hs.2.2.1, ← hp, ← nI_add]; simp
    have e8 : i 8 - nI (ets (kd k)) = nI (sumk ets kd (x - 2 ^ k) n) := by rw [hs.2.2.2, ← hq, ← nI_add]; simp
    have hf := fds_le (kd k)
    have hpl := pl_le (kd := kd) (x := x) hn6
    have hpl2 := pl_le (kd := kd) (x := x - 2 ^ k) hn6
    have hof := ho.2
    have e6 : (if i 7 - nI (pls (kd k)) < i 6 + nI (fds (kd k)) then i 7 - nI (pls (kd k)) else i 6 + nI (fds (kd k))) = nI (min (f + fds (kd k)) (sumk pls kd (x - 2 ^ k) n)) := by
      rw [e7, hs.2.1, nI_add, min_nI (by omega) (by omega)]
    refine ⟨(((SP.rf.up (by omega)).up (by omega)).up (by omega)).up (by omega), by simp [upd], ?_⟩
    unfold dev
    rw [if_pos hb]
    refine ⟨?_, ?_, ?_, ?_⟩
    · rw [upd_n (by decide), upd_n (by decide), upd_n (by decide), upd_s]; exact e5
    · rw [upd_s]; exact e6
    · rw [upd_n (by decide), upd_n (by decide), upd_s]; exact e7
    · rw [upd_n (by decide), upd_s]; exact e8
  · refine z_vret C (pc := 11) i dX1_devour_11 ?_ rfl
    have hb := bt0' (by omega) (by omega) (hs.1 ▸ c_1)
    refine ⟨SP.rf, rfl, ?_⟩
    unfold dev; rw [if_neg (show ¬ bt x k = 1 by omega)]; exact hs
