theorem lki {x y : Int32} (h : x = y) : some (Value.int x) = some (.int y) := by rw [h]
theorem lt_of_nI {j n : Nat} (h : ¬ nI n ≤ nI j) (hj : j < 2 ^ 31) : j < n := by
  rcases Nat.lt_or_ge j n with q | q
  · exact q
  · exact absurd (nI_le q hj) h
theorem ge_of_nI {j n : Nat} (h : nI n ≤ nI j) (hn : n < 2 ^ 31) : n ≤ j := by
  rcases Nat.lt_or_ge j n with q | q
  · exact absurd h (nI_ge q hn)
  · exact q
theorem bt1 {x k : Nat} (hk : k < 32) (hx : x < 2 ^ 31) (h : (nI x >>> (nI k &&& 31)) &&& 1 = 1) : bt x k = 1 := by
  rw [shr_bt hk hx] at h
  rcases bt_01 x k with e | e
  · rw [e] at h; exact absurd h (by decide)
  · exact e
theorem bt0 {x k : Nat} (hk : k < 32) (hx : x < 2 ^ 31) (h : ¬ (nI x >>> (nI k &&& 31)) &&& 1 = 1) : bt x k = 0 := by
  rw [shr_bt hk hx] at h
  rcases bt_01 x k with e | e
  · exact e
  · rw [e] at h; exact absurd rfl h
theorem bt0' {x k : Nat} (hk : k < 32) (hx : x < 2 ^ 31) (h : (nI x >>> (nI k &&& 31)) &&& 1 = 0) : bt x k = 0 := by
  rw [shr_bt hk hx] at h
  rcases bt_01 x k with e | e
  · exact e
  · rw [e] at h; exact absurd h (by decide)
theorem bt1' {x k : Nat} (hk : k < 32) (hx : x < 2 ^ 31) (h : ¬ (nI x >>> (nI k &&& 31)) &&& 1 = 0) : bt x k = 1 := by
  rw [shr_bt hk hx] at h
  rcases bt_01 x k with e | e
  · rw [e] at h; exact absurd rfl h
  · exact e
theorem kind_at {i : Nat → Int32} {r : Nat → Nat → Int32} {kd : Nat → Nat} {n k : Nat} (h : PV i r kd n) (hk : k < n) : atv 6 (r 1) (nI k) = nI (kd k) := by
  rw [atv_nI (Nat.lt_of_lt_of_le hk h.2.1) (by decide)]; exact (h.2.2 k hk).1
theorem tabP {t : Nat} (h : t ≤ 4) : atv 5 pullsV (nI t) = nI (pls t) := by rw [atv_tab h]; exact pullsV_nI t h
theorem tabE {t : Nat} (h : t ≤ 4) : atv 5 eatsV (nI t) = nI (ets t) := by rw [atv_tab h]; exact eatsV_nI t h
theorem tabF {t : Nat} (h : t ≤ 4) : atv 5 feedsV (nI t) = nI (fds t) := by rw [atv_tab h]; exact feedsV_nI t h
set_option maxHeartbeats 4000000 in
set_option maxRecDepth 100000 in
theorem c_all (l : Launch) (D : va_G) (cI : ClassId) (tt : Nat × Nat × Nat) (a : Nat → Nat) (i : Nat → Int32) (r : Nat → Nat → Int32) (n : Nat) (hn : i 4 = nI n) (hn6 : n ≤ 6) : MetI (S := Unit) l yX1_all cX1_all 1 (some .int) (rm 0 0) D cI tt [.ref (a 3)] (cW cI a i r) (fun r _ => r = nI (2 ^ n - 1)) (fun _ => cW cI a i r) := by
  refine met_ofI (by decide) (Nat.le_of_ble_eq_true rfl) ?_
  intro pP eE sS mM aV bB mE cC AA C hin
  refine z_conv (lv' := [(0, .ref (a 3))]) ⟨rfl, trivial⟩ rfl rfl ?_
  refine z_iconst C (pc := 0) (v := 1) dX1_all_0 (by decide) ?_
  refine z_aload_n C (pc := 1) dX1_all_1 rfl ?_
  refine z_get C (pc := 2) 3 rfl rfl wf_X1 1 (by decide) rfl wl_X1_18 (v := .int (i 4)) rfl dX1_all_2 ?_
  refine z_ishl C (pc := 5) dX1_all_5 ?_
  refine z_iconst C (pc := 6) (v := 1) dX1_all_6 (by decide) ?_
  refine z_isub C (pc := 7) dX1_all_7 ?_
  refine z_iret C (pc := 8) () dX1_all_8 ?_ rfl
  rw [hn]; exact one_shl n hn6

set_option maxHeartbeats 4000000 in
set_option maxRecDepth 100000 in
theorem c_togetherP (l : Launch) (D : va_G) (cI : ClassId) (tt : Nat × Nat × Nat) (a : Nat → Nat) (i : Nat → Int32) (r : Nat → Nat → Int32) (kd : Nat → Nat) (n x : Nat) (hv : PV i r kd n) (hx : x < 2 ^ 31) : MetI (S := Unit) l yX1_together cX1_together 5 (some .int) (rm 1 21) D cI tt [.ref (a 3), .int (nI x), .ref tt.1] (cW cI a i r) (fun r _ => r = nI (sumk pls kd x n)) (fun _ => cW cI a i r) := by
  have hn6 := hv.2.1
  refine met_ofI (by decide) (Nat.le_of_ble_eq_true rfl) ?_
  intro pP eE sS mM aV bB mE cC AA C hin
  refine z_conv (lv' := [(0, .ref (a 3)), (1, .int (nI x)), (2, .ref tt.1)]) ⟨rfl, rfl, rfl, trivial⟩ rfl rfl ?_
  refine z_iconst C (pc := 0) (v := 0) dX1_together_0 (by decide) ?_
  refine z_istore_n C (pc := 1) (lv' := [(0, .ref (a 3)), (1, .int (nI x)), (2, .ref tt.1), (3, .int 0)]) dX1_together_1 (Nat.le_of_ble_eq_true rfl) rfl rfl ?_
  refine z_iconst C (pc := 2) (v := 0) dX1_together_2 (by decide) ?_
  refine z_istore C (pc := 3) (lv' := [(0, .ref (a 3)), (1, .int (nI x)), (2, .ref tt.1), (3, .int 0), (4, .int 0)]) dX1_together_3 (Nat.le_of_ble_eq_true rfl) rfl rfl ?_
  have key5 : ∀ (fu5 : Nat) (k : Nat), n - k < fu5 → (k ≤ n) → Z pP l eE (rm 1 21) sS mM aV bB mE cC D AA 5 0 0 (MQ bB (va_Qi (S := Unit) (fun r _ => r = nI (sumk pls kd x n)) (fun u t => va_P D vwCl ((fun _ => cW cI a i r) u) t.heap) AA) aV sS 0 0 AA) 5 [(0, .ref (a 3)), (1, .int (nI x)), (2, .ref tt.1), (3, .int (nI (sumk pls kd x k))), (4, .int (nI k))] [] (cW cI a i r) := by
    intro fu5
    induction fu5 with
    | zero => intro k hfu5; exact absurd hfu5 (Nat.not_lt_zero _)
    | succ fu5 ih5 =>
      intro k hfu5 hkn
      refine z_iload C (pc := 5) dX1_together_5 rfl ?_
      refine z_aload_n C (pc := 7) dX1_together_7 rfl ?_
      refine z_get C (pc := 8) 3 rfl rfl wf_X1 1 (by decide) rfl wl_X1_18 (v := .int (i 4)) rfl dX1_together_8 ?_
      refine z_icmp_ge C (pc := 11) (tgt := 46) dX1_together_11 (by decide) (fun c_1 => ?_) (fun c_1 => ?_)
      · refine z_iload_n C (pc := 46) dX1_together_46 rfl ?_
        refine z_iret C (pc := 47) () dX1_together_47 ?_ rfl
        rw [hv.1] at c_1
        have : k = n := by have := ge_of_nI c_1 (by omega); omega
        rw [this]
      · rw [hv.1] at c_1
        have hk : k < n := lt_of_nI c_1 (by omega)
        refine z_iload_n C (pc := 14) dX1_together_14 rfl ?_
        refine z_iload C (pc := 15) dX1_together_15 rfl ?_
        refine z_ishr C (pc := 17) dX1_together_17 ?_
        refine z_iconst C (pc := 18) (v := 1) dX1_together_18 (by decide) ?_
        refine z_iand C (pc := 19) dX1_together_19 ?_
        refine z_iconst C (pc := 20) (v := 1) dX1_together_20 (by decide) ?_
        refine z_icmp_ne C (pc := 21) (tgt := 40) dX1_together_21 (by decide) (fun c_2 => ?_) (fun c_2 => ?_)
        · have hb := bt0 (by omega) hx c_2
          refine z_iinc C (pc := 40) (v := ((nI k) + 1)) (lv' := [(0, .ref (a 3)), (1, .int (nI x)), (2, .ref tt.1), (3, .int (nI (sumk pls kd x k))), (4, .int ((nI k) + 1))]) dX1_together_40 rfl rfl (Nat.le_of_ble_eq_true rfl) rfl rfl ?_
          refine z_goto C (pc := 43) (tgt := 5) dX1_together_43 (by decide) ?_
          refine z_lv (lv' := [(0, .ref (a 3)), (1, .int (nI x)), (2, .ref tt.1), (3, .int (nI (sumk pls kd x (k + 1)))), (4, .int (nI (k + 1)))]) ⟨rfl, rfl, rfl, lki (by simp [sumk, hb, nI_add]), lki (nI_1 k), trivial⟩ ?_
          exact ih5 (k + 1) (by omega) hk
        · have hb := bt1 (by omega) hx c_2
          refine z_iload_n C (pc := 24) dX1_together_24 rfl ?_
          refine z_aload_n C (pc := 25) dX1_together_25 rfl ?_
          refine z_aload_n C (pc := 26) dX1_together_26 rfl ?_
          refine z_get C (pc := 27) 3 rfl rfl wf_X1 0 (by decide) rfl wl_X1_9 (v := .ref (a 4)) rfl dX1_together_27 ?_
          refine z_iload C (pc := 30) dX1_together_30 rfl ?_
          refine z_calli C (isC := [4]) rfl (by exact fun _ => rfl) (runSN C (wc := [(a 4, .inl (cI, 6, .inl (r 1)))]) (pc := 32) (rY' := rm 0 0) (nn := 2) (As := [.ref (a 4), .int (nI k)]) (rest := [.ref tt.1, .int (nI (sumk pls kd x k))]) (c_at l D cI tt (a 4) 6 (r 1) (nI k) (by decide)) rfl rfl ⟨rfl, rfl, ⟨Nat.le_of_ble_eq_true rfl, Nat.le_of_ble_eq_true rfl⟩, Nat.le_of_ble_eq_true rfl, Nat.le_of_ble_eq_true rfl⟩ wl_X1_22 ws_X3_at wi_X3 wc_X3_at (by decide +kernel) rfl rfl (Nat.le_of_ble_eq_true rfl) dX1_together_32) (fun r_3 u_3 h_3 => ?_)
          have h_3 : r_3 = (nI (kd k)) := h_3.trans (kind_at hv hk)
          subst h_3
          refine z_ws (st' := [.int (nI (kd k)), .ref tt.1, .int (nI (sumk pls kd x k))]) (ws' := (cW cI a i r)) rfl rfl ?_
          refine z_calli C (isC := []) rfl (by exact fun _ => rfl) (runSN C (wc := []) (pc := 35) (rY' := rm 0 0) (nn := 2) (As := [.ref tt.1, .int (nI (kd k))]) (rest := [.int (nI (sumk pls kd x k))]) (c_atP l D cI tt (nI (kd k))) rfl rfl ⟨rfl, rfl, ⟨Nat.le_of_ble_eq_true rfl, Nat.le_of_ble_eq_true rfl⟩, Nat.le_of_ble_eq_true rfl, Nat.le_of_ble_eq_true rfl⟩ wl_X1_22 ws_X3_at wi_X3 wc_X3_at (by decide +kernel) rfl rfl (Nat.le_of_ble_eq_true rfl) dX1_together_35) (fun r_4 u_4 h_4 => ?_)
          have h_4 : r_4 = (nI (pls (kd k))) := h_4.trans (tabP (hv.2.2 k hk).2)
          subst h_4
          refine z_ws (st' := [.int (nI (pls (kd k))), .int (nI (sumk pls kd x k))]) (ws' := (cW cI a i r)) rfl rfl ?_
          refine z_iadd C (pc := 38) dX1_together_38 ?_
          refine z_istore_n C (pc := 39) (lv' := [(0, .ref (a 3)), (1, .int (nI x)), (2, .ref tt.1), (3, .int ((nI (sumk pls kd x k)) + (nI (pls (kd k))))), (4, .int (nI k))]) dX1_together_39 (Nat.le_of_ble_eq_true rfl) rfl rfl ?_
          refine z_iinc C (pc := 40) (v := ((nI k) + 1)) (lv' := [(0, .ref (a 3)), (1, .int (nI x)), (2, .ref tt.1), (3, .int ((nI (sumk pls kd x k)) + (nI (pls (kd k))))), (4, .int ((nI k) + 1))]) dX1_together_40 rfl rfl (Nat.le_of_ble_eq_true rfl) rfl rfl ?_
          refine z_goto C (pc := 43) (tgt := 5) dX1_together_43 (by decide) ?_
          refine z_lv (lv' := [(0, .ref (a 3)), (1, .int (nI x)), (2, .ref tt.1), (3, .int (nI (sumk pls kd x (k + 1)))), (4, .int (nI (k + 1)))]) ⟨rfl, rfl, rfl, lki (by simp [sumk, hb, nI_add]), lki (nI_1 k), trivial⟩ ?_
          exact ih5 (k + 1) (by omega) hk
  refine z_lv (lv' := [(0, .ref (a 3)), (1, .int (nI x)), (2, .ref tt.1), (3, .int (nI (sumk pls kd x 0))), (4, .int (nI 0))]) ⟨rfl, rfl, rfl, rfl, rfl, trivial⟩ ?_
  exact key5 (_ + 1) 0 (Nat.lt_succ_self _) (Nat.zero_le _)

set_option maxHeartbeats 4000000 in
set_option maxRecDepth 100000 in
theorem c_togetherE (l : Launch) (D : va_G) (cI : ClassId) (tt : Nat × Nat × Nat) (a : Nat → Nat) (i : Nat → Int32) (r : Nat → Nat → Int32) (kd : Nat → Nat) (n x : Nat) (hv : PV i r kd n) (hx : x < 2 ^ 31) : MetI (S := Unit) l yX1_together cX1_together 5 (some .int) (rm 1 21) D cI tt [.ref (a 3), .int (nI x), .ref tt.2.1] (cW cI a i r) (fun r _ => r = nI (sumk ets kd x n)) (fun _ => cW cI a i r) := by
  have hn6 := hv.2.1
  refine met_ofI (by decide) (Nat.le_of_ble_eq_true rfl) ?_
  intro pP eE sS mM aV bB mE cC AA C hin
  refine z_conv (lv' := [(0, .ref (a 3)), (1, .int (nI x)), (2, .ref tt.2.1)]) ⟨rfl, rfl, rfl, trivial⟩ rfl rfl ?_
  refine z_iconst C (pc := 0) (v := 0) dX1_together_0 (by decide) ?_
  refine z_istore_n C (pc := 1) (lv' := [(0, .ref (a 3)), (1, .int (nI x)), (2, .ref tt.2.1), (3, .int 0)]) dX1_together_1 (Nat.le_of_ble_eq_true rfl) rfl rfl ?_
  refine z_iconst C (pc := 2) (v := 0) dX1_together_2 (by decide) ?_
  refine z_istore C (pc := 3) (lv' := [(0, .ref (a 3)), (1, .int (nI x)), (2, .ref tt.2.1), (3, .int 0), (4, .int 0)]) dX1_together_3 (Nat.le_of_ble_eq_true rfl) rfl rfl ?_
  have key5 : ∀ (fu5 : Nat) (k : Nat), n - k < fu5 → (k ≤ n) → Z pP l eE (rm 1 21) sS mM aV bB mE cC D AA 5 0 0 (MQ bB (va_Qi (S := Unit) (fun r _ => r = nI (sumk ets kd x n)) (fun u t => va_P D vwCl ((fun _ => cW cI a i r) u) t.heap) AA) aV sS 0 0 AA) 5 [(0, .ref (a 3)), (1, .int (nI x)), (2, .ref tt.2.1), (3, .int (nI (sumk ets kd x k))), (4, .int (nI k))] [] (cW cI a i r) := by
    intro fu5
    induction fu5 with
    | zero => intro k hfu5; exact absurd hfu5 (Nat.not_lt_zero _)
    | succ fu5 ih5 =>
      intro k hfu5 hkn
      refine z_iload C (pc := 5) dX1_together_5 rfl ?_
      refine z_aload_n C (pc := 7) dX1_together_7 rfl ?_
      refine z_get C (pc := 8) 3 rfl rfl wf_X1 1 (by decide) rfl wl_X1_18 (v := .int (i 4)) rfl dX1_together_8 ?_
      refine z_icmp_ge C (pc := 11) (tgt := 46) dX1_together_11 (by decide) (fun c_1 => ?_) (fun c_1 => ?_)
      · refine z_iload_n C (pc := 46) dX1_together_46 rfl ?_
        refine z_iret C (pc := 47) () dX1_together_47 ?_ rfl
        rw [hv.1] at c_1
        have : k = n := by have := ge_of_nI c_1 (by omega); omega
        rw [this]
      · rw [hv.1] at c_1
        have hk : k < n := lt_of_nI c_1 (by omega)
        refine z_iload_n C (pc := 14) dX1_together_14 rfl ?_
        refine z_iload C (pc := 15) dX1_together_15 rfl ?_
        refine z_ishr C (pc := 17) dX1_together_17 ?_
        refine z_iconst C (pc := 18) (v := 1) dX1_together_18 (by decide) ?_
        refine z_iand C (pc := 19) dX1_together_19 ?_
        refine z_iconst C (pc := 20) (v := 1) dX1_together_20 (by decide) ?_
        refine z_icmp_ne C (pc := 21) (tgt := 40) dX1_together_21 (by decide) (fun c_2 => ?_) (fun c_2 => ?_)
        · have hb := bt0 (by omega) hx c_2
          refine z_iinc C (pc := 40) (v := ((nI k) + 1)) (lv' := [(0, .ref (a 3)), (1, .int (nI x)), (2, .ref tt.2.1), (3, .int (nI (sumk ets kd x k))), (4, .int ((nI k) + 1))]) dX1_together_40 rfl rfl (Nat.le_of_ble_eq_true rfl) rfl rfl ?_
          refine z_goto C (pc := 43) (tgt := 5) dX1_together_43 (by decide) ?_
          refine z_lv (lv' := [(0, .ref (a 3)), (1, .int (nI x)), (2, .ref tt.2.1), (3, .int (nI (sumk ets kd x (k + 1)))), (4, .int (nI (k + 1)))]) ⟨rfl, rfl, rfl, lki (by simp [sumk, hb, nI_add]), lki (nI_1 k), trivial⟩ ?_
          exact ih5 (k + 1) (by omega) hk
        · have hb := bt1 (by omega) hx c_2
          refine z_iload_n C (pc := 24) dX1_together_24 rfl ?_
          refine z_aload_n C (pc := 25) dX1_together_25 rfl ?_
          refine z_aload_n C (pc := 26) dX1_together_26 rfl ?_
          refine z_get C (pc := 27) 3 rfl rfl wf_X1 0 (by decide) rfl wl_X1_9 (v := .ref (a 4)) rfl dX1_together_27 ?_
          refine z_iload C (pc := 30) dX1_together_30 rfl ?_
          refine z_calli C (isC := [4]) rfl (by exact fun _ => rfl) (runSN C (wc := [(a 4, .inl (cI, 6, .inl (r 1)))]) (pc := 32) (rY' := rm 0 0) (nn := 2) (As := [.ref (a 4), .int (nI k)]) (rest := [.ref tt.2.1, .int (nI (sumk ets kd x k))]) (c_at l D cI tt (a 4) 6 (r 1) (nI k) (by decide)) rfl rfl ⟨rfl, rfl, ⟨Nat.le_of_ble_eq_true rfl, Nat.le_of_ble_eq_true rfl⟩, Nat.le_of_ble_eq_true rfl, Nat.le_of_ble_eq_true rfl⟩ wl_X1_22 ws_X3_at wi_X3 wc_X3_at (by decide +kernel) rfl rfl (Nat.le_of_ble_eq_true rfl) dX1_together_32) (fun r_3 u_3 h_3 => ?_)
          have h_3 : r_3 = (nI (kd k)) := h_3.trans (kind_at hv hk)
          subst h_3
          refine z_ws (st' := [.int (nI (kd k)), .ref tt.2.1, .int (nI (sumk ets kd x k))]) (ws' := (cW cI a i r)) rfl rfl ?_
          refine z_calli C (isC := []) rfl (by exact fun _ => rfl) (runSN C (wc := []) (pc := 35) (rY' := rm 0 0) (nn := 2) (As := [.ref tt.2.1, .int (nI (kd k))]) (rest := [.int (nI (sumk ets kd x k))]) (c_atE l D cI tt (nI (kd k))) rfl rfl ⟨rfl, rfl, ⟨Nat.le_of_ble_eq_true rfl, Nat.le_of_ble_eq_true rfl⟩, Nat.le_of_ble_eq_true rfl, Nat.le_of_ble_eq_true rfl⟩ wl_X1_22 ws_X3_at wi_X3 wc_X3_at (by decide +kernel) rfl rfl (Nat.le_of_ble_eq_true rfl) dX1_together_35) (fun r_4 u_4 h_4 => ?_)
          have h_4 : r_4 = (nI (ets (kd k))) := h_4.trans (tabE (hv.2.2 k hk).2)
          subst h_4
          refine z_ws (st' := [.int (nI (ets (kd k))), .int (nI (sumk ets kd x k))]) (ws' := (cW cI a i r)) rfl rfl ?_
          refine z_iadd C (pc := 38) dX1_together_38 ?_
          refine z_istore_n C (pc := 39) (lv' := [(0, .ref (a 3)), (1, .int (nI x)), (2, .ref tt.2.1), (3, .int ((nI (sumk ets kd x k)) + (nI (ets (kd k))))), (4, .int (nI k))]) dX1_together_39 (Nat.le_of_ble_eq_true rfl) rfl rfl ?_
          refine z_iinc C (pc := 40) (v := ((nI k) + 1)) (lv' := [(0, .ref (a 3)), (1, .int (nI x)), (2, .ref tt.2.1), (3, .int ((nI (sumk ets kd x k)) + (nI (ets (kd k))))), (4, .int ((nI k) + 1))]) dX1_together_40 rfl rfl (Nat.le_of_ble_eq_true rfl) rfl rfl ?_
          refine z_goto C (pc := 43) (tgt := 5) dX1_together_43 (by decide) ?_
          refine z_lv (lv' := [(0, .ref (a 3)), (1, .int (nI x)), (2, .ref tt.2.1), (3, .int (nI (sumk ets kd x (k + 1)))), (4, .int (nI (k + 1)))]) ⟨rfl, rfl, rfl, lki (by simp [sumk, hb, nI_add]), lki (nI_1 k), trivial⟩ ?_
          exact ih5 (k + 1) (by omega) hk
  refine z_lv (lv' := [(0, .ref (a 3)), (1, .int (nI x)), (2, .ref tt.2.1), (3, .int (nI (sumk ets kd x 0))), (4, .int (nI 0))]) ⟨rfl, rfl, rfl, rfl, rfl, trivial⟩ ?_
  exact key5 (_ + 1) 0 (Nat.lt_succ_self _) (Nat.zero_le _)
