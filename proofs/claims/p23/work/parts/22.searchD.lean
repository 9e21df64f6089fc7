set_option maxHeartbeats 4000000 in
set_option maxRecDepth 100000 in
theorem c_amountsAt (l : Launch) (D : va_G) (cI : ClassId) (tt : Nat × Nat × Nat) (a : Nat → Nat) (i : Nat → Int32) (r : Nat → Nat → Int32) (kd : Nat → Nat) (n : Nat) (hv : PV i r kd n) (c : Nat → Nat) (hc : ∀ k, k < 5 → r 3 k = nI (c k) ∧ c k ≤ 9) (hn : Nat) (hm hs hf hh : Nat → Nat) (hh0 : HV i r n hn hm hs hf hh) (q : Nat) (hq1 : 1 ≤ q) (hq5 : q < 6) : MetI (S := ((Nat → Int32) × (Nat → Nat → Int32))) l yX3_amountsAt cX3_amountsAt 4 (some .int) (rm 5 117) D cI tt [.ref (a 0), .int (nI q)] (cW cI a i r) (fun z u => z = nI (layv kd n c hn hm hs hf hh q) ∧ SP i u.1 ∧ SR r u.2) (fun u => cW cI a u.1 u.2) := by
  have hn6 := hv.2.1
  have hx6 := pow_le6 hn6
  refine met_ofI (by decide) (Nat.le_of_ble_eq_true rfl) ?_
  intro pP eE sS mM aV bB mE cC AA C hin
  refine z_conv (lv' := [(0, .ref (a 0)), (1, .int (nI q))]) ⟨rfl, rfl, trivial⟩ rfl rfl ?_
  refine z_iconst C (pc := 0) (v := 0) dX3_amountsAt_0 (by decide) ?_
  refine z_istore_n C (pc := 1) (lv' := [(0, .ref (a 0)), (1, .int (nI q)), (2, .int 0)]) dX3_amountsAt_1 (Nat.le_of_ble_eq_true rfl) rfl rfl ?_
  refine z_iconst C (pc := 2) (v := 0) dX3_amountsAt_2 (by decide) ?_
  refine z_istore_n C (pc := 3) (lv' := [(0, .ref (a 0)), (1, .int (nI q)), (2, .int 0), (3, .int 0)]) dX3_amountsAt_3 (Nat.le_of_ble_eq_true rfl) rfl rfl ?_
  have key4 : ∀ (fu4 : Nat) (v : Nat) (i' : Nat → Int32) (r' : Nat → Nat → Int32), 10 - v < fu4 → (v ≤ 10) → (SP i i') → (SR r r') → Z pP l eE (rm 5 117) sS mM aV bB mE cC D AA 4 0 0 (MQ bB (va_Qi (S := ((Nat → Int32) × (Nat → Nat → Int32))) (fun z u => z = nI (layv kd n c hn hm hs hf hh q) ∧ SP i u.1 ∧ SR r u.2) (fun u t => va_P D vwCl ((fun u => cW cI a u.1 u.2) u) t.heap) AA) aV sS 0 0 AA) 4 [(0, .ref (a 0)), (1, .int (nI q)), (2, .int (nI (lyv (fun v => alls (sob kd n hm hs hf hh (upN c (q - 1) v)) hn) v))), (3, .int (nI v))] [] (cW cI a i' r') := by
    intro fu4
    induction fu4 with
    | zero => intro v i' r' hfu4; exact absurd hfu4 (Nat.not_lt_zero _)
    | succ fu4 ih4 =>
      intro v i' r' hfu4 hv10 hsp hsr
      refine z_iload_n C (pc := 4) dX3_amountsAt_4 rfl ?_
      refine z_bipush C (pc := 5) (v := 9) dX3_amountsAt_5 (by decide) ?_
      refine z_icmp_gt C (pc := 7) (tgt := 31) dX3_amountsAt_7 (by decide) (fun c_1 => ?_) (fun c_1 => ?_)
      · refine z_iload_n C (pc := 31) dX3_amountsAt_31 rfl ?_
        refine z_iret C (pc := 32) (i', r') dX3_amountsAt_32 ?_ rfl
        have hve : v = 10 := by
          have := Nat.lt_of_not_le (fun h => nI_nlt (a := 9) (b := v) h (by omega) c_1)
          omega
        subst hve
        exact ⟨rfl, hsp, hsr⟩
      · have hv9 : v ≤ 9 := Nat.le_of_not_lt (fun h => c_1 (nI_lt (a := 9) h (by omega)))
        have hc2 : ∀ k, k < 5 → r' 3 k = nI (c k) ∧ c k ≤ 9 := fun k hk => ⟨(congrFun (hsr 3 (by decide)) k).trans (hc k hk).1, (hc k hk).2⟩
        refine z_aload_n C (pc := 10) dX3_amountsAt_10 rfl ?_
        refine z_iload_n C (pc := 11) dX3_amountsAt_11 rfl ?_
        refine z_iload_n C (pc := 12) dX3_amountsAt_12 rfl ?_
        refine z_calliF C (by exact fun _ => cW_ad) (runV C (wc := (cW cI a i' r')) (pc := 13) (rY' := rm 4 92) (nn := 2) (As := [.int (nI q), .int (nI v)]) (rest := []) (c_isAllSo l D cI tt a i' r' kd n (hv.sp hsp hsr) c hc2 hn hm hs hf hh (hh0.sp hsp hsr) q v hq1 hq5 hv9) (full_hC _) (full_nd _) ⟨rfl, rfl, ⟨Nat.le_of_ble_eq_true rfl, Nat.le_of_ble_eq_true rfl⟩, Nat.le_of_ble_eq_true rfl, Nat.le_of_ble_eq_true rfl⟩ wl_X3_217 wm_X3_isAllSo we_X3_isAllSo wi_X3 wc_X3_isAllSo (by decide +kernel) rfl 0 rfl rfl rfl rfl (Nat.le_of_ble_eq_true rfl) dX3_amountsAt_13) (fun z_2 u_2 h_2 => ?_)
        obtain ⟨i2, r2⟩ := u_2
        try dsimp only at h_2
        obtain ⟨k0, k1, k2⟩ := h_2
        refine z_ws (st' := [.int z_2]) (ws' := (cW cI a i2 r2)) rfl rfl ?_
        refine z_if_eq C (pc := 16) (tgt := 25) dX3_amountsAt_16 (by decide) (fun c_3 => ?_) (fun c_3 => ?_)
        · have hP : alls (sob kd n hm hs hf hh (upN c (q - 1) v)) hn = false := b2_f (by rw [← k0]; exact c_3)
          refine z_iinc C (pc := 25) (v := ((nI v) + 1)) (lv' := [(0, .ref (a 0)), (1, .int (nI q)), (2, .int (nI (lyv (fun v => alls (sob kd n hm hs hf hh (upN c (q - 1) v)) hn) v))), (3, .int ((nI v) + 1))]) dX3_amountsAt_25 rfl rfl (Nat.le_of_ble_eq_true rfl) rfl rfl ?_
          refine z_goto C (pc := 28) (tgt := 4) dX3_amountsAt_28 (by decide) ?_
          refine z_lv (lv' := [(0, .ref (a 0)), (1, .int (nI q)), (2, .int (nI (lyv (fun v => alls (sob kd n hm hs hf hh (upN c (q - 1) v)) hn) (v + 1)))), (3, .int (nI (v + 1)))]) ⟨rfl, rfl, lki (by rw [lyv_f (P := (fun v => alls (sob kd n hm hs hf hh (upN c (q - 1) v)) hn)) hP]), lki (nI_1 v), trivial⟩ ?_
          exact ih4 (v + 1) i2 r2 (by omega) (by omega) (hsp.tr k1) (hsr.tr k2)
        · have hP : alls (sob kd n hm hs hf hh (upN c (q - 1) v)) hn = true := b2_t (by rw [← k0]; exact c_3)
          refine z_iload_n C (pc := 19) dX3_amountsAt_19 rfl ?_
          refine z_iconst C (pc := 20) (v := 1) dX3_amountsAt_20 (by decide) ?_
          refine z_iload_n C (pc := 21) dX3_amountsAt_21 rfl ?_
          refine z_ishl C (pc := 22) dX3_amountsAt_22 ?_
          refine z_ior C (pc := 23) dX3_amountsAt_23 ?_
          refine z_istore_n C (pc := 24) (lv' := [(0, .ref (a 0)), (1, .int (nI q)), (2, .int ((nI (lyv (fun v => alls (sob kd n hm hs hf hh (upN c (q - 1) v)) hn) v)) ||| (1 <<< ((nI v) &&& 31)))), (3, .int (nI v))]) dX3_amountsAt_24 (Nat.le_of_ble_eq_true rfl) rfl rfl ?_
          refine z_iinc C (pc := 25) (v := ((nI v) + 1)) (lv' := [(0, .ref (a 0)), (1, .int (nI q)), (2, .int ((nI (lyv (fun v => alls (sob kd n hm hs hf hh (upN c (q - 1) v)) hn) v)) ||| (1 <<< ((nI v) &&& 31)))), (3, .int ((nI v) + 1))]) dX3_amountsAt_25 rfl rfl (Nat.le_of_ble_eq_true rfl) rfl rfl ?_
          refine z_goto C (pc := 28) (tgt := 4) dX3_amountsAt_28 (by decide) ?_
          refine z_lv (lv' := [(0, .ref (a 0)), (1, .int (nI q)), (2, .int (nI (lyv (fun v => alls (sob kd n hm hs hf hh (upN c (q - 1) v)) hn) (v + 1)))), (3, .int (nI (v + 1)))]) ⟨rfl, rfl, lki (by rw [lyv_t (P := (fun v => alls (sob kd n hm hs hf hh (upN c (q - 1) v)) hn)) hP]; exact or_bit v (by omega) _ (lyv_lt _ v)), lki (nI_1 v), trivial⟩ ?_
          exact ih4 (v + 1) i2 r2 (by omega) (by omega) (hsp.tr k1) (hsr.tr k2)
  refine z_lv (lv' := [(0, .ref (a 0)), (1, .int (nI q)), (2, .int (nI (lyv (fun v => alls (sob kd n hm hs hf hh (upN c (q - 1) v)) hn) 0))), (3, .int (nI 0))]) ⟨rfl, rfl, rfl, rfl, trivial⟩ ?_
  exact key4 (_ + 1) 0 i r (Nat.lt_succ_self _) (Nat.zero_le _) SP.rf SR.rf
