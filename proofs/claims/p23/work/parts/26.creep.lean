set_option maxHeartbeats 4000000 in
set_option maxRecDepth 100000 in
theorem c_letCreep (l : Launch) (D : va_G) (cI : ClassId) (tt : Nat × Nat × Nat) (a : Nat → Nat) (i : Nat → Int32) (r : Nat → Nat → Int32) (c : Nat → Nat) (hc : ∀ k, k < 5 → r 3 k = nI (c k) ∧ c k ≤ 9) (mn t : Nat) (hmn : mn ≤ 20) (ht : t < 2147483648) : MetI (S := (Nat → Nat → Int32)) l yX3_letCreep cX3_letCreep 7 (some .int) (rm 2 44) D cI tt [.ref (a 0), .int (nI mn), .int (nI t)] (cW cI a i r) (fun q r' => q = nI (crw mn (t, c)).1 ∧ (∀ q, q ≠ 13 → r' q = r q) ∧ ∀ q, q < 5 → r' 13 q = nI ((crw mn (t, c)).2 q)) (fun r' => cW cI a i r') := by
  have hcc : ∀ k, k < 5 → c k ≤ 9 := fun k hk => (hc k hk).2
  refine met_ofI (by decide) (Nat.le_of_ble_eq_true rfl) ?_
  intro pP eE sS mM aV bB mE cC AA C hin
  refine z_conv (lv' := [(0, .ref (a 0)), (1, .int (nI mn)), (2, .int (nI t))]) ⟨rfl, rfl, rfl, trivial⟩ rfl rfl ?_
  refine z_aload_n C (pc := 0) dX3_letCreep_0 rfl ?_
  refine z_get C (pc := 1) 0 rfl rfl wf_X3 2 (by decide) rfl wl_X3_26 (v := .ref (a 6)) rfl dX3_letCreep_1 ?_
  refine z_getN C (pc := 4) 6 rfl rfl wf_X2 1 (by decide) rfl wl_X3_77 (v := .ref (a 7)) rfl dX3_letCreep_4 ?_
  refine z_aload_n C (pc := 7) dX3_letCreep_7 rfl ?_
  refine z_get C (pc := 8) 0 rfl rfl wf_X3 4 (by decide) rfl wl_X3_33 (v := .ref (a 18)) rfl dX3_letCreep_8 ?_
  refine z_callv C (isC := [7, 18]) rfl (by exact fun _ => rfl) (runS C (wc := [(a 7, .inl (cI, 5, .inl (r 3))), (a 18, .inl (cI, 5, .inl (r 13)))]) (pc := 11) (rY' := rm 1 22) (nn := 2) (As := [.ref (a 7), .ref (a 18)]) (rest := []) (c_copy l D cI tt (a 7) 5 (a 18) 5 (r 3) (r 13) (by decide) (by decide)) rfl rfl ⟨rfl, rfl, ⟨Nat.le_of_ble_eq_true rfl, Nat.le_of_ble_eq_true rfl⟩, Nat.le_of_ble_eq_true rfl, Nat.le_of_ble_eq_true rfl⟩ wl_X3_133 ws_X3_copy wi_X3 wc_X3_copy (by decide +kernel) rfl rfl (Nat.le_of_ble_eq_true rfl) dX3_letCreep_11) (fun u_1 h_1 => ?_)
  subst h_1
  refine z_ws (st' := []) (ws' := (cW cI a i (va_up r 13 (cpv 5 (r 3) 5 (r 13) 5)))) rfl rfl ?_
  refine z_iload_n C (pc := 14) dX3_letCreep_14 rfl ?_
  refine z_istore_n C (pc := 15) (lv' := [(0, .ref (a 0)), (1, .int (nI mn)), (2, .int (nI t)), (3, .int (nI t))]) dX3_letCreep_15 (Nat.le_of_ble_eq_true rfl) rfl rfl ?_
  refine z_iconst C (pc := 16) (v := 0) dX3_letCreep_16 (by decide) ?_
  refine z_istore C (pc := 17) (lv' := [(0, .ref (a 0)), (1, .int (nI mn)), (2, .int (nI t)), (3, .int (nI t)), (4, .int 0)]) dX3_letCreep_17 (Nat.le_of_ble_eq_true rfl) rfl rfl ?_
  have key19 : ∀ (fu19 : Nat) (j : Nat) (r' : Nat → Nat → Int32), mn - j < fu19 → (j ≤ mn) → (∀ q, q ≠ 13 → r' q = r q) → (∀ q, q < 5 → r' 13 q = nI ((crw j (t, c)).2 q)) → Z pP l eE (rm 2 44) sS mM aV bB mE cC D AA 7 0 0 (MQ bB (va_Qi (S := (Nat → Nat → Int32)) (fun q r' => q = nI (crw mn (t, c)).1 ∧ (∀ q, q ≠ 13 → r' q = r q) ∧ ∀ q, q < 5 → r' 13 q = nI ((crw mn (t, c)).2 q)) (fun u t => va_P D vwCl ((fun r' => cW cI a i r') u) t.heap) AA) aV sS 0 0 AA) 19 [(0, .ref (a 0)), (1, .int (nI mn)), (2, .int (nI t)), (3, .int (nI (crw j (t, c)).1)), (4, .int (nI j))] [] (cW cI a i r') := by
    intro fu19
    induction fu19 with
    | zero => intro j r' hfu19; exact absurd hfu19 (Nat.not_lt_zero _)
    | succ fu19 ih19 =>
      intro j r' hfu19 hjm hr' hw'
      refine z_iload C (pc := 19) dX3_letCreep_19 rfl ?_
      refine z_iload_n C (pc := 21) dX3_letCreep_21 rfl ?_
      refine z_icmp_ge C (pc := 22) (tgt := 84) dX3_letCreep_22 (by decide) (fun c_2 => ?_) (fun c_2 => ?_)
      · refine z_iload_n C (pc := 84) dX3_letCreep_84 rfl ?_
        refine z_iret C (pc := 85) r' dX3_letCreep_85 ?_ rfl
        have hje : j = mn := by
          have := ge_of_nI c_2 (by omega)
          omega
        subst hje
        exact ⟨rfl, hr', hw'⟩
      · have hj : j < mn := lt_of_nI c_2 (by omega)
        have hokj := crw_ok ht hcc j
        refine z_iconst C (pc := 25) (v := 0) dX3_letCreep_25 (by decide) ?_
        refine z_istore C (pc := 26) (lv' := [(0, .ref (a 0)), (1, .int (nI mn)), (2, .int (nI t)), (3, .int (nI (crw j (t, c)).1)), (4, .int (nI j)), (5, .int 0)]) dX3_letCreep_26 (Nat.le_of_ble_eq_true rfl) rfl rfl ?_
        have key28 : ∀ (fu28 : Nat) (k : Nat) (r2 : Nat → Nat → Int32), 5 - k < fu28 → (k ≤ 5) → (∀ q, q ≠ 13 → r2 q = r q) → (∀ q, q < 5 → r2 13 q = nI ((crp k (crw j (t, c))).2 q)) → Z pP l eE (rm 2 44) sS mM aV bB mE cC D AA 7 0 0 (MQ bB (va_Qi (S := (Nat → Nat → Int32)) (fun q r' => q = nI (crw mn (t, c)).1 ∧ (∀ q, q ≠ 13 → r' q = r q) ∧ ∀ q, q < 5 → r' 13 q = nI ((crw mn (t, c)).2 q)) (fun u t => va_P D vwCl ((fun r' => cW cI a i r') u) t.heap) AA) aV sS 0 0 AA) 28 [(0, .ref (a 0)), (1, .int (nI mn)), (2, .int (nI t)), (3, .int (nI (crp k (crw j (t, c))).1)), (4, .int (nI j)), (5, .int (nI k))] [] (cW cI a i r2) := by
          intro fu28
          induction fu28 with
          | zero => intro k r2 hfu28; exact absurd hfu28 (Nat.not_lt_zero _)
          | succ fu28 ih28 =>
            intro k r2 hfu28 hk5 hr2 hw2
            refine z_iload C (pc := 28) dX3_letCreep_28 rfl ?_
            refine z_iconst C (pc := 30) (v := 5) dX3_letCreep_30 (by decide) ?_
            refine z_icmp_ge C (pc := 31) (tgt := 78) dX3_letCreep_31 (by decide) (fun c_3 => ?_) (fun c_3 => ?_)
            · have hk5e : k = 5 := by
                have := ge_of_nI (n := 5) c_3 (by decide)
                omega
              subst hk5e
              refine z_iinc C (pc := 78) (v := ((nI j) + 1)) (lv' := [(0, .ref (a 0)), (1, .int (nI mn)), (2, .int (nI t)), (3, .int (nI (crp 5 (crw j (t, c))).1)), (4, .int ((nI j) + 1)), (5, .int (nI 5))]) dX3_letCreep_78 rfl rfl (Nat.le_of_ble_eq_true rfl) rfl rfl ?_
              refine z_goto C (pc := 81) (tgt := 19) dX3_letCreep_81 (by decide) ?_
              refine z_lv (lv' := [(0, .ref (a 0)), (1, .int (nI mn)), (2, .int (nI t)), (3, .int (nI (crw (j + 1) (t, c)).1)), (4, .int (nI (j + 1)))]) ⟨rfl, rfl, rfl, lki (by rw [crw_s]), lki (nI_1 j), trivial⟩ ?_
              exact ih19 (j + 1) r2 (by omega) hj hr2 (by rw [crw_s]; exact hw2)
            · have hk : k < 5 := lt_of_nI (n := 5) c_3 (by omega)
              have hok := crp_ok hokj k
              refine z_iload_n C (pc := 34) dX3_letCreep_34 rfl ?_
              refine z_calli C (isC := []) rfl (by exact fun _ => rfl) (runS C (wc := []) (pc := 35) (rY' := rm 0 0) (nn := 1) (As := [.int (nI (crp k (crw j (t, c))).1)]) (rest := []) (c_nextSeed l D cI tt (nI (crp k (crw j (t, c))).1)) rfl rfl ⟨rfl, rfl, ⟨Nat.le_of_ble_eq_true rfl, Nat.le_of_ble_eq_true rfl⟩, Nat.le_of_ble_eq_true rfl, Nat.le_of_ble_eq_true rfl⟩ wl_X3_239 ws_X3_nextSeed wi_X3 wc_X3_nextSeed (by decide +kernel) rfl rfl (Nat.le_of_ble_eq_true rfl) dX3_letCreep_35) (fun r_4 u_4 h_4 => ?_)
              have h_4 : r_4 = nI (nxt (crp k (crw j (t, c))).1) := h_4.trans (nextSeed_nI hok.1)
              subst h_4
              refine z_ws (st' := [.int (nI (nxt (crp k (crw j (t, c))).1))]) (ws' := (cW cI a i r2)) rfl rfl ?_
              refine z_istore_n C (pc := 38) (lv' := [(0, .ref (a 0)), (1, .int (nI mn)), (2, .int (nI t)), (3, .int (nI (nxt (crp k (crw j (t, c))).1))), (4, .int (nI j)), (5, .int (nI k))]) dX3_letCreep_38 (Nat.le_of_ble_eq_true rfl) rfl rfl ?_
              refine z_iload_n C (pc := 39) dX3_letCreep_39 rfl ?_
              refine z_bipush C (pc := 40) (v := 16) dX3_letCreep_40 (by decide) ?_
              refine z_ishr C (pc := 42) dX3_letCreep_42 ?_
              refine z_iconst C (pc := 43) (v := 3) dX3_letCreep_43 (by decide) ?_
              refine z_irem C (pc := 44) dX3_letCreep_44 (by decide) ?_
              refine z_seti (y := nI (crn (nxt (crp k (crw j (t, c))).1))) (crn_eq (nxt_lt _)) ?_
              refine z_istore C (pc := 45) (lv' := [(0, .ref (a 0)), (1, .int (nI mn)), (2, .int (nI t)), (3, .int (nI (nxt (crp k (crw j (t, c))).1))), (4, .int (nI j)), (5, .int (nI k)), (6, .int (nI (crn (nxt (crp k (crw j (t, c))).1))))]) dX3_letCreep_45 (Nat.le_of_ble_eq_true rfl) rfl rfl ?_
              refine z_aload_n C (pc := 47) dX3_letCreep_47 rfl ?_
              refine z_get C (pc := 48) 0 rfl rfl wf_X3 4 (by decide) rfl wl_X3_33 (v := .ref (a 18)) rfl dX3_letCreep_48 ?_
              refine z_iload C (pc := 51) dX3_letCreep_51 rfl ?_
              refine z_iconst C (pc := 53) (v := 0) dX3_letCreep_53 (by decide) ?_
              refine z_aload_n C (pc := 54) dX3_letCreep_54 rfl ?_
              refine z_get C (pc := 55) 0 rfl rfl wf_X3 4 (by decide) rfl wl_X3_33 (v := .ref (a 18)) rfl dX3_letCreep_55 ?_
              refine z_iload C (pc := 58) dX3_letCreep_58 rfl ?_
              refine z_calli C (isC := [18]) rfl (by exact fun _ => rfl) (runS C (wc := [(a 18, .inl (cI, 5, .inl (r2 13)))]) (pc := 60) (rY' := rm 0 0) (nn := 2) (As := [.ref (a 18), .int (nI k)]) (rest := [.int 0, .int (nI k), .ref (a 18)]) (c_at l D cI tt (a 18) 5 (r2 13) (nI k) (by decide)) rfl rfl ⟨rfl, rfl, ⟨Nat.le_of_ble_eq_true rfl, Nat.le_of_ble_eq_true rfl⟩, Nat.le_of_ble_eq_true rfl, Nat.le_of_ble_eq_true rfl⟩ wl_X3_87 ws_X3_at wi_X3 wc_X3_at (by decide +kernel) rfl rfl (Nat.le_of_ble_eq_true rfl) dX3_letCreep_60) (fun r_5 u_5 h_5 => ?_)
              have h_5 : r_5 = (nI ((crp k (crw j (t, c))).2 k)) := h_5.trans ((atv_nI (by omega) (by decide)).trans (hw2 k (by omega)))
              subst h_5
              refine z_ws (st' := [.int (nI ((crp k (crw j (t, c))).2 k)), .int 0, .int (nI k), .ref (a 18)]) (ws' := (cW cI a i r2)) rfl rfl ?_
              refine z_iload C (pc := 63) dX3_letCreep_63 rfl ?_
              refine z_isub C (pc := 65) dX3_letCreep_65 ?_
              refine z_mmax C (pc := 66) wl_X3_236 (Nat.le_of_ble_eq_true rfl) (Nat.le_of_ble_eq_true rfl) (Nat.zero_le _) (Nat.zero_le _) dX3_letCreep_66 ?_
              refine z_seti (y := nI ((crp k (crw j (t, c))).2 k - crn (nxt (crp k (crw j (t, c))).1))) (max_sub _ (by have := hok.2 k (by omega); omega) _ (crn_lt _)) ?_
              refine z_callv C (isC := [18]) rfl (by exact fun _ => rfl) (runS C (wc := [(a 18, .inl (cI, 5, .inl (r2 13)))]) (pc := 69) (rY' := rm 0 0) (nn := 3) (As := [.ref (a 18), .int (nI k), .int (nI ((crp k (crw j (t, c))).2 k - crn (nxt (crp k (crw j (t, c))).1)))]) (rest := []) (c_put l D cI tt (a 18) 5 (r2 13) (nI k) (nI ((crp k (crw j (t, c))).2 k - crn (nxt (crp k (crw j (t, c))).1))) (by decide)) rfl rfl ⟨rfl, rfl, ⟨Nat.le_of_ble_eq_true rfl, Nat.le_of_ble_eq_true rfl⟩, Nat.le_of_ble_eq_true rfl, Nat.le_of_ble_eq_true rfl⟩ wl_X3_66 ws_X3_put wi_X3 wc_X3_put (by decide +kernel) rfl rfl (Nat.le_of_ble_eq_true rfl) dX3_letCreep_69) (fun u_6 h_6 => ?_)
              subst h_6
              refine z_ws (st' := []) (ws' := (cW cI a i (va_up r2 13 (putv 5 (r2 13) (nI k) (nI ((crp k (crw j (t, c))).2 k - crn (nxt (crp k (crw j (t, c))).1))))))) rfl rfl ?_
              refine z_iinc C (pc := 72) (v := ((nI k) + 1)) (lv' := [(0, .ref (a 0)), (1, .int (nI mn)), (2, .int (nI t)), (3, .int (nI (nxt (crp k (crw j (t, c))).1))), (4, .int (nI j)), (5, .int ((nI k) + 1)), (6, .int (nI (crn (nxt (crp k (crw j (t, c))).1))))]) dX3_letCreep_72 rfl rfl (Nat.le_of_ble_eq_true rfl) rfl rfl ?_
              refine z_goto C (pc := 75) (tgt := 28) dX3_letCreep_75 (by decide) ?_
              refine z_lv (lv' := [(0, .ref (a 0)), (1, .int (nI mn)), (2, .int (nI t)), (3, .int (nI (crp (k + 1) (crw j (t, c))).1)), (4, .int (nI j)), (5, .int (nI (k + 1)))]) ⟨rfl, rfl, rfl, lki (by rw [crp_1]), rfl, lki (nI_1 k), trivial⟩ ?_
              exact ih28 (k + 1) (va_up r2 13 (putv 5 (r2 13) (nI k) (nI ((crp k (crw j (t, c))).2 k - crn (nxt (crp k (crw j (t, c))).1))))) (by omega) hk (fun q hq => (vup_n (by omega)).trans (hr2 q hq)) (fun q hq => by rw [vup_s, putv_nI hk (by decide), crp_2]; unfold upd upN; by_cases e : q = k <;> simp [e, hw2 q hq])
        refine z_lv (lv' := [(0, .ref (a 0)), (1, .int (nI mn)), (2, .int (nI t)), (3, .int (nI (crp 0 (crw j (t, c))).1)), (4, .int (nI j)), (5, .int (nI 0))]) ⟨rfl, rfl, rfl, rfl, rfl, rfl, trivial⟩ ?_
        exact key28 (_ + 1) 0 r' (Nat.lt_succ_self _) (Nat.zero_le _) hr' hw'
  refine z_lv (lv' := [(0, .ref (a 0)), (1, .int (nI mn)), (2, .int (nI t)), (3, .int (nI (crw 0 (t, c)).1)), (4, .int (nI 0))]) ⟨rfl, rfl, rfl, rfl, rfl, trivial⟩ ?_
  exact key19 (_ + 1) 0 (va_up r 13 (cpv 5 (r 3) 5 (r 13) 5)) (Nat.lt_succ_self _) (Nat.zero_le _) (fun q hq => vup_n hq) (fun q hq => by rw [vup_s, cpv_at (by decide) (by decide) 5 (by decide) (by decide), if_pos hq]; exact (hc q hq).1)
