set_option maxHeartbeats 4000000 in
set_option maxRecDepth 100000 in
theorem c_camp (l : Launch) (D : va_G) (cI : ClassId) (tt : Nat × Nat × Nat) (a : Nat → Nat) (i : Nat → Int32) (r : Nat → Nat → Int32) (z : SG) (hz : Cls z i r) (vz : VS z) : MetI (S := ((Nat → Int32) × (Nat → Nat → Int32))) l yX3_camp cX3_camp 2 (some .int) (rm 4 86) D cI tt [.ref (a 0)] (cW cI a i r) (fun q u => q = (campF z).1 ∧ Cls (campF z).2 u.1 u.2) (fun u => cW cI a u.1 u.2) := by
  refine met_ofI (by decide) (Nat.le_of_ble_eq_true rfl) ?_
  intro pP eE sS mM aV bB mE cC AA C hin
  refine z_conv (lv' := [(0, .ref (a 0))]) ⟨rfl, trivial⟩ rfl rfl ?_
  refine z_aload_n C (pc := 0) dX3_camp_0 rfl ?_
  refine z_get C (pc := 1) 0 rfl rfl wf_X3 0 (by decide) rfl wl_X3_10 (v := .ref (a 1)) rfl dX3_camp_1 ?_
  refine z_calliF C (by exact fun _ => cW_ad) (runVN C (wc := (cW cI a i r)) (pc := 4) (rY' := rm 3 66) (nn := 0) (As := []) (rest := []) (c_isCamp l D cI tt a i r (z.1 3) hz.1.2.2.2.1 vz.2.2.1) (full_hC _) (full_nd _) ⟨rfl, rfl, ⟨Nat.le_of_ble_eq_true rfl, Nat.le_of_ble_eq_true rfl⟩, Nat.le_of_ble_eq_true rfl, Nat.le_of_ble_eq_true rfl⟩ wl_X3_49 wm_X0_isCamp we_X0_isCamp wi_X0 wc_X0_isCamp (by decide +kernel) rfl 1 rfl rfl rfl rfl (Nat.le_of_ble_eq_true rfl) dX3_camp_4) (fun q_1 u_1 h_1 => ?_)
  refine z_ws (st' := [.int q_1]) (ws' := (cW cI a i r)) rfl rfl ?_
  refine z_if_ne C (pc := 7) (tgt := 13) dX3_camp_7 (by decide) (fun c_2 => ?_) (fun c_2 => ?_)
  · have hb := b2_t (h_1 ▸ c_2)
    rw [campb_congr hz.2.1.1] at hb
    obtain ⟨f1, f2, f3, f4⟩ := camp_facts hb
    refine z_aload_n C (pc := 13) dX3_camp_13 rfl ?_
    refine z_get C (pc := 14) 0 rfl rfl wf_X3 1 (by decide) rfl wl_X3_19 (v := .ref (a 3)) rfl dX3_camp_14 ?_
    refine z_aload_n C (pc := 17) dX3_camp_17 rfl ?_
    refine z_get C (pc := 18) 0 rfl rfl wf_X3 0 (by decide) rfl wl_X3_10 (v := .ref (a 1)) rfl dX3_camp_18 ?_
    refine z_getN C (pc := 21) 1 rfl rfl wf_X0 1 (by decide) rfl wl_X3_41 (v := .int (i 3)) rfl dX3_camp_21 ?_
    refine z_iconst C (pc := 24) (v := 5) dX3_camp_24 (by decide) ?_
    refine z_isub C (pc := 25) dX3_camp_25 ?_
    refine z_iconst C (pc := 26) (v := 1) dX3_camp_26 (by decide) ?_
    refine z_isub C (pc := 27) dX3_camp_27 ?_
    refine z_seti (y := nI (z.1 3 - 6)) (by rw [hz.1.2.2.2.1, show (5 : Int32) = nI 5 from rfl, pk_sub (by omega), show (1 : Int32) = nI 1 from rfl, pk_sub (by omega)]; rfl) ?_
    refine z_putN C (pc := 28) 3 rfl rfl wf_X1 1 (by decide) rfl tyX1 tyX1_ok nmX1 rfl rfl rfl (Nat.le_of_ble_eq_true rfl) (ws' := (cW cI a (upd i 4 (nI (z.1 3 - 6))) r)) rfl wl_X3_53 dX3_camp_28 ?_
    refine z_iconst C (pc := 31) (v := 0) dX3_camp_31 (by decide) ?_
    refine z_istore_n C (pc := 32) (lv' := [(0, .ref (a 0)), (1, .int 0)]) dX3_camp_32 (Nat.le_of_ble_eq_true rfl) rfl rfl ?_
    have key33 : ∀ (fu33 : Nat) (k : Nat) (r' : Nat → Nat → Int32), (z.1 3 - 6) - k < fu33 → (k ≤ (z.1 3 - 6)) → (∀ q, q ≠ 1 → r' q = r q) → (∀ j, j < k → r' 1 j = nI (kdn (z.2.2 j))) → Z pP l eE (rm 4 86) sS mM aV bB mE cC D AA 2 0 0 (MQ bB (va_Qi (S := ((Nat → Int32) × (Nat → Nat → Int32))) (fun q u => q = (campF z).1 ∧ Cls (campF z).2 u.1 u.2) (fun u t => va_P D vwCl ((fun u => cW cI a u.1 u.2) u) t.heap) AA) aV sS 0 0 AA) 33 [(0, .ref (a 0)), (1, .int (nI k))] [] (cW cI a (upd i 4 (nI (z.1 3 - 6))) r') := by
      intro fu33
      induction fu33 with
      | zero => intro k r' hfu33; exact absurd hfu33 (Nat.not_lt_zero _)
      | succ fu33 ih33 =>
        intro k r' hfu33 hkn hr0 hr1
        refine z_iload_n C (pc := 33) dX3_camp_33 rfl ?_
        refine z_aload_n C (pc := 34) dX3_camp_34 rfl ?_
        refine z_get C (pc := 35) 0 rfl rfl wf_X3 1 (by decide) rfl wl_X3_19 (v := .ref (a 3)) rfl dX3_camp_35 ?_
        refine z_getN C (pc := 38) 3 rfl rfl wf_X1 1 (by decide) rfl wl_X3_53 (v := .int (nI (z.1 3 - 6))) rfl dX3_camp_38 ?_
        refine z_icmp_ge C (pc := 41) (tgt := 72) dX3_camp_41 (by decide) (fun c_3 => ?_) (fun c_3 => ?_)
        · have hke : k = (z.1 3 - 6) := by
            have := ge_of_nI c_3 (by omega)
            omega
          subst hke
          refine z_lv (lv' := [(0, .ref (a 0))]) ⟨rfl, trivial⟩ ?_
          refine z_aload_n C (pc := 72) dX3_camp_72 rfl ?_
          refine z_get C (pc := 73) 0 rfl rfl wf_X3 2 (by decide) rfl wl_X3_26 (v := .ref (a 6)) rfl dX3_camp_73 ?_
          refine z_aload_n C (pc := 76) dX3_camp_76 rfl ?_
          refine z_get C (pc := 77) 0 rfl rfl wf_X3 1 (by decide) rfl wl_X3_19 (v := .ref (a 3)) rfl dX3_camp_77 ?_
          refine z_calliF C (by exact fun _ => cW_ad) (runVN C (wc := (cW cI a (upd i 4 (nI (z.1 3 - 6))) r')) (pc := 80) (rY' := rm 0 0) (nn := 0) (As := []) (rest := [.ref (a 6)]) (c_all l D cI tt a (upd i 4 (nI (z.1 3 - 6))) r' (z.1 3 - 6) upd_s (by omega)) (full_hC _) (full_nd _) ⟨rfl, rfl, ⟨Nat.le_of_ble_eq_true rfl, Nat.le_of_ble_eq_true rfl⟩, Nat.le_of_ble_eq_true rfl, Nat.le_of_ble_eq_true rfl⟩ wl_X3_70 wm_X1_all we_X1_all wi_X1 wc_X1_all (by decide +kernel) rfl 3 rfl rfl rfl rfl (Nat.le_of_ble_eq_true rfl) dX3_camp_80) (fun q_4 u_4 h_4 => ?_)
          subst h_4
          refine z_ws (st' := [.int (nI (2 ^ (z.1 3 - 6) - 1)), .ref (a 6)]) (ws' := (cW cI a (upd i 4 (nI (z.1 3 - 6))) r')) rfl rfl ?_
          refine z_callvF C (by exact fun _ => cW_ad) (runVN C (wc := (cW cI a (upd i 4 (nI (z.1 3 - 6))) r')) (pc := 83) (rY' := rm 0 0) (nn := 1) (As := [.int (nI (2 ^ (z.1 3 - 6) - 1))]) (rest := []) (c_begin l D cI tt a (upd i 4 (nI (z.1 3 - 6))) r' (nI (2 ^ (z.1 3 - 6) - 1))) (full_hC _) (full_nd _) ⟨rfl, rfl, ⟨Nat.le_of_ble_eq_true rfl, Nat.le_of_ble_eq_true rfl⟩, Nat.le_of_ble_eq_true rfl, Nat.le_of_ble_eq_true rfl⟩ wl_X3_73 wm_X2_begin we_X2_begin wi_X2 wc_X2_begin (by decide +kernel) rfl 6 rfl rfl rfl rfl (Nat.le_of_ble_eq_true rfl) dX3_camp_83) (fun u_5 h_5 => ?_)
          obtain ⟨iB, rB⟩ := u_5
          obtain ⟨e1, e2⟩ := Prod.mk.inj h_5
          subst e1
          have e3 := e2.symm
          subst e3
          refine z_ws (st' := []) (ws' := (cW cI a (upd (upd (upd (upd (upd i 4 (nI (z.1 3 - 6))) 10 (nI (2 ^ (z.1 3 - 6) - 1))) 11 0) 12 0) 13 0) r')) rfl rfl ?_
          refine z_iconst C (pc := 86) (v := 0) dX3_camp_86 (by decide) ?_
          refine z_istore_n C (pc := 87) (lv' := [(0, .ref (a 0)), (1, .int 0)]) dX3_camp_87 (Nat.le_of_ble_eq_true rfl) rfl rfl ?_
          have key88 : ∀ (fu88 : Nat) (j : Nat) (r2 : Nat → Nat → Int32), 5 - j < fu88 → (j ≤ 5) → (∀ q, q ≠ 1 → q ≠ 3 → r2 q = r q) → (∀ k, k < (z.1 3 - 6) → r2 1 k = nI (kdn (z.2.2 k))) → (∀ k, k < j → r2 3 k = nI (fdn (z.2.2 (z.1 3 - 5 + k)))) → Z pP l eE (rm 4 86) sS mM aV bB mE cC D AA 2 0 0 (MQ bB (va_Qi (S := ((Nat → Int32) × (Nat → Nat → Int32))) (fun q u => q = (campF z).1 ∧ Cls (campF z).2 u.1 u.2) (fun u t => va_P D vwCl ((fun u => cW cI a u.1 u.2) u) t.heap) AA) aV sS 0 0 AA) 88 [(0, .ref (a 0)), (1, .int (nI j))] [] (cW cI a (upd (upd (upd (upd (upd i 4 (nI (z.1 3 - 6))) 10 (nI (2 ^ (z.1 3 - 6) - 1))) 11 0) 12 0) 13 0) r2) := by
            intro fu88
            induction fu88 with
            | zero => intro j r2 hfu88; exact absurd hfu88 (Nat.not_lt_zero _)
            | succ fu88 ih88 =>
              intro j r2 hfu88 hj5 hr2 hr3 hr4
              refine z_iload_n C (pc := 88) dX3_camp_88 rfl ?_
              refine z_iconst C (pc := 89) (v := 5) dX3_camp_89 (by decide) ?_
              refine z_icmp_ge C (pc := 90) (tgt := 131) dX3_camp_90 (by decide) (fun c_6 => ?_) (fun c_6 => ?_)
              · have hje : j = 5 := by
                  have := ge_of_nI (n := 5) c_6 (by decide)
                  omega
                subst hje
                refine z_lv (lv' := [(0, .ref (a 0))]) ⟨rfl, trivial⟩ ?_
                refine z_aload_n C (pc := 131) dX3_camp_131 rfl ?_
                refine z_iconst C (pc := 132) (v := 0) dX3_camp_132 (by decide) ?_
                refine z_put C (pc := 133) 0 rfl rfl wf_X3 5 (by decide) rfl tyX3 tyX3_ok nmX3 rfl rfl rfl (Nat.le_of_ble_eq_true rfl) (ws' := (cW cI a (upd (upd (upd (upd (upd (upd i 4 (nI (z.1 3 - 6))) 10 (nI (2 ^ (z.1 3 - 6) - 1))) 11 0) 12 0) 13 0) 0 0) r2)) rfl wl_X3_80 dX3_camp_133 ?_
                refine z_aload_n C (pc := 136) dX3_camp_136 rfl ?_
                refine z_dup C (pc := 137) dX3_camp_137 rfl ?_
                refine z_get C (pc := 138) 0 rfl rfl wf_X3 6 (by decide) rfl wl_X3_84 (v := .int (i 1)) rfl dX3_camp_138 ?_
                refine z_iconst C (pc := 141) (v := 1) dX3_camp_141 (by decide) ?_
                refine z_iadd C (pc := 142) dX3_camp_142 ?_
                refine z_put C (pc := 143) 0 rfl rfl wf_X3 6 (by decide) rfl tyX3 tyX3_ok nmX3 rfl rfl rfl (Nat.le_of_ble_eq_true rfl) (ws' := (cW cI a (upd (upd (upd (upd (upd (upd (upd i 4 (nI (z.1 3 - 6))) 10 (nI (2 ^ (z.1 3 - 6) - 1))) 11 0) 12 0) 13 0) 0 0) 1 ((i 1) + 1)) r2)) rfl wl_X3_84 dX3_camp_143 ?_
                refine z_aload_n C (pc := 146) dX3_camp_146 rfl ?_
                refine z_get C (pc := 147) 0 rfl rfl wf_X3 0 (by decide) rfl wl_X3_10 (v := .ref (a 1)) rfl dX3_camp_147 ?_
                refine z_iconst C (pc := 150) (v := 0) dX3_camp_150 (by decide) ?_
                refine z_putN C (pc := 151) 1 rfl rfl wf_X0 1 (by decide) rfl tyX0 tyX0_ok nmX0 rfl rfl rfl (Nat.le_of_ble_eq_true rfl) (ws' := (cW cI a (upd (upd (upd (upd (upd (upd (upd (upd i 4 (nI (z.1 3 - 6))) 10 (nI (2 ^ (z.1 3 - 6) - 1))) 11 0) 12 0) 13 0) 0 0) 1 ((i 1) + 1)) 3 0) r2)) rfl wl_X3_41 dX3_camp_151 ?_
                refine z_aload_n C (pc := 154) dX3_camp_154 rfl ?_
                refine z_get C (pc := 155) 0 rfl rfl wf_X3 1 (by decide) rfl wl_X3_19 (v := .ref (a 3)) rfl dX3_camp_155 ?_
                refine z_getN C (pc := 158) 3 rfl rfl wf_X1 1 (by decide) rfl wl_X3_53 (v := .int (nI (z.1 3 - 6))) rfl dX3_camp_158 ?_
                refine z_iret C (pc := 161) ((upd (upd (upd (upd (upd (upd (upd (upd i 4 (nI (z.1 3 - 6))) 10 (nI (2 ^ (z.1 3 - 6) - 1))) 11 0) 12 0) 13 0) 0 0) 1 ((i 1) + 1)) 3 0), r2) dX3_camp_161 ?_ rfl
                exact ⟨by unfold campF; rw [if_pos hb], cl_camp hz hb rfl rfl hr3 hr4⟩
              · have hj : j < 5 := lt_of_nI (n := 5) c_6 (by omega)
                refine z_aload_n C (pc := 93) dX3_camp_93 rfl ?_
                refine z_get C (pc := 94) 0 rfl rfl wf_X3 2 (by decide) rfl wl_X3_26 (v := .ref (a 6)) rfl dX3_camp_94 ?_
                refine z_getN C (pc := 97) 6 rfl rfl wf_X2 1 (by decide) rfl wl_X3_77 (v := .ref (a 7)) rfl dX3_camp_97 ?_
                refine z_iload_n C (pc := 100) dX3_camp_100 rfl ?_
                refine z_aload_n C (pc := 101) dX3_camp_101 rfl ?_
                refine z_get C (pc := 102) 0 rfl rfl wf_X3 0 (by decide) rfl wl_X3_10 (v := .ref (a 1)) rfl dX3_camp_102 ?_
                refine z_aload_n C (pc := 105) dX3_camp_105 rfl ?_
                refine z_get C (pc := 106) 0 rfl rfl wf_X3 1 (by decide) rfl wl_X3_19 (v := .ref (a 3)) rfl dX3_camp_106 ?_
                refine z_getN C (pc := 109) 3 rfl rfl wf_X1 1 (by decide) rfl wl_X3_53 (v := .int (nI (z.1 3 - 6))) rfl dX3_camp_109 ?_
                refine z_iconst C (pc := 112) (v := 1) dX3_camp_112 (by decide) ?_
                refine z_iadd C (pc := 113) dX3_camp_113 ?_
                refine z_iload_n C (pc := 114) dX3_camp_114 rfl ?_
                refine z_iadd C (pc := 115) dX3_camp_115 ?_
                refine z_seti (y := nI (z.1 3 - 5 + j)) (by rw [show (1 : Int32) = nI 1 from rfl, nI_add, nI_add, show z.1 3 - 6 + 1 + j = z.1 3 - 5 + j by omega]) ?_
                refine z_calliF C (by exact fun _ => cW_ad) (runVN C (wc := (cW cI a (upd (upd (upd (upd (upd i 4 (nI (z.1 3 - 6))) 10 (nI (2 ^ (z.1 3 - 6) - 1))) 11 0) 12 0) 13 0) r2)) (pc := 116) (rY' := rm 1 21) (nn := 1) (As := [.int (nI (z.1 3 - 5 + j))]) (rest := [.int (nI j), .ref (a 7)]) (c_codeAt l D cI tt a (upd (upd (upd (upd (upd i 4 (nI (z.1 3 - 6))) 10 (nI (2 ^ (z.1 3 - 6) - 1))) 11 0) 12 0) 13 0) r2 (nI (z.1 3 - 5 + j))) (full_hC _) (full_nd _) ⟨rfl, rfl, ⟨Nat.le_of_ble_eq_true rfl, Nat.le_of_ble_eq_true rfl⟩, Nat.le_of_ble_eq_true rfl, Nat.le_of_ble_eq_true rfl⟩ wl_X3_59 wm_X0_codeAt we_X0_codeAt wi_X0 wc_X0_codeAt (by decide +kernel) rfl 1 rfl rfl rfl rfl (Nat.le_of_ble_eq_true rfl) dX3_camp_116) (fun q_7 u_7 h_7 => ?_)
                have h_7 : q_7 = z.2.2 (z.1 3 - 5 + j) := h_7.trans ((atv_nI (by omega) (by decide)).trans ((congrFun (hr2 0 (by decide) (by decide)) _).trans (hz.2.1.1 _ (by omega))))
                subst h_7
                refine z_ws (st' := [.int (z.2.2 (z.1 3 - 5 + j)), .int (nI j), .ref (a 7)]) (ws' := (cW cI a (upd (upd (upd (upd (upd i 4 (nI (z.1 3 - 6))) 10 (nI (2 ^ (z.1 3 - 6) - 1))) 11 0) 12 0) 13 0) r2)) rfl rfl ?_
                refine z_bipush C (pc := 119) (v := 48) dX3_camp_119 (by decide) ?_
                refine z_isub C (pc := 121) dX3_camp_121 ?_
                refine z_seti (y := nI (fdn (z.2.2 (z.1 3 - 5 + j)))) (f4 j hj).1 ?_
                refine z_callv C (isC := [7]) rfl (by exact fun _ => rfl) (runS C (wc := [(a 7, .inl (cI, 5, .inl (r2 3)))]) (pc := 122) (rY' := rm 0 0) (nn := 3) (As := [.ref (a 7), .int (nI j), .int (nI (fdn (z.2.2 (z.1 3 - 5 + j))))]) (rest := []) (c_put l D cI tt (a 7) 5 (r2 3) (nI j) (nI (fdn (z.2.2 (z.1 3 - 5 + j)))) (by decide)) rfl rfl ⟨rfl, rfl, ⟨Nat.le_of_ble_eq_true rfl, Nat.le_of_ble_eq_true rfl⟩, Nat.le_of_ble_eq_true rfl, Nat.le_of_ble_eq_true rfl⟩ wl_X3_66 ws_X3_put wi_X3 wc_X3_put (by decide +kernel) rfl rfl (Nat.le_of_ble_eq_true rfl) dX3_camp_122) (fun u_8 h_8 => ?_)
                subst h_8
                refine z_ws (st' := []) (ws' := (cW cI a (upd (upd (upd (upd (upd i 4 (nI (z.1 3 - 6))) 10 (nI (2 ^ (z.1 3 - 6) - 1))) 11 0) 12 0) 13 0) (va_up r2 3 (putv 5 (r2 3) (nI j) (nI (fdn (z.2.2 (z.1 3 - 5 + j)))))))) rfl rfl ?_
                refine z_iinc C (pc := 125) (v := ((nI j) + 1)) (lv' := [(0, .ref (a 0)), (1, .int ((nI j) + 1))]) dX3_camp_125 rfl rfl (Nat.le_of_ble_eq_true rfl) rfl rfl ?_
                refine z_goto C (pc := 128) (tgt := 88) dX3_camp_128 (by decide) ?_
                refine z_lv (lv' := [(0, .ref (a 0)), (1, .int (nI (j + 1)))]) ⟨rfl, lki (nI_1 j), trivial⟩ ?_
                exact ih88 (j + 1) (va_up r2 3 (putv 5 (r2 3) (nI j) (nI (fdn (z.2.2 (z.1 3 - 5 + j)))))) (by omega) hj (fun q h h3 => (vup_n h3).trans (hr2 q h h3)) (fun k hk => by rw [vup_n (by decide)]; exact hr3 k hk) (fun k hk => by rw [vup_s, putv_nI (by omega) (by decide)]; unfold upd; by_cases e : k = j; (rw [if_pos e, e]); (rw [if_neg e]; exact hr4 k (by omega)))
          refine z_lv (lv' := [(0, .ref (a 0)), (1, .int (nI 0))]) ⟨rfl, rfl, trivial⟩ ?_
          exact key88 (_ + 1) 0 r' (Nat.lt_succ_self _) (Nat.zero_le _) (fun q h _ => hr0 q h) hr1 (fun j h => absurd h (Nat.not_lt_zero j))
        · have hk : k < (z.1 3 - 6) := lt_of_nI c_3 (by omega)
          refine z_aload_n C (pc := 44) dX3_camp_44 rfl ?_
          refine z_get C (pc := 45) 0 rfl rfl wf_X3 1 (by decide) rfl wl_X3_19 (v := .ref (a 3)) rfl dX3_camp_45 ?_
          refine z_getN C (pc := 48) 3 rfl rfl wf_X1 0 (by decide) rfl wl_X3_56 (v := .ref (a 4)) rfl dX3_camp_48 ?_
          refine z_iload_n C (pc := 51) dX3_camp_51 rfl ?_
          refine z_aload_n C (pc := 52) dX3_camp_52 rfl ?_
          refine z_get C (pc := 53) 0 rfl rfl wf_X3 0 (by decide) rfl wl_X3_10 (v := .ref (a 1)) rfl dX3_camp_53 ?_
          refine z_iload_n C (pc := 56) dX3_camp_56 rfl ?_
          refine z_calliF C (by exact fun _ => cW_ad) (runVN C (wc := (cW cI a (upd i 4 (nI (z.1 3 - 6))) r')) (pc := 57) (rY' := rm 1 21) (nn := 1) (As := [.int (nI k)]) (rest := [.int (nI k), .ref (a 4)]) (c_codeAt l D cI tt a (upd i 4 (nI (z.1 3 - 6))) r' (nI k)) (full_hC _) (full_nd _) ⟨rfl, rfl, ⟨Nat.le_of_ble_eq_true rfl, Nat.le_of_ble_eq_true rfl⟩, Nat.le_of_ble_eq_true rfl, Nat.le_of_ble_eq_true rfl⟩ wl_X3_59 wm_X0_codeAt we_X0_codeAt wi_X0 wc_X0_codeAt (by decide +kernel) rfl 1 rfl rfl rfl rfl (Nat.le_of_ble_eq_true rfl) dX3_camp_57) (fun q_9 u_9 h_9 => ?_)
          have h_9 : q_9 = z.2.2 k := h_9.trans ((atv_nI (by omega) (by decide)).trans ((congrFun (hr0 0 (by decide)) k).trans (hz.2.1.1 k (by omega))))
          subst h_9
          refine z_ws (st' := [.int (z.2.2 k), .int (nI k), .ref (a 4)]) (ws' := (cW cI a (upd i 4 (nI (z.1 3 - 6))) r')) rfl rfl ?_
          refine z_calli C (isC := []) rfl (by exact fun _ => rfl) (runS C (wc := []) (pc := 60) (rY' := rm 0 0) (nn := 1) (As := [.int (z.2.2 k)]) (rest := [.int (nI k), .ref (a 4)]) (c_kindOf l D cI tt (z.2.2 k)) rfl rfl ⟨rfl, rfl, ⟨Nat.le_of_ble_eq_true rfl, Nat.le_of_ble_eq_true rfl⟩, Nat.le_of_ble_eq_true rfl, Nat.le_of_ble_eq_true rfl⟩ wl_X3_63 ws_X3_kindOf wi_X3 wc_X3_kindOf (by decide +kernel) rfl rfl (Nat.le_of_ble_eq_true rfl) dX3_camp_60) (fun r_10 u_10 h_10 => ?_)
          have h_10 : r_10 = nI (kdn (z.2.2 k)) := h_10.trans (f3 k hk).1
          subst h_10
          refine z_ws (st' := [.int (nI (kdn (z.2.2 k))), .int (nI k), .ref (a 4)]) (ws' := (cW cI a (upd i 4 (nI (z.1 3 - 6))) r')) rfl rfl ?_
          refine z_callv C (isC := [4]) rfl (by exact fun _ => rfl) (runS C (wc := [(a 4, .inl (cI, 6, .inl (r' 1)))]) (pc := 63) (rY' := rm 0 0) (nn := 3) (As := [.ref (a 4), .int (nI k), .int (nI (kdn (z.2.2 k)))]) (rest := []) (c_put l D cI tt (a 4) 6 (r' 1) (nI k) (nI (kdn (z.2.2 k))) (by decide)) rfl rfl ⟨rfl, rfl, ⟨Nat.le_of_ble_eq_true rfl, Nat.le_of_ble_eq_true rfl⟩, Nat.le_of_ble_eq_true rfl, Nat.le_of_ble_eq_true rfl⟩ wl_X3_66 ws_X3_put wi_X3 wc_X3_put (by decide +kernel) rfl rfl (Nat.le_of_ble_eq_true rfl) dX3_camp_63) (fun u_11 h_11 => ?_)
          subst h_11
          refine z_ws (st' := []) (ws' := (cW cI a (upd i 4 (nI (z.1 3 - 6))) (va_up r' 1 (putv 6 (r' 1) (nI k) (nI (kdn (z.2.2 k))))))) rfl rfl ?_
          refine z_iinc C (pc := 66) (v := ((nI k) + 1)) (lv' := [(0, .ref (a 0)), (1, .int ((nI k) + 1))]) dX3_camp_66 rfl rfl (Nat.le_of_ble_eq_true rfl) rfl rfl ?_
          refine z_goto C (pc := 69) (tgt := 33) dX3_camp_69 (by decide) ?_
          refine z_lv (lv' := [(0, .ref (a 0)), (1, .int (nI (k + 1)))]) ⟨rfl, lki (nI_1 k), trivial⟩ ?_
          exact ih33 (k + 1) (va_up r' 1 (putv 6 (r' 1) (nI k) (nI (kdn (z.2.2 k))))) (by omega) hk (fun q hq => (vup_n hq).trans (hr0 q hq)) (fun j hj => by rw [vup_s, putv_nI (by omega) (by decide)]; unfold upd; by_cases e : j = k; (rw [if_pos e, e]); (rw [if_neg e]; exact hr1 j (by omega)))
    refine z_lv (lv' := [(0, .ref (a 0)), (1, .int (nI 0))]) ⟨rfl, rfl, trivial⟩ ?_
    exact key33 (_ + 1) 0 r (Nat.lt_succ_self _) (Nat.zero_le _) (fun _ _ => rfl) (fun j h => absurd h (Nat.not_lt_zero j))
  · have hb := b2_f (h_1 ▸ c_2)
    rw [campb_congr hz.2.1.1] at hb
    refine z_bipush C (pc := 10) (v := (-103)) dX3_camp_10 (by decide) ?_
    refine z_iret C (pc := 12) (i, r) dX3_camp_12 ?_ rfl
    rw [show campF z = (-103, z) from if_neg (by rw [hb]; decide)]
    exact ⟨rfl, hz⟩
