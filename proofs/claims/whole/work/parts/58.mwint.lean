theorem farv_0 {kd : Nat → Nat} {n : Nat} {c : Nat → Nat} : farv kd n 0 c = 0 := by unfold farv; simp [frv, farb]
theorem what_2 {x : Int32} (h : ¬ (x < 0 ∨ ¬ x ≤ 2)) (h0 : ¬ x = 0) (h1 : ¬ x = 1) : x = 2 := by
  have a0 : x.toInt ≠ 0 := fun e => h0 (Int32.toInt_inj.mp e)
  have a1 : x.toInt ≠ 1 := fun e => h1 (Int32.toInt_inj.mp e)
  apply Int32.toInt_inj.mp
  simp only [Int32.lt_iff_toInt_lt, Int32.le_iff_toInt_le, show (0 : Int32).toInt = 0 from rfl, show (2 : Int32).toInt = 2 from rfl] at h ⊢
  omega
set_option maxHeartbeats 4000000 in
set_option maxRecDepth 100000 in
theorem m_winters (l : Launch) (D : va_G) (cI : ClassId) (tt : Nat × Nat × Nat) (b : Nat → Nat) (i : Nat → Int32) (r : Nat → Nat → Int32) (h : Int64) (m sd what : Int32) (z : SG) (hz : Mdl z i r) (vz : VS z) : MetI (S := ((Nat → Int32) × (Nat → Nat → Int32))) l yX4_winters cX4_winters 7 (some .int) (rm 9 211) D cI tt [.ref (b 0), .int m, .int sd, .int what] (mW cI b i r h) (fun q u => q = wintersF z m sd what ∧ Mdl z u.1 u.2) (fun u => mW cI b u.1 u.2 h) := by
  have hv := hz.pv vz
  have hc := hz.c vz
  have hh := hz.hv vz
  have hn6 := vz.2.2.2.1
  have hx6 := pow_le6 hn6
  have v3 := vz.2.2.1
  have v5 := vz.2.2.2.2.1
  have v8 := vz.2.2.2.2.2.1
  refine met_ofI (by decide) (Nat.le_of_ble_eq_true rfl) ?_
  intro pP eE sS mM aV bB mE cC AA C hin
  refine z_conv (lv' := [(0, .ref (b 0)), (1, .int m), (2, .int sd), (3, .int what)]) ⟨rfl, rfl, rfl, rfl, trivial⟩ rfl rfl ?_
  refine z_iload_n C (pc := 0) dX4_winters_0 rfl ?_
  refine z_i2l C (pc := 1) dX4_winters_1 ?_
  refine z_lconst C (pc := 2) (v := 1) dX4_winters_2 (by decide) ?_
  refine z_ldc2 C (pc := 3) (v := 20) wl_X4_215 dX4_winters_3 ?_
  refine z_calli C (isC := []) rfl (by exact fun _ => rfl) (runS C (wc := []) (pc := 6) (rY' := rm 0 0) (nn := 3) (As := [.long m.toInt64, .long 1, .long 20]) (rest := []) (m_in l D cI tt m.toInt64 1 20) rfl rfl ⟨rfl, rfl, ⟨Nat.le_of_ble_eq_true rfl, Nat.le_of_ble_eq_true rfl⟩, Nat.le_of_ble_eq_true rfl, Nat.le_of_ble_eq_true rfl⟩ wl_X4_43 ws_X4_in wi_X4 wc_X4_in (by decide +kernel) rfl rfl (Nat.le_of_ble_eq_true rfl) dX4_winters_6) (fun r_1 u_1 h_1 => ?_)
  subst h_1
  refine z_ws (st' := [.int (b2 (inb m.toInt64 1 20))]) (ws' := (mW cI b i r h)) rfl rfl ?_
  refine z_if_eq C (pc := 9) (tgt := 28) dX4_winters_9 (by decide) (fun c_2 => ?_) (fun c_2 => ?_)
  · rw [inl_20] at c_2
    have hP1 := inl_t c_2
    have hbb : (m < 1 ∨ ¬ m ≤ 20 ∨ sd < 0 ∨ what < 0 ∨ ¬ what ≤ 2) := hP1.elim Or.inl (fun e => Or.inr (Or.inl e))
    refine z_bipush C (pc := 28) (v := (-102)) dX4_winters_28 (by decide) ?_
    refine z_iret C (pc := 30) (i, r) dX4_winters_30 ?_ rfl
    rw [show wintersF z m sd what = -102 from if_pos hbb]
    exact ⟨rfl, hz⟩
  · rw [inl_20] at c_2
    have hP1 := inl_f c_2
    refine z_iload_n C (pc := 12) dX4_winters_12 rfl ?_
    refine z_if_lt C (pc := 13) (tgt := 28) dX4_winters_13 (by decide) (fun c_3 => ?_) (fun c_3 => ?_)
    · have hbb : (m < 1 ∨ ¬ m ≤ 20 ∨ sd < 0 ∨ what < 0 ∨ ¬ what ≤ 2) := Or.inr (Or.inr (Or.inl c_3))
      refine z_bipush C (pc := 28) (v := (-102)) dX4_winters_28 (by decide) ?_
      refine z_iret C (pc := 30) (i, r) dX4_winters_30 ?_ rfl
      rw [show wintersF z m sd what = -102 from if_pos hbb]
      exact ⟨rfl, hz⟩
    · have hP2 : ¬ sd < 0 := c_3
      refine z_iload_n C (pc := 16) dX4_winters_16 rfl ?_
      refine z_i2l C (pc := 17) dX4_winters_17 ?_
      refine z_lconst C (pc := 18) (v := 0) dX4_winters_18 (by decide) ?_
      refine z_ldc2 C (pc := 19) (v := 2) wl_X4_217 dX4_winters_19 ?_
      refine z_calli C (isC := []) rfl (by exact fun _ => rfl) (runS C (wc := []) (pc := 22) (rY' := rm 0 0) (nn := 3) (As := [.long what.toInt64, .long 0, .long 2]) (rest := []) (m_in l D cI tt what.toInt64 0 2) rfl rfl ⟨rfl, rfl, ⟨Nat.le_of_ble_eq_true rfl, Nat.le_of_ble_eq_true rfl⟩, Nat.le_of_ble_eq_true rfl, Nat.le_of_ble_eq_true rfl⟩ wl_X4_43 ws_X4_in wi_X4 wc_X4_in (by decide +kernel) rfl rfl (Nat.le_of_ble_eq_true rfl) dX4_winters_22) (fun r_4 u_4 h_4 => ?_)
      subst h_4
      refine z_ws (st' := [.int (b2 (inb what.toInt64 0 2))]) (ws' := (mW cI b i r h)) rfl rfl ?_
      refine z_if_ne C (pc := 25) (tgt := 31) dX4_winters_25 (by decide) (fun c_5 => ?_) (fun c_5 => ?_)
      · rw [inl_2] at c_5
        have hP3 := inl_f c_5
        have hbb : ¬ (m < 1 ∨ ¬ m ≤ 20 ∨ sd < 0 ∨ what < 0 ∨ ¬ what ≤ 2) := fun e => e.elim (fun e => hP1 (Or.inl e)) (fun e => e.elim (fun e => hP1 (Or.inr e)) (fun e => e.elim hP2 hP3))
        obtain ⟨mk, hm20, hmm, htm⟩ := tn_of (x := m) (M := 20) (by decide) (neg_1 (fun e => hP1 (Or.inl e))) (Classical.not_not.mp (fun e => hP1 (Or.inr e)))
        obtain ⟨t, ht, hst, hts⟩ := seed_of hP2
        subst hmm hst
        have hcc : ∀ k, k < 5 → z.2.1 2 k ≤ 9 := fun k hk => (hc k hk).2
        refine z_aload_n C (pc := 31) dX4_winters_31 rfl ?_
        refine z_calliF C (by exact fun _ => mW_ad) (runV C (wc := (mW cI b i r h)) (pc := 32) (rY' := rm 0 0) (nn := 0) (As := []) (rest := []) (m_lacks l D cI tt b i r h (z.1 4) hz.i3 hn6) (full_hC _) (full_nd _) ⟨rfl, rfl, ⟨Nat.le_of_ble_eq_true rfl, Nat.le_of_ble_eq_true rfl⟩, Nat.le_of_ble_eq_true rfl, Nat.le_of_ble_eq_true rfl⟩ wl_X4_87 wm_X4_lacks we_X4_lacks wi_X4 wc_X4_lacks (by decide +kernel) rfl 0 rfl rfl rfl rfl (Nat.le_of_ble_eq_true rfl) dX4_winters_32) (fun q_6 u_6 h_6 => ?_)
        subst h_6
        refine z_ws (st' := [.int (b2 (decide (z.1 4 = 0)))]) (ws' := (mW cI b i r h)) rfl rfl ?_
        refine z_if_eq C (pc := 35) (tgt := 41) dX4_winters_35 (by decide) (fun c_7 => ?_) (fun c_7 => ?_)
        · have hn0 : z.1 4 ≠ 0 := of_decide_eq_false (b2_f c_7)
          refine z_aload_n C (pc := 41) dX4_winters_41 rfl ?_
          refine z_get C (pc := 42) 0 rfl rfl wf_X4 9 (by decide) rfl wl_X4_16 (v := .ref (b 3)) rfl dX4_winters_42 ?_
          refine z_aload_n C (pc := 45) dX4_winters_45 rfl ?_
          refine z_get C (pc := 46) 0 rfl rfl wf_X4 19 (by decide) rfl wl_X4_28 (v := .ref (b 7)) rfl dX4_winters_46 ?_
          refine z_callv C (isC := [3, 7]) rfl (by exact fun _ => rfl) (runS C (wc := [(b 3, .inl (cI, 7, .inl (r 2))), (b 7, .inl (cI, 7, .inl (r 6)))]) (pc := 49) (rY' := rm 0 0) (nn := 2) (As := [.ref (b 3), .ref (b 7)]) (rest := []) (m_copy l D cI tt (b 3) 7 (b 7) 7 (r 2) (r 6) (by decide) (by decide)) rfl rfl ⟨rfl, rfl, ⟨Nat.le_of_ble_eq_true rfl, Nat.le_of_ble_eq_true rfl⟩, Nat.le_of_ble_eq_true rfl, Nat.le_of_ble_eq_true rfl⟩ wl_X4_148 ws_X4_copy wi_X4 wc_X4_copy (by decide +kernel) rfl rfl (Nat.le_of_ble_eq_true rfl) dX4_winters_49) (fun u_8 h_8 => ?_)
          subst h_8
          refine z_ws (st' := []) (ws' := (mW cI b i (va_up r 6 (cqv (r 2) (r 6) 7)) h)) rfl rfl ?_
          refine z_aload_n C (pc := 52) dX4_winters_52 rfl ?_
          refine z_iload_n C (pc := 53) dX4_winters_53 rfl ?_
          refine z_put C (pc := 54) 0 rfl rfl wf_X4 18 (by decide) rfl tyX4 tyX4_ok nmX4 rfl rfl rfl (Nat.le_of_ble_eq_true rfl) (ws' := (mW cI b (upd i 18 (nI t)) (va_up r 6 (cqv (r 2) (r 6) 7)) h)) rfl wl_X4_207 dX4_winters_54 ?_
          refine z_iconst C (pc := 57) (v := 0) dX4_winters_57 (by decide) ?_
          refine z_istore C (pc := 58) (lv' := [(0, .ref (b 0)), (1, .int (nI mk)), (2, .int (nI t)), (3, .int what), (4, .int 0)]) dX4_winters_58 (Nat.le_of_ble_eq_true rfl) rfl rfl ?_
          have key60 : ∀ (fu60 : Nat) (j : Nat) (i' : Nat → Int32) (r' : Nat → Nat → Int32), mk - j < fu60 → (j ≤ mk) → (∀ k, k ≠ 18 → i' k = i k) → (∀ k, k ≠ 6 → r' k = r k) → (i' 18 = nI (crw j (t, z.2.1 2)).1) → (∀ k, k < 5 → r' 6 (k + 1) = nI ((crw j (t, z.2.1 2)).2 k)) → Z pP l eE (rm 9 211) sS mM aV bB mE cC D AA 7 0 0 (MQ bB (va_Qi (S := ((Nat → Int32) × (Nat → Nat → Int32))) (fun q u => q = wintersF z (nI mk) (nI t) what ∧ Mdl z u.1 u.2) (fun u t => va_P D vwCl ((fun u => mW cI b u.1 u.2 h) u) t.heap) AA) aV sS 0 0 AA) 60 [(0, .ref (b 0)), (1, .int (nI mk)), (2, .int (nI t)), (3, .int what), (4, .int (nI j))] [] (mW cI b i' r' h) := by
            intro fu60
            induction fu60 with
            | zero => intro j i' r' hfu60; exact absurd hfu60 (Nat.not_lt_zero _)
            | succ fu60 ih60 =>
              intro j i' r' hfu60 hjm hi' hr' hs' hw'
              refine z_iload C (pc := 60) dX4_winters_60 rfl ?_
              refine z_iload_n C (pc := 62) dX4_winters_62 rfl ?_
              refine z_icmp_ge C (pc := 63) (tgt := 128) dX4_winters_63 (by decide) (fun c_9 => ?_) (fun c_9 => ?_)
              · have hje : j = mk := by
                  have := ge_of_nI c_9 (by omega)
                  omega
                subst hje
                have hzw : Mdl z i' r' := hz.fr (fun k _ e _ => hi' k e) (fun k _ _ e => hr' k e)
                have hcw : ∀ k, k < 5 → r' 6 (k + 1) = nI ((crw j (t, z.2.1 2)).2 k) ∧ (crw j (t, z.2.1 2)).2 k ≤ 9 := fun k hk => ⟨hw' k hk, (crw_ok ht hcc j).2 k hk⟩
                refine z_aload_n C (pc := 128) dX4_winters_128 rfl ?_
                refine z_get C (pc := 129) 0 rfl rfl wf_X4 19 (by decide) rfl wl_X4_28 (v := .ref (b 7)) rfl dX4_winters_129 ?_
                refine z_calli C (isC := [7]) rfl (by exact fun _ => rfl) (runS C (wc := [(b 7, .inl (cI, 7, .inl (r' 6)))]) (pc := 132) (rY' := rm 0 0) (nn := 1) (As := [.ref (b 7)]) (rest := []) (m_sumOf l D cI tt (b 7) (r' 6)) rfl rfl ⟨rfl, rfl, ⟨Nat.le_of_ble_eq_true rfl, Nat.le_of_ble_eq_true rfl⟩, Nat.le_of_ble_eq_true rfl, Nat.le_of_ble_eq_true rfl⟩ wl_X4_174 ws_X4_sumOf wi_X4 wc_X4_sumOf (by decide +kernel) rfl rfl (Nat.le_of_ble_eq_true rfl) dX4_winters_132) (fun r_10 u_10 h_10 => ?_)
                have h_10 : r_10 = nI (sumN (crw j (t, z.2.1 2)).2) := h_10.trans (sumw_nI hw')
                refine z_ws (st' := [.int r_10]) (ws' := (mW cI b i' r' h)) rfl rfl ?_
                refine z_seti (y := (nI (sumN (crw j (t, z.2.1 2)).2))) h_10 ?_
                refine z_istore C (pc := 135) (lv' := [(0, .ref (b 0)), (1, .int (nI j)), (2, .int (nI t)), (3, .int what), (4, .int (nI (sumN (crw j (t, z.2.1 2)).2)))]) dX4_winters_135 (Nat.le_of_ble_eq_true rfl) rfl rfl ?_
                refine z_aload_n C (pc := 137) dX4_winters_137 rfl ?_
                refine z_get C (pc := 138) 0 rfl rfl wf_X4 4 (by decide) rfl wl_X4_72 (v := .int (i' 4)) rfl dX4_winters_138 ?_
                refine z_if_ne C (pc := 141) (tgt := 148) dX4_winters_141 (by decide) (fun c_11 => ?_) (fun c_11 => ?_)
                · rw [hzw.i4] at c_11
                  have hal : z.1 5 ≠ 0 := nI_nz c_11
                  refine z_aload_n C (pc := 148) dX4_winters_148 rfl ?_
                  refine z_aload_n C (pc := 149) dX4_winters_149 rfl ?_
                  refine z_get C (pc := 150) 0 rfl rfl wf_X4 4 (by decide) rfl wl_X4_72 (v := .int (i' 4)) rfl dX4_winters_150 ?_
                  refine z_seti (y := nI (z.1 5)) (hzw.i4) ?_
                  refine z_aload_n C (pc := 153) dX4_winters_153 rfl ?_
                  refine z_get C (pc := 154) 0 rfl rfl wf_X4 19 (by decide) rfl wl_X4_28 (v := .ref (b 7)) rfl dX4_winters_154 ?_
                  refine z_calliF C (by exact fun _ => mW_ad) (runV C (wc := (mW cI b i' r' h)) (pc := 157) (rY' := rm 8 187) (nn := 2) (As := [.int (nI (z.1 5)), .ref (b 7)]) (rest := []) (m_farOfT l D cI tt b i' r' h (z.2.1 1) (z.1 4) (hzw.pv vz) (z.1 5) v5 hal (crw j (t, z.2.1 2)).2 hcw) (full_hC _) (full_nd _) ⟨rfl, rfl, ⟨Nat.le_of_ble_eq_true rfl, Nat.le_of_ble_eq_true rfl⟩, Nat.le_of_ble_eq_true rfl, Nat.le_of_ble_eq_true rfl⟩ wl_X4_192 wm_X4_farOf we_X4_farOf wi_X4 wc_X4_farOf (by decide +kernel) rfl 0 rfl rfl rfl rfl (Nat.le_of_ble_eq_true rfl) dX4_winters_157) (fun q_12 u_12 h_12 => ?_)
                  obtain ⟨i12, r12⟩ := u_12
                  try dsimp only at h_12
                  obtain ⟨k0, k1, k2⟩ := h_12
                  refine z_ws (st' := [.int q_12]) (ws' := (mW cI b i12 r12 h)) rfl rfl ?_
                  refine z_seti (y := (nI (farv (z.2.1 1) (z.1 4) (z.1 5) (crw j (t, z.2.1 2)).2))) k0 ?_
                  refine z_istore C (pc := 160) (lv' := [(0, .ref (b 0)), (1, .int (nI j)), (2, .int (nI t)), (3, .int what), (4, .int (nI (sumN (crw j (t, z.2.1 2)).2))), (5, .int (nI (farv (z.2.1 1) (z.1 4) (z.1 5) (crw j (t, z.2.1 2)).2)))]) dX4_winters_160 (Nat.le_of_ble_eq_true rfl) rfl rfl ?_
                  refine z_iload_n C (pc := 162) dX4_winters_162 rfl ?_
                  refine z_if_ne C (pc := 163) (tgt := 171) dX4_winters_163 (by decide) (fun c_13 => ?_) (fun c_13 => ?_)
                  · refine z_iload_n C (pc := 171) dX4_winters_171 rfl ?_
                    refine z_iconst C (pc := 172) (v := 1) dX4_winters_172 (by decide) ?_
                    refine z_icmp_ne C (pc := 173) (tgt := 181) dX4_winters_173 (by decide) (fun c_14 => ?_) (fun c_14 => ?_)
                    · refine z_aload_n C (pc := 181) dX4_winters_181 rfl ?_
                      refine z_get C (pc := 182) 0 rfl rfl wf_X4 18 (by decide) rfl wl_X4_207 (v := .int (i12 18)) rfl dX4_winters_182 ?_
                      refine z_iret C (pc := 185) (i12, r12) dX4_winters_185 ?_ rfl
                      have hw2 := what_2 hP3 c_13 c_14
                      rw [show wintersF z (nI j) (nI t) what = nI (crw j (t, z.2.1 2)).1 from (if_neg hbb).trans ((if_neg hn0).trans ((if_pos hw2).trans (by unfold winS; rw [htm, hts])))]
                      exact ⟨(k1 18 (by omega)).trans hs', hzw.sr k1 k2⟩
                    · refine z_iload C (pc := 176) dX4_winters_176 rfl ?_
                      refine z_goto C (pc := 178) (tgt := 185) dX4_winters_178 (by decide) ?_
                      refine z_iret C (pc := 185) (i12, r12) dX4_winters_185 ?_ rfl
                      rw [show wintersF z (nI j) (nI t) what = nI (farv (z.2.1 1) (z.1 4) (z.1 5) (crw j (t, z.2.1 2)).2) from (if_neg hbb).trans ((if_neg hn0).trans ((if_neg (by rw [c_14]; decide)).trans ((if_neg c_13).trans (by unfold winS; rw [htm, hts]))))]
                      exact ⟨rfl, hzw.sr k1 k2⟩
                  · refine z_iload C (pc := 166) dX4_winters_166 rfl ?_
                    refine z_goto C (pc := 168) (tgt := 185) dX4_winters_168 (by decide) ?_
                    refine z_iret C (pc := 185) (i12, r12) dX4_winters_185 ?_ rfl
                    rw [show wintersF z (nI j) (nI t) what = nI (sumN (crw j (t, z.2.1 2)).2) from (if_neg hbb).trans ((if_neg hn0).trans ((if_neg (by rw [c_13]; decide)).trans ((if_pos c_13).trans (by unfold winS; rw [htm, hts]))))]
                    exact ⟨rfl, hzw.sr k1 k2⟩
                · rw [hzw.i4] at c_11
                  have hal : z.1 5 = 0 := nI_z (by omega) c_11
                  refine z_iconst C (pc := 144) (v := 0) dX4_winters_144 (by decide) ?_
                  refine z_goto C (pc := 145) (tgt := 160) dX4_winters_145 (by decide) ?_
                  refine z_istore C (pc := 160) (lv' := [(0, .ref (b 0)), (1, .int (nI j)), (2, .int (nI t)), (3, .int what), (4, .int (nI (sumN (crw j (t, z.2.1 2)).2))), (5, .int 0)]) dX4_winters_160 (Nat.le_of_ble_eq_true rfl) rfl rfl ?_
                  refine z_iload_n C (pc := 162) dX4_winters_162 rfl ?_
                  refine z_if_ne C (pc := 163) (tgt := 171) dX4_winters_163 (by decide) (fun c_15 => ?_) (fun c_15 => ?_)
                  · refine z_iload_n C (pc := 171) dX4_winters_171 rfl ?_
                    refine z_iconst C (pc := 172) (v := 1) dX4_winters_172 (by decide) ?_
                    refine z_icmp_ne C (pc := 173) (tgt := 181) dX4_winters_173 (by decide) (fun c_16 => ?_) (fun c_16 => ?_)
                    · refine z_aload_n C (pc := 181) dX4_winters_181 rfl ?_
                      refine z_get C (pc := 182) 0 rfl rfl wf_X4 18 (by decide) rfl wl_X4_207 (v := .int (i' 18)) rfl dX4_winters_182 ?_
                      refine z_iret C (pc := 185) (i', r') dX4_winters_185 ?_ rfl
                      have hw2 := what_2 hP3 c_15 c_16
                      rw [show wintersF z (nI j) (nI t) what = nI (crw j (t, z.2.1 2)).1 from (if_neg hbb).trans ((if_neg hn0).trans ((if_pos hw2).trans (by unfold winS; rw [htm, hts])))]
                      exact ⟨hs', hzw⟩
                    · refine z_iload C (pc := 176) dX4_winters_176 rfl ?_
                      refine z_goto C (pc := 178) (tgt := 185) dX4_winters_178 (by decide) ?_
                      refine z_iret C (pc := 185) (i', r') dX4_winters_185 ?_ rfl
                      rw [show wintersF z (nI j) (nI t) what = nI (farv (z.2.1 1) (z.1 4) (z.1 5) (crw j (t, z.2.1 2)).2) from (if_neg hbb).trans ((if_neg hn0).trans ((if_neg (by rw [c_16]; decide)).trans ((if_neg c_15).trans (by unfold winS; rw [htm, hts]))))]
                      exact ⟨by rw [hal, farv_0]; rfl, hzw⟩
                  · refine z_iload C (pc := 166) dX4_winters_166 rfl ?_
                    refine z_goto C (pc := 168) (tgt := 185) dX4_winters_168 (by decide) ?_
                    refine z_iret C (pc := 185) (i', r') dX4_winters_185 ?_ rfl
                    rw [show wintersF z (nI j) (nI t) what = nI (sumN (crw j (t, z.2.1 2)).2) from (if_neg hbb).trans ((if_neg hn0).trans ((if_neg (by rw [c_15]; decide)).trans ((if_pos c_15).trans (by unfold winS; rw [htm, hts]))))]
                    exact ⟨rfl, hzw⟩
              · have hj : j < mk := lt_of_nI c_9 (by omega)
                have hokj := crw_ok ht hcc j
                refine z_iconst C (pc := 66) (v := 1) dX4_winters_66 (by decide) ?_
                refine z_istore C (pc := 67) (lv' := [(0, .ref (b 0)), (1, .int (nI mk)), (2, .int (nI t)), (3, .int what), (4, .int (nI j)), (5, .int 1)]) dX4_winters_67 (Nat.le_of_ble_eq_true rfl) rfl rfl ?_
                have key69 : ∀ (fu69 : Nat) (k q : Nat) (i2 : Nat → Int32) (r2 : Nat → Nat → Int32), 5 - k < fu69 → (q = k + 1) → (k ≤ 5) → (∀ k, k ≠ 18 → i2 k = i k) → (∀ k, k ≠ 6 → r2 k = r k) → (i2 18 = nI (crp k (crw j (t, z.2.1 2))).1) → (∀ p, p < 5 → r2 6 (p + 1) = nI ((crp k (crw j (t, z.2.1 2))).2 p)) → Z pP l eE (rm 9 211) sS mM aV bB mE cC D AA 7 0 0 (MQ bB (va_Qi (S := ((Nat → Int32) × (Nat → Nat → Int32))) (fun q u => q = wintersF z (nI mk) (nI t) what ∧ Mdl z u.1 u.2) (fun u t => va_P D vwCl ((fun u => mW cI b u.1 u.2 h) u) t.heap) AA) aV sS 0 0 AA) 69 [(0, .ref (b 0)), (1, .int (nI mk)), (2, .int (nI t)), (3, .int what), (4, .int (nI j)), (5, .int (nI q))] [] (mW cI b i2 r2 h) := by
                  intro fu69
                  induction fu69 with
                  | zero => intro k q i2 r2 hfu69; exact absurd hfu69 (Nat.not_lt_zero _)
                  | succ fu69 ih69 =>
                    intro k q i2 r2 hfu69 hq hk5 hi2 hr2 hs2 hw2
                    refine z_iload C (pc := 69) dX4_winters_69 rfl ?_
                    refine z_bipush C (pc := 71) (v := 6) dX4_winters_71 (by decide) ?_
                    refine z_icmp_ge C (pc := 73) (tgt := 122) dX4_winters_73 (by decide) (fun c_17 => ?_) (fun c_17 => ?_)
                    · have hke : k = 5 := by
                        have := ge_of_nI (n := 6) (j := q) c_17 (by decide)
                        omega
                      subst hke
                      refine z_iinc C (pc := 122) (v := ((nI j) + 1)) (lv' := [(0, .ref (b 0)), (1, .int (nI mk)), (2, .int (nI t)), (3, .int what), (4, .int ((nI j) + 1)), (5, .int (nI q))]) dX4_winters_122 rfl rfl (Nat.le_of_ble_eq_true rfl) rfl rfl ?_
                      refine z_goto C (pc := 125) (tgt := 60) dX4_winters_125 (by decide) ?_
                      refine z_lv (lv' := [(0, .ref (b 0)), (1, .int (nI mk)), (2, .int (nI t)), (3, .int what), (4, .int (nI (j + 1)))]) ⟨rfl, rfl, rfl, rfl, lki (nI_1 j), trivial⟩ ?_
                      exact ih60 (j + 1) i2 r2 (by omega) hj hi2 hr2 (by rw [crw_s]; exact hs2) (by rw [crw_s]; exact hw2)
                    · have hk : k < 5 := by
                        have := lt_of_nI (n := 6) (j := q) c_17 (by omega)
                        omega
                      have hok := crp_ok hokj k
                      have hcl := crn_lt (nxt (crp k (crw j (t, z.2.1 2))).1)
                      refine z_aload_n C (pc := 76) dX4_winters_76 rfl ?_
                      refine z_iconst C (pc := 77) (v := 3) dX4_winters_77 (by decide) ?_
                      refine z_calliF C (by exact fun _ => mW_ad) (runV C (wc := (mW cI b i2 r2 h)) (pc := 78) (rY' := rm 0 0) (nn := 1) (As := [.int 3]) (rest := []) (m_draw l D cI tt b i2 r2 h (crp k (crw j (t, z.2.1 2))).1 hok.1 hs2) (full_hC _) (full_nd _) ⟨rfl, rfl, ⟨Nat.le_of_ble_eq_true rfl, Nat.le_of_ble_eq_true rfl⟩, Nat.le_of_ble_eq_true rfl, Nat.le_of_ble_eq_true rfl⟩ wl_X4_219 wm_X4_draw we_X4_draw wi_X4 wc_X4_draw (by decide +kernel) rfl 0 rfl rfl rfl rfl (Nat.le_of_ble_eq_true rfl) dX4_winters_78) (fun q_18 u_18 h_18 => ?_)
                      refine z_ws (st' := [.int q_18]) (ws' := (mW cI b (upd i2 18 (nI (nxt (crp k (crw j (t, z.2.1 2))).1))) r2 h)) rfl rfl ?_
                      refine z_seti (y := (nI (crn (nxt (crp k (crw j (t, z.2.1 2))).1)))) h_18 ?_
                      refine z_istore C (pc := 81) (lv' := [(0, .ref (b 0)), (1, .int (nI mk)), (2, .int (nI t)), (3, .int what), (4, .int (nI j)), (5, .int (nI q)), (6, .int (nI (crn (nxt (crp k (crw j (t, z.2.1 2))).1))))]) dX4_winters_81 (Nat.le_of_ble_eq_true rfl) rfl rfl ?_
                      refine z_aload_n C (pc := 83) dX4_winters_83 rfl ?_
                      refine z_get C (pc := 84) 0 rfl rfl wf_X4 19 (by decide) rfl wl_X4_28 (v := .ref (b 7)) rfl dX4_winters_84 ?_
                      refine z_iload C (pc := 87) dX4_winters_87 rfl ?_
                      refine z_aload_n C (pc := 89) dX4_winters_89 rfl ?_
                      refine z_get C (pc := 90) 0 rfl rfl wf_X4 19 (by decide) rfl wl_X4_28 (v := .ref (b 7)) rfl dX4_winters_90 ?_
                      refine z_iload C (pc := 93) dX4_winters_93 rfl ?_
                      have h_19 : vp_in (nI q) 7 := by exact vp_in_nI (by omega) (by decide)
                      refine z_iald C (pc := 95) 7 rfl h_19 dX4_winters_95 ?_
                      refine z_seti (y := nI ((crp k (crw j (t, z.2.1 2))).2 k)) (by rw [nI_clamp (by omega), hq]; exact hw2 k hk) ?_
                      refine z_iload C (pc := 96) dX4_winters_96 rfl ?_
                      refine z_icmp_le C (pc := 98) (tgt := 114) dX4_winters_98 (by decide) (fun c_20 => ?_) (fun c_20 => ?_)
                      · have hle : ((crp k (crw j (t, z.2.1 2))).2 k) ≤ (crn (nxt (crp k (crw j (t, z.2.1 2))).1)) := (nI_leI (by have := hok.2 k hk; omega) (by omega)).mp c_20
                        refine z_iconst C (pc := 114) (v := 0) dX4_winters_114 (by decide) ?_
                        refine z_seti (y := nI (((crp k (crw j (t, z.2.1 2))).2 k) - (crn (nxt (crp k (crw j (t, z.2.1 2))).1)))) (by rw [Nat.sub_eq_zero_of_le hle]; rfl) ?_
                        have h_21 : vp_in (nI q) 7 := by exact vp_in_nI (by omega) (by decide)
                        refine z_iast C (pc := 115) 7 rfl h_21 (ws' := (mW cI b (upd i2 18 (nI (nxt (crp k (crw j (t, z.2.1 2))).1))) (va_up r2 6 (upd (r2 6) (nI q).toNatClampNeg (nI (((crp k (crw j (t, z.2.1 2))).2 k) - (crn (nxt (crp k (crw j (t, z.2.1 2))).1)))))) h)) rfl dX4_winters_115 ?_
                        refine z_iinc C (pc := 116) (v := ((nI q) + 1)) (lv' := [(0, .ref (b 0)), (1, .int (nI mk)), (2, .int (nI t)), (3, .int what), (4, .int (nI j)), (5, .int ((nI q) + 1)), (6, .int (nI (crn (nxt (crp k (crw j (t, z.2.1 2))).1))))]) dX4_winters_116 rfl rfl (Nat.le_of_ble_eq_true rfl) rfl rfl ?_
                        refine z_goto C (pc := 119) (tgt := 69) dX4_winters_119 (by decide) ?_
                        refine z_lv (lv' := [(0, .ref (b 0)), (1, .int (nI mk)), (2, .int (nI t)), (3, .int what), (4, .int (nI j)), (5, .int (nI (q + 1)))]) ⟨rfl, rfl, rfl, rfl, rfl, lki (nI_1 q), trivial⟩ ?_
                        exact ih69 (k + 1) (q + 1) (upd i2 18 (nI (nxt (crp k (crw j (t, z.2.1 2))).1))) (va_up r2 6 (upd (r2 6) (nI q).toNatClampNeg (nI (((crp k (crw j (t, z.2.1 2))).2 k) - (crn (nxt (crp k (crw j (t, z.2.1 2))).1)))))) (by omega) (by omega) hk (fun k hk => (upd_n hk).trans (hi2 k hk)) (fun k hk => (vup_n hk).trans (hr2 k hk)) upd_s (fun p hp => by rw [vup_s, nI_clamp (by omega), crp_2]; unfold upd upN; by_cases e : p = k; (rw [if_pos (by omega), if_pos e]); (rw [if_neg (by omega), if_neg e]; exact hw2 p hp))
                      · have hle : (crn (nxt (crp k (crw j (t, z.2.1 2))).1)) ≤ ((crp k (crw j (t, z.2.1 2))).2 k) := Nat.le_of_lt (Nat.lt_of_not_le (fun e => c_20 (nI_le e (by omega))))
                        refine z_aload_n C (pc := 101) dX4_winters_101 rfl ?_
                        refine z_get C (pc := 102) 0 rfl rfl wf_X4 19 (by decide) rfl wl_X4_28 (v := .ref (b 7)) rfl dX4_winters_102 ?_
                        refine z_iload C (pc := 105) dX4_winters_105 rfl ?_
                        have h_22 : vp_in (nI q) 7 := by exact vp_in_nI (by omega) (by decide)
                        refine z_iald C (pc := 107) 7 rfl h_22 dX4_winters_107 ?_
                        refine z_seti (y := nI ((crp k (crw j (t, z.2.1 2))).2 k)) (by rw [nI_clamp (by omega), hq]; exact hw2 k hk) ?_
                        refine z_iload C (pc := 108) dX4_winters_108 rfl ?_
                        refine z_isub C (pc := 110) dX4_winters_110 ?_
                        refine z_goto C (pc := 111) (tgt := 115) dX4_winters_111 (by decide) ?_
                        refine z_seti (y := nI (((crp k (crw j (t, z.2.1 2))).2 k) - (crn (nxt (crp k (crw j (t, z.2.1 2))).1)))) (pk_sub hle) ?_
                        have h_23 : vp_in (nI q) 7 := by exact vp_in_nI (by omega) (by decide)
                        refine z_iast C (pc := 115) 7 rfl h_23 (ws' := (mW cI b (upd i2 18 (nI (nxt (crp k (crw j (t, z.2.1 2))).1))) (va_up r2 6 (upd (r2 6) (nI q).toNatClampNeg (nI (((crp k (crw j (t, z.2.1 2))).2 k) - (crn (nxt (crp k (crw j (t, z.2.1 2))).1)))))) h)) rfl dX4_winters_115 ?_
                        refine z_iinc C (pc := 116) (v := ((nI q) + 1)) (lv' := [(0, .ref (b 0)), (1, .int (nI mk)), (2, .int (nI t)), (3, .int what), (4, .int (nI j)), (5, .int ((nI q) + 1)), (6, .int (nI (crn (nxt (crp k (crw j (t, z.2.1 2))).1))))]) dX4_winters_116 rfl rfl (Nat.le_of_ble_eq_true rfl) rfl rfl ?_
                        refine z_goto C (pc := 119) (tgt := 69) dX4_winters_119 (by decide) ?_
                        refine z_lv (lv' := [(0, .ref (b 0)), (1, .int (nI mk)), (2, .int (nI t)), (3, .int what), (4, .int (nI j)), (5, .int (nI (q + 1)))]) ⟨rfl, rfl, rfl, rfl, rfl, lki (nI_1 q), trivial⟩ ?_
                        exact ih69 (k + 1) (q + 1) (upd i2 18 (nI (nxt (crp k (crw j (t, z.2.1 2))).1))) (va_up r2 6 (upd (r2 6) (nI q).toNatClampNeg (nI (((crp k (crw j (t, z.2.1 2))).2 k) - (crn (nxt (crp k (crw j (t, z.2.1 2))).1)))))) (by omega) (by omega) hk (fun k hk => (upd_n hk).trans (hi2 k hk)) (fun k hk => (vup_n hk).trans (hr2 k hk)) upd_s (fun p hp => by rw [vup_s, nI_clamp (by omega), crp_2]; unfold upd upN; by_cases e : p = k; (rw [if_pos (by omega), if_pos e]); (rw [if_neg (by omega), if_neg e]; exact hw2 p hp))
                refine z_lv (lv' := [(0, .ref (b 0)), (1, .int (nI mk)), (2, .int (nI t)), (3, .int what), (4, .int (nI j)), (5, .int (nI 1))]) ⟨rfl, rfl, rfl, rfl, rfl, rfl, trivial⟩ ?_
                exact key69 (_ + 1) 0 1 i' r' (Nat.lt_succ_self _) rfl (Nat.zero_le _) hi' hr' hs' hw'
          refine z_lv (lv' := [(0, .ref (b 0)), (1, .int (nI mk)), (2, .int (nI t)), (3, .int what), (4, .int (nI 0))]) ⟨rfl, rfl, rfl, rfl, rfl, trivial⟩ ?_
          exact key60 (_ + 1) 0 (upd i 18 (nI t)) (va_up r 6 (cqv (r 2) (r 6) 7)) (Nat.lt_succ_self _) (Nat.zero_le _) (fun k hk => upd_n hk) (fun k hk => vup_n hk) upd_s (fun k hk => by rw [vup_s, cqv_at, if_pos (by omega)]; exact (hc k hk).1)
        · have hn0 : z.1 4 = 0 := of_decide_eq_true (b2_t c_7)
          refine z_bipush C (pc := 38) (v := (-103)) dX4_winters_38 (by decide) ?_
          refine z_iret C (pc := 40) (i, r) dX4_winters_40 ?_ rfl
          rw [show wintersF z (nI mk) (nI t) what = -103 from (if_neg hbb).trans (if_pos hn0)]
          exact ⟨rfl, hz⟩
      · rw [inl_2] at c_5
        have hP3 := inl_t c_5
        have hbb : (m < 1 ∨ ¬ m ≤ 20 ∨ sd < 0 ∨ what < 0 ∨ ¬ what ≤ 2) := Or.inr (Or.inr (Or.inr hP3))
        refine z_bipush C (pc := 28) (v := (-102)) dX4_winters_28 (by decide) ?_
        refine z_iret C (pc := 30) (i, r) dX4_winters_30 ?_ rfl
        rw [show wintersF z m sd what = -102 from if_pos hbb]
        exact ⟨rfl, hz⟩
