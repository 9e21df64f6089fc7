set_option maxHeartbeats 4000000 in
set_option maxRecDepth 100000 in
theorem m_say (l : Launch) (D : va_G) (cI : ClassId) (tt : Nat × Nat × Nat) (b : Nat → Nat) (i : Nat → Int32) (r : Nat → Nat → Int32) (h : Int64) (v : Int64) : MetV (S := Unit) l yX4_say cX4_say 3 none (rm 0 0) D cI tt [.ref (b 0), .long v] (mW cI b i r h) (fun _ => True) (fun _ => mW cI b i r (31 * h + v)) := by
  refine met_ofV (by decide) (Nat.le_of_ble_eq_true rfl) ?_
  intro pP eE sS mM aV bB mE cC AA C hin
  refine z_conv (lv' := [(0, .ref (b 0)), (1, .long v)]) ⟨rfl, rfl, trivial⟩ rfl rfl ?_
  refine z_aload_n C (pc := 0) dX4_say_0 rfl ?_
  refine z_ldc2 C (pc := 1) (v := 31) wl_X4_237 dX4_say_1 ?_
  refine z_aload_n C (pc := 4) dX4_say_4 rfl ?_
  refine z_get C (pc := 5) 0 rfl rfl wf_X4 27 (by decide) rfl wl_X4_239 (v := .long h) rfl dX4_say_5 ?_
  refine z_lmul C (pc := 8) dX4_say_8 ?_
  refine z_lload_n C (pc := 9) dX4_say_9 rfl ?_
  refine z_ladd C (pc := 10) dX4_say_10 ?_
  refine z_put C (pc := 11) 0 rfl rfl wf_X4 27 (by decide) rfl tyX4 tyX4_ok nmX4 rfl rfl rfl (Nat.le_of_ble_eq_true rfl) (ws' := (mW cI b i r ((31 * h) + v))) rfl wl_X4_239 dX4_say_11 ?_
  refine z_vret C (pc := 14) () dX4_say_14 ?_ rfl
  trivial

set_option maxHeartbeats 4000000 in
set_option maxRecDepth 100000 in
theorem m_digest (l : Launch) (D : va_G) (cI : ClassId) (tt : Nat × Nat × Nat) (b : Nat → Nat) (i : Nat → Int32) (r : Nat → Nat → Int32) (h : Int64) (z : SG) (hz : Mdl z i r) (vz : VS z) : MetL (S := ((Nat → Int32) × (Nat → Nat → Int32) × Int64)) l yX4_digest cX4_digest 3 (some .long) (rm 9 216) D cI tt [.ref (b 0)] (mW cI b i r h) (fun q u => q = digestF z ∧ Mdl z u.1 u.2.1) (fun u => mW cI b u.1 u.2.1 u.2.2) := by
  have hv := hz.pv vz
  have hc := hz.c vz
  have hh := hz.hv vz
  have hn6 := vz.2.2.2.1
  have hx6 := pow_le6 hn6
  have v3 := vz.2.2.1
  have v5 := vz.2.2.2.2.1
  have v8 := vz.2.2.2.2.2.1
  refine met_ofL (by decide) (Nat.le_of_ble_eq_true rfl) ?_
  intro pP eE sS mM aV bB mE cC AA C hin
  refine z_conv (lv' := [(0, .ref (b 0))]) ⟨rfl, trivial⟩ rfl rfl ?_
  have join196 : ∀ (iJ : Nat → Int32) (rJ : Nat → Nat → Int32), (Mdl z iJ rJ) → Z pP l eE (rm 9 216) sS mM aV bB mE cC D AA 3 0 0 (MQ bB (va_Ql (S := ((Nat → Int32) × (Nat → Nat → Int32) × Int64)) (fun q u => q = digestF z ∧ Mdl z u.1 u.2.1) (fun u t => va_P D vwCl ((fun u => mW cI b u.1 u.2.1 u.2.2) u) t.heap) AA) aV sS 0 0 AA) 196 [(0, .ref (b 0))] [] (mW cI b iJ rJ (sayL z (sayCs z (sayMs z 1051 (z.1 4))))) := by
    intro iJ rJ hzJ
    refine z_iconst C (pc := 196) (v := 0) dX4_digest_196 (by decide) ?_
    refine z_istore_n C (pc := 197) (lv' := [(0, .ref (b 0)), (1, .int 0)]) dX4_digest_197 (Nat.le_of_ble_eq_true rfl) rfl rfl ?_
    have key198 : ∀ (fu198 : Nat) (k : Nat) (iP : Nat → Int32) (rP : Nat → Nat → Int32), z.1 3 - k < fu198 → (k ≤ z.1 3) → (Mdl z iP rP) → Z pP l eE (rm 9 216) sS mM aV bB mE cC D AA 3 0 0 (MQ bB (va_Ql (S := ((Nat → Int32) × (Nat → Nat → Int32) × Int64)) (fun q u => q = digestF z ∧ Mdl z u.1 u.2.1) (fun u t => va_P D vwCl ((fun u => mW cI b u.1 u.2.1 u.2.2) u) t.heap) AA) aV sS 0 0 AA) 198 [(0, .ref (b 0)), (1, .int (nI k))] [] (mW cI b iP rP (sayP z (sayL z (sayCs z (sayMs z 1051 (z.1 4)))) k)) := by
      intro fu198
      induction fu198 with
      | zero => intro k iP rP hfu198; exact absurd hfu198 (Nat.not_lt_zero _)
      | succ fu198 ih198 =>
        intro k iP rP hfu198 hk3 hzP
        refine z_iload_n C (pc := 198) dX4_digest_198 rfl ?_
        refine z_aload_n C (pc := 199) dX4_digest_199 rfl ?_
        refine z_get C (pc := 200) 0 rfl rfl wf_X4 1 (by decide) rfl wl_X4_47 (v := .int (iP 1)) rfl dX4_digest_200 ?_
        refine z_icmp_ge C (pc := 203) (tgt := 223) dX4_digest_203 (by decide) (fun c_1 => ?_) (fun c_1 => ?_)
        · rw [hzP.i1] at c_1
          have hke : k = z.1 3 := by
            have := ge_of_nI c_1 (by omega)
            omega
          subst hke
          refine z_lv (lv' := [(0, .ref (b 0))]) ⟨rfl, trivial⟩ ?_
          refine z_iconst C (pc := 223) (v := 0) dX4_digest_223 (by decide) ?_
          refine z_istore_n C (pc := 224) (lv' := [(0, .ref (b 0)), (1, .int 0)]) dX4_digest_224 (Nat.le_of_ble_eq_true rfl) rfl rfl ?_
          have key225 : ∀ (fu225 : Nat) (k : Nat) (iN : Nat → Int32) (rN : Nat → Nat → Int32), 11 - k < fu225 → (k ≤ 11) → (Mdl z iN rN) → Z pP l eE (rm 9 216) sS mM aV bB mE cC D AA 3 0 0 (MQ bB (va_Ql (S := ((Nat → Int32) × (Nat → Nat → Int32) × Int64)) (fun q u => q = digestF z ∧ Mdl z u.1 u.2.1) (fun u t => va_P D vwCl ((fun u => mW cI b u.1 u.2.1 u.2.2) u) t.heap) AA) aV sS 0 0 AA) 225 [(0, .ref (b 0)), (1, .int (nI k))] [] (mW cI b iN rN (sayN z (sayP z (sayL z (sayCs z (sayMs z 1051 (z.1 4)))) (z.1 3)) k)) := by
            intro fu225
            induction fu225 with
            | zero => intro k iN rN hfu225; exact absurd hfu225 (Nat.not_lt_zero _)
            | succ fu225 ih225 =>
              intro k iN rN hfu225 hk11 hzN
              refine z_iload_n C (pc := 225) dX4_digest_225 rfl ?_
              refine z_bipush C (pc := 226) (v := 11) dX4_digest_226 (by decide) ?_
              refine z_icmp_ge C (pc := 228) (tgt := 247) dX4_digest_228 (by decide) (fun c_2 => ?_) (fun c_2 => ?_)
              · refine z_aload_n C (pc := 247) dX4_digest_247 rfl ?_
                refine z_get C (pc := 248) 0 rfl rfl wf_X4 27 (by decide) rfl wl_X4_239 (v := .long (sayN z (sayP z (sayL z (sayCs z (sayMs z 1051 (z.1 4)))) (z.1 3)) k)) rfl dX4_digest_248 ?_
                refine z_lret C (pc := 251) (iN, rN, (sayN z (sayP z (sayL z (sayCs z (sayMs z 1051 (z.1 4)))) (z.1 3)) k)) dX4_digest_251 ?_ rfl
                have hke : k = 11 := by
                  have := ge_of_nI (n := 11) c_2 (by decide)
                  omega
                subst hke
                exact ⟨rfl, hzN⟩
              · have hk : k < 11 := lt_of_nI (n := 11) c_2 (by omega)
                refine z_aload_n C (pc := 231) dX4_digest_231 rfl ?_
                refine z_aload_n C (pc := 232) dX4_digest_232 rfl ?_
                refine z_iload_n C (pc := 233) dX4_digest_233 rfl ?_
                refine z_calliF C (by exact fun _ => mW_ad) (runV C (wc := (mW cI b iN rN (sayN z (sayP z (sayL z (sayCs z (sayMs z 1051 (z.1 4)))) (z.1 3)) k))) (pc := 234) (rY' := rm 2 44) (nn := 1) (As := [.int (nI k)]) (rest := [.ref (b 0)]) (m_countOf l D cI tt b iN rN (sayN z (sayP z (sayL z (sayCs z (sayMs z 1051 (z.1 4)))) (z.1 3)) k) (nI k) z hzN vz) (full_hC _) (full_nd _) ⟨rfl, rfl, ⟨Nat.le_of_ble_eq_true rfl, Nat.le_of_ble_eq_true rfl⟩, Nat.le_of_ble_eq_true rfl, Nat.le_of_ble_eq_true rfl⟩ wl_X4_234 wm_X4_countOf we_X4_countOf wi_X4 wc_X4_countOf (by decide +kernel) rfl 0 rfl rfl rfl rfl (Nat.le_of_ble_eq_true rfl) dX4_digest_234) (fun q_3 u_3 h_3 => ?_)
                have h_3 : q_3 = nI (countN z k) := h_3.trans (count_in hk)
                refine z_ws (st' := [.int q_3, .ref (b 0)]) (ws' := (mW cI b iN rN (sayN z (sayP z (sayL z (sayCs z (sayMs z 1051 (z.1 4)))) (z.1 3)) k))) rfl rfl ?_
                refine z_seti (y := (nI (countN z k))) h_3 ?_
                refine z_i2l C (pc := 237) dX4_digest_237 ?_
                refine z_callvF C (by exact fun _ => mW_ad) (runV C (wc := (mW cI b iN rN (sayN z (sayP z (sayL z (sayCs z (sayMs z 1051 (z.1 4)))) (z.1 3)) k))) (pc := 238) (rY' := rm 0 0) (nn := 1) (As := [.long ((nI (countN z k)).toInt64)]) (rest := []) (m_say l D cI tt b iN rN (sayN z (sayP z (sayL z (sayCs z (sayMs z 1051 (z.1 4)))) (z.1 3)) k) ((nI (countN z k)).toInt64)) (full_hC _) (full_nd _) ⟨rfl, rfl, ⟨Nat.le_of_ble_eq_true rfl, Nat.le_of_ble_eq_true rfl⟩, Nat.le_of_ble_eq_true rfl, Nat.le_of_ble_eq_true rfl⟩ wl_X4_245 wm_X4_say we_X4_say wi_X4 wc_X4_say (by decide +kernel) rfl 0 rfl rfl rfl rfl (Nat.le_of_ble_eq_true rfl) dX4_digest_238) (fun u_4 h_4 => ?_)
                refine z_ws (st' := []) (ws' := (mW cI b iN rN (31 * (sayN z (sayP z (sayL z (sayCs z (sayMs z 1051 (z.1 4)))) (z.1 3)) k) + (nI (countN z k)).toInt64))) rfl rfl ?_
                refine z_iinc C (pc := 241) (v := ((nI k) + 1)) (lv' := [(0, .ref (b 0)), (1, .int ((nI k) + 1))]) dX4_digest_241 rfl rfl (Nat.le_of_ble_eq_true rfl) rfl rfl ?_
                refine z_goto C (pc := 244) (tgt := 225) dX4_digest_244 (by decide) ?_
                refine z_ws (st' := []) (ws' := (mW cI b iN rN (sayN z (sayP z (sayL z (sayCs z (sayMs z 1051 (z.1 4)))) (z.1 3)) (k + 1)))) (by rw [sayN_s]) rfl ?_
                refine z_lv (lv' := [(0, .ref (b 0)), (1, .int (nI (k + 1)))]) ⟨rfl, lki (nI_1 k), trivial⟩ ?_
                exact ih225 (k + 1) iN rN (by omega) hk hzN
          refine z_ws (st' := []) (ws' := (mW cI b iP rP (sayN z (sayP z (sayL z (sayCs z (sayMs z 1051 (z.1 4)))) (z.1 3)) 0))) (rfl) rfl ?_
          refine z_lv (lv' := [(0, .ref (b 0)), (1, .int (nI 0))]) ⟨rfl, rfl, trivial⟩ ?_
          exact key225 (_ + 1) 0 iP rP (Nat.lt_succ_self _) (Nat.zero_le _) hzP
        · rw [hzP.i1] at c_1
          have hk : k < z.1 3 := lt_of_nI c_1 (by omega)
          refine z_aload_n C (pc := 206) dX4_digest_206 rfl ?_
          refine z_aload_n C (pc := 207) dX4_digest_207 rfl ?_
          refine z_get C (pc := 208) 0 rfl rfl wf_X4 0 (by decide) rfl wl_X4_7 (v := .ref (b 1)) rfl dX4_digest_208 ?_
          refine z_iload_n C (pc := 211) dX4_digest_211 rfl ?_
          have h_5 : vp_in (nI k) 15 := by exact vp_in_nI (by omega) (by decide)
          refine z_iald C (pc := 212) 1 rfl h_5 dX4_digest_212 ?_
          refine z_seti (y := z.2.2 k) (by rw [nI_clamp (by omega)]; exact hzP.2.1.1 k hk) ?_
          refine z_i2l C (pc := 213) dX4_digest_213 ?_
          refine z_callvF C (by exact fun _ => mW_ad) (runV C (wc := (mW cI b iP rP (sayP z (sayL z (sayCs z (sayMs z 1051 (z.1 4)))) k))) (pc := 214) (rY' := rm 0 0) (nn := 1) (As := [.long ((z.2.2 k).toInt64)]) (rest := []) (m_say l D cI tt b iP rP (sayP z (sayL z (sayCs z (sayMs z 1051 (z.1 4)))) k) ((z.2.2 k).toInt64)) (full_hC _) (full_nd _) ⟨rfl, rfl, ⟨Nat.le_of_ble_eq_true rfl, Nat.le_of_ble_eq_true rfl⟩, Nat.le_of_ble_eq_true rfl, Nat.le_of_ble_eq_true rfl⟩ wl_X4_245 wm_X4_say we_X4_say wi_X4 wc_X4_say (by decide +kernel) rfl 0 rfl rfl rfl rfl (Nat.le_of_ble_eq_true rfl) dX4_digest_214) (fun u_6 h_6 => ?_)
          refine z_ws (st' := []) (ws' := (mW cI b iP rP (31 * (sayP z (sayL z (sayCs z (sayMs z 1051 (z.1 4)))) k) + (z.2.2 k).toInt64))) rfl rfl ?_
          refine z_iinc C (pc := 217) (v := ((nI k) + 1)) (lv' := [(0, .ref (b 0)), (1, .int ((nI k) + 1))]) dX4_digest_217 rfl rfl (Nat.le_of_ble_eq_true rfl) rfl rfl ?_
          refine z_goto C (pc := 220) (tgt := 198) dX4_digest_220 (by decide) ?_
          refine z_ws (st' := []) (ws' := (mW cI b iP rP (sayP z (sayL z (sayCs z (sayMs z 1051 (z.1 4)))) (k + 1)))) (by rw [sayP_s]) rfl ?_
          refine z_lv (lv' := [(0, .ref (b 0)), (1, .int (nI (k + 1)))]) ⟨rfl, lki (nI_1 k), trivial⟩ ?_
          exact ih198 (k + 1) iP rP (by omega) hk hzP
    refine z_ws (st' := []) (ws' := (mW cI b iJ rJ (sayP z (sayL z (sayCs z (sayMs z 1051 (z.1 4)))) 0))) (rfl) rfl ?_
    refine z_lv (lv' := [(0, .ref (b 0)), (1, .int (nI 0))]) ⟨rfl, rfl, trivial⟩ ?_
    exact key198 (_ + 1) 0 iJ rJ (Nat.lt_succ_self _) (Nat.zero_le _) hzJ
  have join106 : ∀ (iK : Nat → Int32) (rK : Nat → Nat → Int32), (Mdl z iK rK) → Z pP l eE (rm 9 216) sS mM aV bB mE cC D AA 3 0 0 (MQ bB (va_Ql (S := ((Nat → Int32) × (Nat → Nat → Int32) × Int64)) (fun q u => q = digestF z ∧ Mdl z u.1 u.2.1) (fun u t => va_P D vwCl ((fun u => mW cI b u.1 u.2.1 u.2.2) u) t.heap) AA) aV sS 0 0 AA) 106 [(0, .ref (b 0))] [] (mW cI b iK rK (sayCs z (sayMs z 1051 (z.1 4)))) := by
    intro iK rK hzK
    refine z_aload_n C (pc := 106) dX4_digest_106 rfl ?_
    refine z_get C (pc := 107) 0 rfl rfl wf_X4 4 (by decide) rfl wl_X4_72 (v := .int (iK 4)) rfl dX4_digest_107 ?_
    refine z_if_eq C (pc := 110) (tgt := 196) dX4_digest_110 (by decide) (fun c_7 => ?_) (fun c_7 => ?_)
    · rw [hzK.i4] at c_7
      have hal0 : z.1 5 = 0 := nI_z (by omega) c_7
      refine z_ws (st' := []) (ws' := (mW cI b iK rK (sayL z (sayCs z (sayMs z 1051 (z.1 4)))))) (by rw [sayL_0 hal0]) rfl ?_
      refine z_lv (lv' := [(0, .ref (b 0))]) ⟨rfl, trivial⟩ ?_
      exact join196 iK rK hzK
    · rw [hzK.i4] at c_7
      have hal0 : z.1 5 ≠ 0 := nI_nz c_7
      refine z_aload_n C (pc := 113) dX4_digest_113 rfl ?_
      refine z_aload_n C (pc := 114) dX4_digest_114 rfl ?_
      refine z_aload_n C (pc := 115) dX4_digest_115 rfl ?_
      refine z_get C (pc := 116) 0 rfl rfl wf_X4 4 (by decide) rfl wl_X4_72 (v := .int (iK 4)) rfl dX4_digest_116 ?_
      refine z_seti (y := nI (z.1 5)) (hzK.i4) ?_
      refine z_aload_n C (pc := 119) dX4_digest_119 rfl ?_
      refine z_get C (pc := 120) 0 rfl rfl wf_X4 9 (by decide) rfl wl_X4_16 (v := .ref (b 3)) rfl dX4_digest_120 ?_
      refine z_calliF C (by exact fun _ => mW_ad) (runV C (wc := (mW cI b iK rK (sayCs z (sayMs z 1051 (z.1 4))))) (pc := 123) (rY' := rm 8 187) (nn := 2) (As := [.int (nI (z.1 5)), .ref (b 3)]) (rest := [.ref (b 0)]) (m_farOfF l D cI tt b iK rK (sayCs z (sayMs z 1051 (z.1 4))) (z.2.1 1) (z.1 4) (hzK.pv vz) (z.1 5) v5 hal0 (z.2.1 2) (hzK.c vz)) (full_hC _) (full_nd _) ⟨rfl, rfl, ⟨Nat.le_of_ble_eq_true rfl, Nat.le_of_ble_eq_true rfl⟩, Nat.le_of_ble_eq_true rfl, Nat.le_of_ble_eq_true rfl⟩ wl_X4_192 wm_X4_farOf we_X4_farOf wi_X4 wc_X4_farOf (by decide +kernel) rfl 0 rfl rfl rfl rfl (Nat.le_of_ble_eq_true rfl) dX4_digest_123) (fun q_8 u_8 h_8 => ?_)
      obtain ⟨i8, r8⟩ := u_8
      try dsimp only at h_8
      obtain ⟨f0, f1, f2⟩ := h_8
      have hzK1 := hzK.sr f1 f2
      refine z_ws (st' := [.int q_8, .ref (b 0)]) (ws' := (mW cI b i8 r8 (sayCs z (sayMs z 1051 (z.1 4))))) rfl rfl ?_
      refine z_seti (y := (nI (farv (z.2.1 1) (z.1 4) (z.1 5) (z.2.1 2)))) f0 ?_
      refine z_i2l C (pc := 126) dX4_digest_126 ?_
      refine z_callvF C (by exact fun _ => mW_ad) (runV C (wc := (mW cI b i8 r8 (sayCs z (sayMs z 1051 (z.1 4))))) (pc := 127) (rY' := rm 0 0) (nn := 1) (As := [.long ((nI (farv (z.2.1 1) (z.1 4) (z.1 5) (z.2.1 2))).toInt64)]) (rest := []) (m_say l D cI tt b i8 r8 (sayCs z (sayMs z 1051 (z.1 4))) ((nI (farv (z.2.1 1) (z.1 4) (z.1 5) (z.2.1 2))).toInt64)) (full_hC _) (full_nd _) ⟨rfl, rfl, ⟨Nat.le_of_ble_eq_true rfl, Nat.le_of_ble_eq_true rfl⟩, Nat.le_of_ble_eq_true rfl, Nat.le_of_ble_eq_true rfl⟩ wl_X4_245 wm_X4_say we_X4_say wi_X4 wc_X4_say (by decide +kernel) rfl 0 rfl rfl rfl rfl (Nat.le_of_ble_eq_true rfl) dX4_digest_127) (fun u_9 h_9 => ?_)
      refine z_ws (st' := []) (ws' := (mW cI b i8 r8 (31 * (sayCs z (sayMs z 1051 (z.1 4))) + (nI (farv (z.2.1 1) (z.1 4) (z.1 5) (z.2.1 2))).toInt64))) rfl rfl ?_
      refine z_aload_n C (pc := 130) dX4_digest_130 rfl ?_
      refine z_aload_n C (pc := 131) dX4_digest_131 rfl ?_
      refine z_aload_n C (pc := 132) dX4_digest_132 rfl ?_
      refine z_get C (pc := 133) 0 rfl rfl wf_X4 4 (by decide) rfl wl_X4_72 (v := .int (i8 4)) rfl dX4_digest_133 ?_
      refine z_seti (y := nI (z.1 5)) (hzK1.i4) ?_
      refine z_iconst C (pc := 136) (v := 1) dX4_digest_136 (by decide) ?_
      refine z_aload_n C (pc := 137) dX4_digest_137 rfl ?_
      refine z_get C (pc := 138) 0 rfl rfl wf_X4 9 (by decide) rfl wl_X4_16 (v := .ref (b 3)) rfl dX4_digest_138 ?_
      refine z_ws (st' := [.ref (b 3), .int (nI 1), .int (nI (z.1 5)), .ref (b 0), .ref (b 0)]) rfl rfl ?_
      refine z_calliF C (by exact fun _ => mW_ad) (runV C (wc := (mW cI b i8 r8 (31 * (sayCs z (sayMs z 1051 (z.1 4))) + (nI (farv (z.2.1 1) (z.1 4) (z.1 5) (z.2.1 2))).toInt64))) (pc := 141) (rY' := rm 7 162) (nn := 3) (As := [.int (nI (z.1 5)), .int (nI 1), .ref (b 3)]) (rest := [.ref (b 0)]) (m_needOfF l D cI tt b i8 r8 (31 * (sayCs z (sayMs z 1051 (z.1 4))) + (nI (farv (z.2.1 1) (z.1 4) (z.1 5) (z.2.1 2))).toInt64) (z.2.1 1) (z.1 4) (hzK1.pv vz) (z.1 5) 1 v5 (by decide) (by decide) (z.2.1 2) (hzK1.c vz)) (full_hC _) (full_nd _) ⟨rfl, rfl, ⟨Nat.le_of_ble_eq_true rfl, Nat.le_of_ble_eq_true rfl⟩, Nat.le_of_ble_eq_true rfl, Nat.le_of_ble_eq_true rfl⟩ wl_X4_188 wm_X4_needOf we_X4_needOf wi_X4 wc_X4_needOf (by decide +kernel) rfl 0 rfl rfl rfl rfl (Nat.le_of_ble_eq_true rfl) dX4_digest_141) (fun q_10 u_10 h_10 => ?_)
      obtain ⟨i10, r10⟩ := u_10
      try dsimp only at h_10
      obtain ⟨g20, g21, g22⟩ := h_10
      have hzK2 := hzK1.sr g21 g22
      refine z_ws (st' := [.int q_10, .ref (b 0)]) (ws' := (mW cI b i10 r10 (31 * (sayCs z (sayMs z 1051 (z.1 4))) + (nI (farv (z.2.1 1) (z.1 4) (z.1 5) (z.2.1 2))).toInt64))) rfl rfl ?_
      refine z_seti (y := (needv (z.2.1 1) (z.1 4) (z.1 5) 1 (z.2.1 2))) g20 ?_
      refine z_i2l C (pc := 144) dX4_digest_144 ?_
      refine z_callvF C (by exact fun _ => mW_ad) (runV C (wc := (mW cI b i10 r10 (31 * (sayCs z (sayMs z 1051 (z.1 4))) + (nI (farv (z.2.1 1) (z.1 4) (z.1 5) (z.2.1 2))).toInt64))) (pc := 145) (rY' := rm 0 0) (nn := 1) (As := [.long ((needv (z.2.1 1) (z.1 4) (z.1 5) 1 (z.2.1 2)).toInt64)]) (rest := []) (m_say l D cI tt b i10 r10 (31 * (sayCs z (sayMs z 1051 (z.1 4))) + (nI (farv (z.2.1 1) (z.1 4) (z.1 5) (z.2.1 2))).toInt64) ((needv (z.2.1 1) (z.1 4) (z.1 5) 1 (z.2.1 2)).toInt64)) (full_hC _) (full_nd _) ⟨rfl, rfl, ⟨Nat.le_of_ble_eq_true rfl, Nat.le_of_ble_eq_true rfl⟩, Nat.le_of_ble_eq_true rfl, Nat.le_of_ble_eq_true rfl⟩ wl_X4_245 wm_X4_say we_X4_say wi_X4 wc_X4_say (by decide +kernel) rfl 0 rfl rfl rfl rfl (Nat.le_of_ble_eq_true rfl) dX4_digest_145) (fun u_11 h_11 => ?_)
      refine z_ws (st' := []) (ws' := (mW cI b i10 r10 (31 * (31 * (sayCs z (sayMs z 1051 (z.1 4))) + (nI (farv (z.2.1 1) (z.1 4) (z.1 5) (z.2.1 2))).toInt64) + (needv (z.2.1 1) (z.1 4) (z.1 5) 1 (z.2.1 2)).toInt64))) rfl rfl ?_
      refine z_aload_n C (pc := 148) dX4_digest_148 rfl ?_
      refine z_aload_n C (pc := 149) dX4_digest_149 rfl ?_
      refine z_aload_n C (pc := 150) dX4_digest_150 rfl ?_
      refine z_get C (pc := 151) 0 rfl rfl wf_X4 4 (by decide) rfl wl_X4_72 (v := .int (i10 4)) rfl dX4_digest_151 ?_
      refine z_seti (y := nI (z.1 5)) (hzK2.i4) ?_
      refine z_iconst C (pc := 154) (v := 4) dX4_digest_154 (by decide) ?_
      refine z_aload_n C (pc := 155) dX4_digest_155 rfl ?_
      refine z_get C (pc := 156) 0 rfl rfl wf_X4 9 (by decide) rfl wl_X4_16 (v := .ref (b 3)) rfl dX4_digest_156 ?_
      refine z_ws (st' := [.ref (b 3), .int (nI 4), .int (nI (z.1 5)), .ref (b 0), .ref (b 0)]) rfl rfl ?_
      refine z_calliF C (by exact fun _ => mW_ad) (runV C (wc := (mW cI b i10 r10 (31 * (31 * (sayCs z (sayMs z 1051 (z.1 4))) + (nI (farv (z.2.1 1) (z.1 4) (z.1 5) (z.2.1 2))).toInt64) + (needv (z.2.1 1) (z.1 4) (z.1 5) 1 (z.2.1 2)).toInt64))) (pc := 159) (rY' := rm 7 162) (nn := 3) (As := [.int (nI (z.1 5)), .int (nI 4), .ref (b 3)]) (rest := [.ref (b 0)]) (m_needOfF l D cI tt b i10 r10 (31 * (31 * (sayCs z (sayMs z 1051 (z.1 4))) + (nI (farv (z.2.1 1) (z.1 4) (z.1 5) (z.2.1 2))).toInt64) + (needv (z.2.1 1) (z.1 4) (z.1 5) 1 (z.2.1 2)).toInt64) (z.2.1 1) (z.1 4) (hzK2.pv vz) (z.1 5) 4 v5 (by decide) (by decide) (z.2.1 2) (hzK2.c vz)) (full_hC _) (full_nd _) ⟨rfl, rfl, ⟨Nat.le_of_ble_eq_true rfl, Nat.le_of_ble_eq_true rfl⟩, Nat.le_of_ble_eq_true rfl, Nat.le_of_ble_eq_true rfl⟩ wl_X4_188 wm_X4_needOf we_X4_needOf wi_X4 wc_X4_needOf (by decide +kernel) rfl 0 rfl rfl rfl rfl (Nat.le_of_ble_eq_true rfl) dX4_digest_159) (fun q_12 u_12 h_12 => ?_)
      obtain ⟨i12, r12⟩ := u_12
      try dsimp only at h_12
      obtain ⟨g30, g31, g32⟩ := h_12
      have hzK3 := hzK2.sr g31 g32
      refine z_ws (st' := [.int q_12, .ref (b 0)]) (ws' := (mW cI b i12 r12 (31 * (31 * (sayCs z (sayMs z 1051 (z.1 4))) + (nI (farv (z.2.1 1) (z.1 4) (z.1 5) (z.2.1 2))).toInt64) + (needv (z.2.1 1) (z.1 4) (z.1 5) 1 (z.2.1 2)).toInt64))) rfl rfl ?_
      refine z_seti (y := (needv (z.2.1 1) (z.1 4) (z.1 5) 4 (z.2.1 2))) g30 ?_
      refine z_i2l C (pc := 162) dX4_digest_162 ?_
      refine z_callvF C (by exact fun _ => mW_ad) (runV C (wc := (mW cI b i12 r12 (31 * (31 * (sayCs z (sayMs z 1051 (z.1 4))) + (nI (farv (z.2.1 1) (z.1 4) (z.1 5) (z.2.1 2))).toInt64) + (needv (z.2.1 1) (z.1 4) (z.1 5) 1 (z.2.1 2)).toInt64))) (pc := 163) (rY' := rm 0 0) (nn := 1) (As := [.long ((needv (z.2.1 1) (z.1 4) (z.1 5) 4 (z.2.1 2)).toInt64)]) (rest := []) (m_say l D cI tt b i12 r12 (31 * (31 * (sayCs z (sayMs z 1051 (z.1 4))) + (nI (farv (z.2.1 1) (z.1 4) (z.1 5) (z.2.1 2))).toInt64) + (needv (z.2.1 1) (z.1 4) (z.1 5) 1 (z.2.1 2)).toInt64) ((needv (z.2.1 1) (z.1 4) (z.1 5) 4 (z.2.1 2)).toInt64)) (full_hC _) (full_nd _) ⟨rfl, rfl, ⟨Nat.le_of_ble_eq_true rfl, Nat.le_of_ble_eq_true rfl⟩, Nat.le_of_ble_eq_true rfl, Nat.le_of_ble_eq_true rfl⟩ wl_X4_245 wm_X4_say we_X4_say wi_X4 wc_X4_say (by decide +kernel) rfl 0 rfl rfl rfl rfl (Nat.le_of_ble_eq_true rfl) dX4_digest_163) (fun u_13 h_13 => ?_)
      refine z_ws (st' := []) (ws' := (mW cI b i12 r12 (31 * (31 * (31 * (sayCs z (sayMs z 1051 (z.1 4))) + (nI (farv (z.2.1 1) (z.1 4) (z.1 5) (z.2.1 2))).toInt64) + (needv (z.2.1 1) (z.1 4) (z.1 5) 1 (z.2.1 2)).toInt64) + (needv (z.2.1 1) (z.1 4) (z.1 5) 4 (z.2.1 2)).toInt64))) rfl rfl ?_
      refine z_iconst C (pc := 166) (v := 0) dX4_digest_166 (by decide) ?_
      refine z_istore_n C (pc := 167) (lv' := [(0, .ref (b 0)), (1, .int 0)]) dX4_digest_167 (Nat.le_of_ble_eq_true rfl) rfl rfl ?_
      have key168 : ∀ (fu168 : Nat) (k : Nat) (iW : Nat → Int32) (rW : Nat → Nat → Int32), 4 - k < fu168 → (k ≤ 4) → (Mdl z iW rW) → Z pP l eE (rm 9 216) sS mM aV bB mE cC D AA 3 0 0 (MQ bB (va_Ql (S := ((Nat → Int32) × (Nat → Nat → Int32) × Int64)) (fun q u => q = digestF z ∧ Mdl z u.1 u.2.1) (fun u t => va_P D vwCl ((fun u => mW cI b u.1 u.2.1 u.2.2) u) t.heap) AA) aV sS 0 0 AA) 168 [(0, .ref (b 0)), (1, .int (nI k))] [] (mW cI b iW rW (sayW z (31 * (31 * (31 * (sayCs z (sayMs z 1051 (z.1 4))) + (nI (farv (z.2.1 1) (z.1 4) (z.1 5) (z.2.1 2))).toInt64) + (needv (z.2.1 1) (z.1 4) (z.1 5) 1 (z.2.1 2)).toInt64) + (needv (z.2.1 1) (z.1 4) (z.1 5) 4 (z.2.1 2)).toInt64) k)) := by
        intro fu168
        induction fu168 with
        | zero => intro k iW rW hfu168; exact absurd hfu168 (Nat.not_lt_zero _)
        | succ fu168 ih168 =>
          intro k iW rW hfu168 hk4 hzW
          refine z_iload_n C (pc := 168) dX4_digest_168 rfl ?_
          refine z_iconst C (pc := 169) (v := 4) dX4_digest_169 (by decide) ?_
          refine z_icmp_ge C (pc := 170) (tgt := 196) dX4_digest_170 (by decide) (fun c_14 => ?_) (fun c_14 => ?_)
          · have hke : k = 4 := by
              have := ge_of_nI (n := 4) c_14 (by decide)
              omega
            subst hke
            refine z_ws (st' := []) (ws' := (mW cI b iW rW (sayL z (sayCs z (sayMs z 1051 (z.1 4)))))) (by rw [sayL_1 hal0]) rfl ?_
            refine z_lv (lv' := [(0, .ref (b 0))]) ⟨rfl, trivial⟩ ?_
            exact join196 iW rW hzW
          · have hk : k < 4 := lt_of_nI (n := 4) c_14 (by omega)
            refine z_aload_n C (pc := 173) dX4_digest_173 rfl ?_
            refine z_aload_n C (pc := 174) dX4_digest_174 rfl ?_
            refine z_aload_n C (pc := 175) dX4_digest_175 rfl ?_
            refine z_get C (pc := 176) 0 rfl rfl wf_X4 4 (by decide) rfl wl_X4_72 (v := .int (iW 4)) rfl dX4_digest_176 ?_
            refine z_seti (y := nI (z.1 5)) (hzW.i4) ?_
            refine z_iconst C (pc := 179) (v := 5) dX4_digest_179 (by decide) ?_
            refine z_bipush C (pc := 180) (v := 12) dX4_digest_180 (by decide) ?_
            refine z_iload_n C (pc := 182) dX4_digest_182 rfl ?_
            refine z_ws (st' := [.int (nI k), .int (nI 12), .int (nI 5), .int (nI (z.1 5)), .ref (b 0), .ref (b 0)]) rfl rfl ?_
            refine z_calliF C (by exact fun _ => mW_ad) (runV C (wc := (mW cI b iW rW (sayW z (31 * (31 * (31 * (sayCs z (sayMs z 1051 (z.1 4))) + (nI (farv (z.2.1 1) (z.1 4) (z.1 5) (z.2.1 2))).toInt64) + (needv (z.2.1 1) (z.1 4) (z.1 5) 1 (z.2.1 2)).toInt64) + (needv (z.2.1 1) (z.1 4) (z.1 5) 4 (z.2.1 2)).toInt64) k))) (pc := 183) (rY' := rm 6 138) (nn := 4) (As := [.int (nI (z.1 5)), .int (nI 5), .int (nI 12), .int (nI k)]) (rest := [.ref (b 0)]) (m_wouldOf l D cI tt b iW rW (sayW z (31 * (31 * (31 * (sayCs z (sayMs z 1051 (z.1 4))) + (nI (farv (z.2.1 1) (z.1 4) (z.1 5) (z.2.1 2))).toInt64) + (needv (z.2.1 1) (z.1 4) (z.1 5) 1 (z.2.1 2)).toInt64) + (needv (z.2.1 1) (z.1 4) (z.1 5) 4 (z.2.1 2)).toInt64) k) z hzW vz (z.1 5) 5 12 v5 (by decide) (by decide) (nI k)) (full_hC _) (full_nd _) ⟨rfl, rfl, ⟨Nat.le_of_ble_eq_true rfl, Nat.le_of_ble_eq_true rfl⟩, Nat.le_of_ble_eq_true rfl, Nat.le_of_ble_eq_true rfl⟩ wl_X4_180 wm_X4_wouldOf we_X4_wouldOf wi_X4 wc_X4_wouldOf (by decide +kernel) rfl 0 rfl rfl rfl rfl (Nat.le_of_ble_eq_true rfl) dX4_digest_183) (fun q_15 u_15 h_15 => ?_)
            obtain ⟨i15, r15⟩ := u_15
            try dsimp only at h_15
            obtain ⟨q0, q1⟩ := h_15
            refine z_ws (st' := [.int q_15, .ref (b 0)]) (ws' := (mW cI b i15 r15 (sayW z (31 * (31 * (31 * (sayCs z (sayMs z 1051 (z.1 4))) + (nI (farv (z.2.1 1) (z.1 4) (z.1 5) (z.2.1 2))).toInt64) + (needv (z.2.1 1) (z.1 4) (z.1 5) 1 (z.2.1 2)).toInt64) + (needv (z.2.1 1) (z.1 4) (z.1 5) 4 (z.2.1 2)).toInt64) k))) rfl rfl ?_
            refine z_seti (y := (tellM (marS z (z.1 5) 5 12) (nI k))) q0 ?_
            refine z_i2l C (pc := 186) dX4_digest_186 ?_
            refine z_callvF C (by exact fun _ => mW_ad) (runV C (wc := (mW cI b i15 r15 (sayW z (31 * (31 * (31 * (sayCs z (sayMs z 1051 (z.1 4))) + (nI (farv (z.2.1 1) (z.1 4) (z.1 5) (z.2.1 2))).toInt64) + (needv (z.2.1 1) (z.1 4) (z.1 5) 1 (z.2.1 2)).toInt64) + (needv (z.2.1 1) (z.1 4) (z.1 5) 4 (z.2.1 2)).toInt64) k))) (pc := 187) (rY' := rm 0 0) (nn := 1) (As := [.long ((tellM (marS z (z.1 5) 5 12) (nI k)).toInt64)]) (rest := []) (m_say l D cI tt b i15 r15 (sayW z (31 * (31 * (31 * (sayCs z (sayMs z 1051 (z.1 4))) + (nI (farv (z.2.1 1) (z.1 4) (z.1 5) (z.2.1 2))).toInt64) + (needv (z.2.1 1) (z.1 4) (z.1 5) 1 (z.2.1 2)).toInt64) + (needv (z.2.1 1) (z.1 4) (z.1 5) 4 (z.2.1 2)).toInt64) k) ((tellM (marS z (z.1 5) 5 12) (nI k)).toInt64)) (full_hC _) (full_nd _) ⟨rfl, rfl, ⟨Nat.le_of_ble_eq_true rfl, Nat.le_of_ble_eq_true rfl⟩, Nat.le_of_ble_eq_true rfl, Nat.le_of_ble_eq_true rfl⟩ wl_X4_245 wm_X4_say we_X4_say wi_X4 wc_X4_say (by decide +kernel) rfl 0 rfl rfl rfl rfl (Nat.le_of_ble_eq_true rfl) dX4_digest_187) (fun u_16 h_16 => ?_)
            refine z_ws (st' := []) (ws' := (mW cI b i15 r15 (31 * (sayW z (31 * (31 * (31 * (sayCs z (sayMs z 1051 (z.1 4))) + (nI (farv (z.2.1 1) (z.1 4) (z.1 5) (z.2.1 2))).toInt64) + (needv (z.2.1 1) (z.1 4) (z.1 5) 1 (z.2.1 2)).toInt64) + (needv (z.2.1 1) (z.1 4) (z.1 5) 4 (z.2.1 2)).toInt64) k) + (tellM (marS z (z.1 5) 5 12) (nI k)).toInt64))) rfl rfl ?_
            refine z_iinc C (pc := 190) (v := ((nI k) + 1)) (lv' := [(0, .ref (b 0)), (1, .int ((nI k) + 1))]) dX4_digest_190 rfl rfl (Nat.le_of_ble_eq_true rfl) rfl rfl ?_
            refine z_goto C (pc := 193) (tgt := 168) dX4_digest_193 (by decide) ?_
            refine z_ws (st' := []) (ws' := (mW cI b i15 r15 (sayW z (31 * (31 * (31 * (sayCs z (sayMs z 1051 (z.1 4))) + (nI (farv (z.2.1 1) (z.1 4) (z.1 5) (z.2.1 2))).toInt64) + (needv (z.2.1 1) (z.1 4) (z.1 5) 1 (z.2.1 2)).toInt64) + (needv (z.2.1 1) (z.1 4) (z.1 5) 4 (z.2.1 2)).toInt64) (k + 1)))) (by rw [sayW_s]) rfl ?_
            refine z_lv (lv' := [(0, .ref (b 0)), (1, .int (nI (k + 1)))]) ⟨rfl, lki (nI_1 k), trivial⟩ ?_
            exact ih168 (k + 1) i15 r15 (by omega) hk q1
      refine z_ws (st' := []) (ws' := (mW cI b i12 r12 (sayW z (31 * (31 * (31 * (sayCs z (sayMs z 1051 (z.1 4))) + (nI (farv (z.2.1 1) (z.1 4) (z.1 5) (z.2.1 2))).toInt64) + (needv (z.2.1 1) (z.1 4) (z.1 5) 1 (z.2.1 2)).toInt64) + (needv (z.2.1 1) (z.1 4) (z.1 5) 4 (z.2.1 2)).toInt64) 0))) (rfl) rfl ?_
      refine z_lv (lv' := [(0, .ref (b 0)), (1, .int (nI 0))]) ⟨rfl, rfl, trivial⟩ ?_
      exact key168 (_ + 1) 0 i12 r12 (Nat.lt_succ_self _) (Nat.zero_le _) hzK3
  refine z_aload_n C (pc := 0) dX4_digest_0 rfl ?_
  refine z_ldc2 C (pc := 1) (v := 1051) wl_X4_243 dX4_digest_1 ?_
  refine z_put C (pc := 4) 0 rfl rfl wf_X4 27 (by decide) rfl tyX4 tyX4_ok nmX4 rfl rfl rfl (Nat.le_of_ble_eq_true rfl) (ws' := (mW cI b i r 1051)) rfl wl_X4_239 dX4_digest_4 ?_
  refine z_iconst C (pc := 7) (v := 0) dX4_digest_7 (by decide) ?_
  refine z_istore_n C (pc := 8) (lv' := [(0, .ref (b 0)), (1, .int 0)]) dX4_digest_8 (Nat.le_of_ble_eq_true rfl) rfl rfl ?_
  have key9 : ∀ (fu9 : Nat) (m : Nat) (iM : Nat → Int32) (rM : Nat → Nat → Int32), z.1 4 - m < fu9 → (m ≤ z.1 4) → (Mdl z iM rM) → Z pP l eE (rm 9 216) sS mM aV bB mE cC D AA 3 0 0 (MQ bB (va_Ql (S := ((Nat → Int32) × (Nat → Nat → Int32) × Int64)) (fun q u => q = digestF z ∧ Mdl z u.1 u.2.1) (fun u t => va_P D vwCl ((fun u => mW cI b u.1 u.2.1 u.2.2) u) t.heap) AA) aV sS 0 0 AA) 9 [(0, .ref (b 0)), (1, .int (nI m))] [] (mW cI b iM rM (sayMs z 1051 m)) := by
    intro fu9
    induction fu9 with
    | zero => intro m iM rM hfu9; exact absurd hfu9 (Nat.not_lt_zero _)
    | succ fu9 ih9 =>
      intro m iM rM hfu9 hmn hzM
      refine z_iload_n C (pc := 9) dX4_digest_9 rfl ?_
      refine z_aload_n C (pc := 10) dX4_digest_10 rfl ?_
      refine z_get C (pc := 11) 0 rfl rfl wf_X4 3 (by decide) rfl wl_X4_69 (v := .int (iM 3)) rfl dX4_digest_11 ?_
      refine z_icmp_ge C (pc := 14) (tgt := 47) dX4_digest_14 (by decide) (fun c_17 => ?_) (fun c_17 => ?_)
      · rw [hzM.i3] at c_17
        have hme : m = z.1 4 := by
          have := ge_of_nI c_17 (by omega)
          omega
        subst hme
        refine z_lv (lv' := [(0, .ref (b 0))]) ⟨rfl, trivial⟩ ?_
        refine z_iconst C (pc := 47) (v := 1) dX4_digest_47 (by decide) ?_
        refine z_istore_n C (pc := 48) (lv' := [(0, .ref (b 0)), (1, .int 1)]) dX4_digest_48 (Nat.le_of_ble_eq_true rfl) rfl rfl ?_
        have key49 : ∀ (fu49 : Nat) (k q : Nat) (iQ : Nat → Int32) (rQ : Nat → Nat → Int32), 5 - k < fu49 → (q = k + 1) → (k ≤ 5) → (z.1 4 = 0 → k = 0) → (Mdl z iQ rQ) → Z pP l eE (rm 9 216) sS mM aV bB mE cC D AA 3 0 0 (MQ bB (va_Ql (S := ((Nat → Int32) × (Nat → Nat → Int32) × Int64)) (fun q u => q = digestF z ∧ Mdl z u.1 u.2.1) (fun u t => va_P D vwCl ((fun u => mW cI b u.1 u.2.1 u.2.2) u) t.heap) AA) aV sS 0 0 AA) 49 [(0, .ref (b 0)), (1, .int (nI q))] [] (mW cI b iQ rQ (sayC z (sayMs z 1051 (z.1 4)) k)) := by
          intro fu49
          induction fu49 with
          | zero => intro k q iQ rQ hfu49; exact absurd hfu49 (Nat.not_lt_zero _)
          | succ fu49 ih49 =>
            intro k q iQ rQ hfu49 hq hk5 hkz hzQ
            refine z_iload_n C (pc := 49) dX4_digest_49 rfl ?_
            refine z_bipush C (pc := 50) (v := 6) dX4_digest_50 (by decide) ?_
            refine z_icmp_ge C (pc := 52) (tgt := 89) dX4_digest_52 (by decide) (fun c_18 => ?_) (fun c_18 => ?_)
            · have hke : k = 5 := by
                have := ge_of_nI (n := 6) (j := q) c_18 (by decide)
                omega
              refine z_ws (st' := []) (ws' := (mW cI b iQ rQ (sayC z (sayMs z 1051 (z.1 4)) 5))) (by rw [hke]) rfl ?_
              refine z_aload_n C (pc := 89) dX4_digest_89 rfl ?_
              refine z_calliF C (by exact fun _ => mW_ad) (runV C (wc := (mW cI b iQ rQ (sayC z (sayMs z 1051 (z.1 4)) 5))) (pc := 90) (rY' := rm 0 0) (nn := 0) (As := []) (rest := []) (m_lacks l D cI tt b iQ rQ (sayC z (sayMs z 1051 (z.1 4)) 5) (z.1 4) hzQ.i3 hn6) (full_hC _) (full_nd _) ⟨rfl, rfl, ⟨Nat.le_of_ble_eq_true rfl, Nat.le_of_ble_eq_true rfl⟩, Nat.le_of_ble_eq_true rfl, Nat.le_of_ble_eq_true rfl⟩ wl_X4_87 wm_X4_lacks we_X4_lacks wi_X4 wc_X4_lacks (by decide +kernel) rfl 0 rfl rfl rfl rfl (Nat.le_of_ble_eq_true rfl) dX4_digest_90) (fun q_19 u_19 h_19 => ?_)
              refine z_ws (st' := [.int q_19]) (ws' := (mW cI b iQ rQ (sayC z (sayMs z 1051 (z.1 4)) 5))) rfl rfl ?_
              refine z_seti (y := (b2 (decide (z.1 4 = 0)))) h_19 ?_
              refine z_if_ne C (pc := 93) (tgt := 106) dX4_digest_93 (by decide) (fun c_20 => ?_) (fun c_20 => ?_)
              · have hm0 : z.1 4 = 0 := of_decide_eq_true (b2_t c_20)
                exact absurd (hkz hm0) (by omega)
              · have hm0 : z.1 4 ≠ 0 := of_decide_eq_false (b2_f c_20)
                refine z_aload_n C (pc := 96) dX4_digest_96 rfl ?_
                refine z_aload_n C (pc := 97) dX4_digest_97 rfl ?_
                refine z_iconst C (pc := 98) (v := 3) dX4_digest_98 (by decide) ?_
                refine z_seti (y := nI 3) rfl ?_
                refine z_calliF C (by exact fun _ => mW_ad) (runV C (wc := (mW cI b iQ rQ (sayC z (sayMs z 1051 (z.1 4)) 5))) (pc := 99) (rY' := rm 8 188) (nn := 1) (As := [.int (nI 3)]) (rest := [.ref (b 0)]) (m_tryOf l D cI tt b iQ rQ (sayC z (sayMs z 1051 (z.1 4)) 5) (z.2.1 1) (z.1 4) (hzQ.pv vz) (z.2.1 2) (hzQ.c vz) (z.1 8) (z.2.1 3) (z.2.1 4) (z.2.1 5) (z.2.1 6) (hzQ.hv vz) 3 (by decide) (by decide) (layS z 3) rfl) (full_hC _) (full_nd _) ⟨rfl, rfl, ⟨Nat.le_of_ble_eq_true rfl, Nat.le_of_ble_eq_true rfl⟩, Nat.le_of_ble_eq_true rfl, Nat.le_of_ble_eq_true rfl⟩ wl_X4_114 wm_X4_tryOf we_X4_tryOf wi_X4 wc_X4_tryOf (by decide +kernel) rfl 0 rfl rfl rfl rfl (Nat.le_of_ble_eq_true rfl) dX4_digest_99) (fun q_21 u_21 h_21 => ?_)
                obtain ⟨i21, r21⟩ := u_21
                try dsimp only at h_21
                obtain ⟨j0, j1, j2⟩ := h_21
                have j0' : q_21 = tryS z 3 := j0
                have hzQ3 := hzQ.sp j1 j2
                refine z_ws (st' := [.int q_21, .ref (b 0)]) (ws' := (mW cI b i21 r21 (sayC z (sayMs z 1051 (z.1 4)) 5))) rfl rfl ?_
                refine z_seti (y := (tryS z 3)) j0' ?_
                refine z_i2l C (pc := 102) dX4_digest_102 ?_
                refine z_callvF C (by exact fun _ => mW_ad) (runV C (wc := (mW cI b i21 r21 (sayC z (sayMs z 1051 (z.1 4)) 5))) (pc := 103) (rY' := rm 0 0) (nn := 1) (As := [.long ((tryS z 3).toInt64)]) (rest := []) (m_say l D cI tt b i21 r21 (sayC z (sayMs z 1051 (z.1 4)) 5) ((tryS z 3).toInt64)) (full_hC _) (full_nd _) ⟨rfl, rfl, ⟨Nat.le_of_ble_eq_true rfl, Nat.le_of_ble_eq_true rfl⟩, Nat.le_of_ble_eq_true rfl, Nat.le_of_ble_eq_true rfl⟩ wl_X4_245 wm_X4_say we_X4_say wi_X4 wc_X4_say (by decide +kernel) rfl 0 rfl rfl rfl rfl (Nat.le_of_ble_eq_true rfl) dX4_digest_103) (fun u_22 h_22 => ?_)
                refine z_ws (st' := []) (ws' := (mW cI b i21 r21 (31 * (sayC z (sayMs z 1051 (z.1 4)) 5) + (tryS z 3).toInt64))) rfl rfl ?_
                refine z_ws (st' := []) (ws' := (mW cI b i21 r21 (sayCs z (sayMs z 1051 (z.1 4))))) (by rw [sayCs_1 hm0]) rfl ?_
                refine z_lv (lv' := [(0, .ref (b 0))]) ⟨rfl, trivial⟩ ?_
                exact join106 i21 r21 hzQ3
            · have hk : k < 5 := by
                have := lt_of_nI (n := 6) (j := q) c_18 (by omega)
                omega
              refine z_aload_n C (pc := 55) dX4_digest_55 rfl ?_
              refine z_calliF C (by exact fun _ => mW_ad) (runV C (wc := (mW cI b iQ rQ (sayC z (sayMs z 1051 (z.1 4)) k))) (pc := 56) (rY' := rm 0 0) (nn := 0) (As := []) (rest := []) (m_lacks l D cI tt b iQ rQ (sayC z (sayMs z 1051 (z.1 4)) k) (z.1 4) hzQ.i3 hn6) (full_hC _) (full_nd _) ⟨rfl, rfl, ⟨Nat.le_of_ble_eq_true rfl, Nat.le_of_ble_eq_true rfl⟩, Nat.le_of_ble_eq_true rfl, Nat.le_of_ble_eq_true rfl⟩ wl_X4_87 wm_X4_lacks we_X4_lacks wi_X4 wc_X4_lacks (by decide +kernel) rfl 0 rfl rfl rfl rfl (Nat.le_of_ble_eq_true rfl) dX4_digest_56) (fun q_23 u_23 h_23 => ?_)
              refine z_ws (st' := [.int q_23]) (ws' := (mW cI b iQ rQ (sayC z (sayMs z 1051 (z.1 4)) k))) rfl rfl ?_
              refine z_seti (y := (b2 (decide (z.1 4 = 0)))) h_23 ?_
              refine z_if_ne C (pc := 59) (tgt := 89) dX4_digest_59 (by decide) (fun c_24 => ?_) (fun c_24 => ?_)
              · have hn0 : z.1 4 = 0 := of_decide_eq_true (b2_t c_24)
                have hk0 := hkz hn0
                refine z_ws (st' := []) (ws' := (mW cI b iQ rQ (sayC z (sayMs z 1051 (z.1 4)) 0))) (by rw [hk0]) rfl ?_
                refine z_aload_n C (pc := 89) dX4_digest_89 rfl ?_
                refine z_calliF C (by exact fun _ => mW_ad) (runV C (wc := (mW cI b iQ rQ (sayC z (sayMs z 1051 (z.1 4)) 0))) (pc := 90) (rY' := rm 0 0) (nn := 0) (As := []) (rest := []) (m_lacks l D cI tt b iQ rQ (sayC z (sayMs z 1051 (z.1 4)) 0) (z.1 4) hzQ.i3 hn6) (full_hC _) (full_nd _) ⟨rfl, rfl, ⟨Nat.le_of_ble_eq_true rfl, Nat.le_of_ble_eq_true rfl⟩, Nat.le_of_ble_eq_true rfl, Nat.le_of_ble_eq_true rfl⟩ wl_X4_87 wm_X4_lacks we_X4_lacks wi_X4 wc_X4_lacks (by decide +kernel) rfl 0 rfl rfl rfl rfl (Nat.le_of_ble_eq_true rfl) dX4_digest_90) (fun q_25 u_25 h_25 => ?_)
                refine z_ws (st' := [.int q_25]) (ws' := (mW cI b iQ rQ (sayC z (sayMs z 1051 (z.1 4)) 0))) rfl rfl ?_
                refine z_seti (y := (b2 (decide (z.1 4 = 0)))) h_25 ?_
                refine z_if_ne C (pc := 93) (tgt := 106) dX4_digest_93 (by decide) (fun c_26 => ?_) (fun c_26 => ?_)
                · have hm0 : z.1 4 = 0 := of_decide_eq_true (b2_t c_26)
                  refine z_ws (st' := []) (ws' := (mW cI b iQ rQ (sayCs z (sayMs z 1051 (z.1 4))))) (by rw [sayCs_0 hn0]; first | done | rfl) rfl ?_
                  refine z_lv (lv' := [(0, .ref (b 0))]) ⟨rfl, trivial⟩ ?_
                  exact join106 iQ rQ hzQ
                · have hm0 : z.1 4 ≠ 0 := of_decide_eq_false (b2_f c_26)
                  exact absurd hn0 hm0
              · have hn0 : z.1 4 ≠ 0 := of_decide_eq_false (b2_f c_24)
                refine z_aload_n C (pc := 62) dX4_digest_62 rfl ?_
                refine z_aload_n C (pc := 63) dX4_digest_63 rfl ?_
                refine z_get C (pc := 64) 0 rfl rfl wf_X4 9 (by decide) rfl wl_X4_16 (v := .ref (b 3)) rfl dX4_digest_64 ?_
                refine z_iload_n C (pc := 67) dX4_digest_67 rfl ?_
                have h_27 : vp_in (nI q) 7 := by exact vp_in_nI (by omega) (by decide)
                refine z_iald C (pc := 68) 3 rfl h_27 dX4_digest_68 ?_
                refine z_seti (y := nI (z.2.1 2 k)) (by rw [nI_clamp (by omega), hq]; exact hzQ.2.1.2.2.1 k hk) ?_
                refine z_i2l C (pc := 69) dX4_digest_69 ?_
                refine z_callvF C (by exact fun _ => mW_ad) (runV C (wc := (mW cI b iQ rQ (sayC z (sayMs z 1051 (z.1 4)) k))) (pc := 70) (rY' := rm 0 0) (nn := 1) (As := [.long ((nI (z.2.1 2 k)).toInt64)]) (rest := []) (m_say l D cI tt b iQ rQ (sayC z (sayMs z 1051 (z.1 4)) k) ((nI (z.2.1 2 k)).toInt64)) (full_hC _) (full_nd _) ⟨rfl, rfl, ⟨Nat.le_of_ble_eq_true rfl, Nat.le_of_ble_eq_true rfl⟩, Nat.le_of_ble_eq_true rfl, Nat.le_of_ble_eq_true rfl⟩ wl_X4_245 wm_X4_say we_X4_say wi_X4 wc_X4_say (by decide +kernel) rfl 0 rfl rfl rfl rfl (Nat.le_of_ble_eq_true rfl) dX4_digest_70) (fun u_28 h_28 => ?_)
                refine z_ws (st' := []) (ws' := (mW cI b iQ rQ (31 * (sayC z (sayMs z 1051 (z.1 4)) k) + (nI (z.2.1 2 k)).toInt64))) rfl rfl ?_
                refine z_aload_n C (pc := 73) dX4_digest_73 rfl ?_
                refine z_aload_n C (pc := 74) dX4_digest_74 rfl ?_
                refine z_iload_n C (pc := 75) dX4_digest_75 rfl ?_
                refine z_calliF C (by exact fun _ => mW_ad) (runV C (wc := (mW cI b iQ rQ (31 * (sayC z (sayMs z 1051 (z.1 4)) k) + (nI (z.2.1 2 k)).toInt64))) (pc := 76) (rY' := rm 7 162) (nn := 1) (As := [.int (nI q)]) (rest := [.ref (b 0)]) (m_layOf l D cI tt b iQ rQ (31 * (sayC z (sayMs z 1051 (z.1 4)) k) + (nI (z.2.1 2 k)).toInt64) (z.2.1 1) (z.1 4) (hzQ.pv vz) (z.2.1 2) (hzQ.c vz) (z.1 8) (z.2.1 3) (z.2.1 4) (z.2.1 5) (z.2.1 6) (hzQ.hv vz) q (by omega) (by omega)) (full_hC _) (full_nd _) ⟨rfl, rfl, ⟨Nat.le_of_ble_eq_true rfl, Nat.le_of_ble_eq_true rfl⟩, Nat.le_of_ble_eq_true rfl, Nat.le_of_ble_eq_true rfl⟩ wl_X4_111 wm_X4_layOf we_X4_layOf wi_X4 wc_X4_layOf (by decide +kernel) rfl 0 rfl rfl rfl rfl (Nat.le_of_ble_eq_true rfl) dX4_digest_76) (fun q_29 u_29 h_29 => ?_)
                obtain ⟨i29, r29⟩ := u_29
                try dsimp only at h_29
                obtain ⟨k0, k1, k2, k3⟩ := h_29
                have k0' : q_29 = nI (layS z (k + 1)) := by rw [← hq]; exact k0
                have hzQ2 := hzQ.sp k1 k2
                refine z_ws (st' := [.int q_29, .ref (b 0)]) (ws' := (mW cI b i29 r29 (31 * (sayC z (sayMs z 1051 (z.1 4)) k) + (nI (z.2.1 2 k)).toInt64))) rfl rfl ?_
                refine z_seti (y := (nI (layS z (k + 1)))) k0' ?_
                refine z_i2l C (pc := 79) dX4_digest_79 ?_
                refine z_callvF C (by exact fun _ => mW_ad) (runV C (wc := (mW cI b i29 r29 (31 * (sayC z (sayMs z 1051 (z.1 4)) k) + (nI (z.2.1 2 k)).toInt64))) (pc := 80) (rY' := rm 0 0) (nn := 1) (As := [.long ((nI (layS z (k + 1))).toInt64)]) (rest := []) (m_say l D cI tt b i29 r29 (31 * (sayC z (sayMs z 1051 (z.1 4)) k) + (nI (z.2.1 2 k)).toInt64) ((nI (layS z (k + 1))).toInt64)) (full_hC _) (full_nd _) ⟨rfl, rfl, ⟨Nat.le_of_ble_eq_true rfl, Nat.le_of_ble_eq_true rfl⟩, Nat.le_of_ble_eq_true rfl, Nat.le_of_ble_eq_true rfl⟩ wl_X4_245 wm_X4_say we_X4_say wi_X4 wc_X4_say (by decide +kernel) rfl 0 rfl rfl rfl rfl (Nat.le_of_ble_eq_true rfl) dX4_digest_80) (fun u_30 h_30 => ?_)
                refine z_ws (st' := []) (ws' := (mW cI b i29 r29 (31 * (31 * (sayC z (sayMs z 1051 (z.1 4)) k) + (nI (z.2.1 2 k)).toInt64) + (nI (layS z (k + 1))).toInt64))) rfl rfl ?_
                refine z_iinc C (pc := 83) (v := ((nI q) + 1)) (lv' := [(0, .ref (b 0)), (1, .int ((nI q) + 1))]) dX4_digest_83 rfl rfl (Nat.le_of_ble_eq_true rfl) rfl rfl ?_
                refine z_goto C (pc := 86) (tgt := 49) dX4_digest_86 (by decide) ?_
                refine z_ws (st' := []) (ws' := (mW cI b i29 r29 (sayC z (sayMs z 1051 (z.1 4)) (k + 1)))) (by rw [sayC_s]) rfl ?_
                refine z_lv (lv' := [(0, .ref (b 0)), (1, .int (nI (q + 1)))]) ⟨rfl, lki (nI_1 q), trivial⟩ ?_
                exact ih49 (k + 1) (q + 1) i29 r29 (by omega) (by omega) hk (fun e => absurd e hn0) hzQ2
        refine z_ws (st' := []) (ws' := (mW cI b iM rM (sayC z (sayMs z 1051 (z.1 4)) 0))) (rfl) rfl ?_
        refine z_lv (lv' := [(0, .ref (b 0)), (1, .int (nI 1))]) ⟨rfl, rfl, trivial⟩ ?_
        exact key49 (_ + 1) 0 1 iM rM (Nat.lt_succ_self _) rfl (Nat.zero_le _) (fun _ => rfl) hzM
      · rw [hzM.i3] at c_17
        have hm : m < z.1 4 := lt_of_nI c_17 (by omega)
        refine z_iconst C (pc := 17) (v := 0) dX4_digest_17 (by decide) ?_
        refine z_istore_n C (pc := 18) (lv' := [(0, .ref (b 0)), (1, .int (nI m)), (2, .int 0)]) dX4_digest_18 (Nat.le_of_ble_eq_true rfl) rfl rfl ?_
        have key19 : ∀ (fu19 : Nat) (k : Nat) (iT : Nat → Int32) (rT : Nat → Nat → Int32), 5 - k < fu19 → (k ≤ 5) → (Mdl z iT rT) → Z pP l eE (rm 9 216) sS mM aV bB mE cC D AA 3 0 0 (MQ bB (va_Ql (S := ((Nat → Int32) × (Nat → Nat → Int32) × Int64)) (fun q u => q = digestF z ∧ Mdl z u.1 u.2.1) (fun u t => va_P D vwCl ((fun u => mW cI b u.1 u.2.1 u.2.2) u) t.heap) AA) aV sS 0 0 AA) 19 [(0, .ref (b 0)), (1, .int (nI m)), (2, .int (nI k))] [] (mW cI b iT rT (sayM z m (sayMs z 1051 m) k)) := by
          intro fu19
          induction fu19 with
          | zero => intro k iT rT hfu19; exact absurd hfu19 (Nat.not_lt_zero _)
          | succ fu19 ih19 =>
            intro k iT rT hfu19 hk5 hzT
            refine z_iload_n C (pc := 19) dX4_digest_19 rfl ?_
            refine z_iconst C (pc := 20) (v := 5) dX4_digest_20 (by decide) ?_
            refine z_icmp_ge C (pc := 21) (tgt := 41) dX4_digest_21 (by decide) (fun c_31 => ?_) (fun c_31 => ?_)
            · have hke : k = 5 := by
                have := ge_of_nI (n := 5) c_31 (by decide)
                omega
              subst hke
              refine z_lv (lv' := [(0, .ref (b 0)), (1, .int (nI m))]) ⟨rfl, rfl, trivial⟩ ?_
              refine z_iinc C (pc := 41) (v := ((nI m) + 1)) (lv' := [(0, .ref (b 0)), (1, .int ((nI m) + 1))]) dX4_digest_41 rfl rfl (Nat.le_of_ble_eq_true rfl) rfl rfl ?_
              refine z_goto C (pc := 44) (tgt := 9) dX4_digest_44 (by decide) ?_
              refine z_ws (st' := []) (ws' := (mW cI b iT rT (sayMs z 1051 (m + 1)))) (by rw [sayMs_s]) rfl ?_
              refine z_lv (lv' := [(0, .ref (b 0)), (1, .int (nI (m + 1)))]) ⟨rfl, lki (nI_1 m), trivial⟩ ?_
              exact ih9 (m + 1) iT rT (by omega) hm hzT
            · have hk : k < 5 := lt_of_nI (n := 5) c_31 (by omega)
              refine z_aload_n C (pc := 24) dX4_digest_24 rfl ?_
              refine z_aload_n C (pc := 25) dX4_digest_25 rfl ?_
              refine z_iload_n C (pc := 26) dX4_digest_26 rfl ?_
              refine z_iload_n C (pc := 27) dX4_digest_27 rfl ?_
              refine z_calliF C (by exact fun _ => mW_ad) (runV C (wc := (mW cI b iT rT (sayM z m (sayMs z 1051 m) k))) (pc := 28) (rY' := rm 1 21) (nn := 2) (As := [.int (nI m), .int (nI k)]) (rest := [.ref (b 0)]) (m_tellMember l D cI tt b iT rT (sayM z m (sayMs z 1051 m) k) z hzT vz m hm (nI k)) (full_hC _) (full_nd _) ⟨rfl, rfl, ⟨Nat.le_of_ble_eq_true rfl, Nat.le_of_ble_eq_true rfl⟩, Nat.le_of_ble_eq_true rfl, Nat.le_of_ble_eq_true rfl⟩ wl_X4_105 wm_X4_tellMember we_X4_tellMember wi_X4 wc_X4_tellMember (by decide +kernel) rfl 0 rfl rfl rfl rfl (Nat.le_of_ble_eq_true rfl) dX4_digest_28) (fun q_32 u_32 h_32 => ?_)
              refine z_ws (st' := [.int q_32, .ref (b 0)]) (ws' := (mW cI b iT rT (sayM z m (sayMs z 1051 m) k))) rfl rfl ?_
              refine z_seti (y := (tellF z m (nI k))) h_32 ?_
              refine z_i2l C (pc := 31) dX4_digest_31 ?_
              refine z_callvF C (by exact fun _ => mW_ad) (runV C (wc := (mW cI b iT rT (sayM z m (sayMs z 1051 m) k))) (pc := 32) (rY' := rm 0 0) (nn := 1) (As := [.long ((tellF z m (nI k)).toInt64)]) (rest := []) (m_say l D cI tt b iT rT (sayM z m (sayMs z 1051 m) k) ((tellF z m (nI k)).toInt64)) (full_hC _) (full_nd _) ⟨rfl, rfl, ⟨Nat.le_of_ble_eq_true rfl, Nat.le_of_ble_eq_true rfl⟩, Nat.le_of_ble_eq_true rfl, Nat.le_of_ble_eq_true rfl⟩ wl_X4_245 wm_X4_say we_X4_say wi_X4 wc_X4_say (by decide +kernel) rfl 0 rfl rfl rfl rfl (Nat.le_of_ble_eq_true rfl) dX4_digest_32) (fun u_33 h_33 => ?_)
              refine z_ws (st' := []) (ws' := (mW cI b iT rT (31 * (sayM z m (sayMs z 1051 m) k) + (tellF z m (nI k)).toInt64))) rfl rfl ?_
              refine z_iinc C (pc := 35) (v := ((nI k) + 1)) (lv' := [(0, .ref (b 0)), (1, .int (nI m)), (2, .int ((nI k) + 1))]) dX4_digest_35 rfl rfl (Nat.le_of_ble_eq_true rfl) rfl rfl ?_
              refine z_goto C (pc := 38) (tgt := 19) dX4_digest_38 (by decide) ?_
              refine z_ws (st' := []) (ws' := (mW cI b iT rT (sayM z m (sayMs z 1051 m) (k + 1)))) (by rw [sayM_s]) rfl ?_
              refine z_lv (lv' := [(0, .ref (b 0)), (1, .int (nI m)), (2, .int (nI (k + 1)))]) ⟨rfl, rfl, lki (nI_1 k), trivial⟩ ?_
              exact ih19 (k + 1) iT rT (by omega) hk hzT
        refine z_ws (st' := []) (ws' := (mW cI b iM rM (sayM z m (sayMs z 1051 m) 0))) (rfl) rfl ?_
        refine z_lv (lv' := [(0, .ref (b 0)), (1, .int (nI m)), (2, .int (nI 0))]) ⟨rfl, rfl, rfl, trivial⟩ ?_
        exact key19 (_ + 1) 0 iM rM (Nat.lt_succ_self _) (Nat.zero_le _) hzM
  refine z_ws (st' := []) (ws' := (mW cI b i r (sayMs z 1051 0))) (rfl) rfl ?_
  refine z_lv (lv' := [(0, .ref (b 0)), (1, .int (nI 0))]) ⟨rfl, rfl, trivial⟩ ?_
  exact key9 (_ + 1) 0 i r (Nat.lt_succ_self _) (Nat.zero_le _) hz
