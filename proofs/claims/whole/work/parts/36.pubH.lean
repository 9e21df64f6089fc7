set_option maxHeartbeats 4000000 in
set_option maxRecDepth 100000 in
theorem c_digest (l : Launch) (D : va_G) (cI : ClassId) (tt : Nat × Nat × Nat) (a : Nat → Nat) (i : Nat → Int32) (r : Nat → Nat → Int32) (z : SG) (hz : Cls z i r) (vz : VS z) : MetL (S := ((Nat → Int32) × (Nat → Nat → Int32))) l yX3_digest cX3_digest 5 (some .long) (rm 6 144) D cI tt [.ref (a 0)] (cW cI a i r) (fun q u => q = digestF z ∧ Cls z u.1 u.2) (fun u => cW cI a u.1 u.2) := by
  have hv := hz.pv vz
  have hc := hz.c vz
  have hh := hz.hv vz
  have hn6 := vz.2.2.2.1
  have hx6 := pow_le6 hn6
  refine met_ofL (by decide) (Nat.le_of_ble_eq_true rfl) ?_
  intro pP eE sS mM aV bB mE cC AA C hin
  refine z_conv (lv' := [(0, .ref (a 0))]) ⟨rfl, trivial⟩ rfl rfl ?_
  have join254 : ∀ (iJ : Nat → Int32) (rJ : Nat → Nat → Int32), (Cls z iJ rJ) → Z pP l eE (rm 6 144) sS mM aV bB mE cC D AA 5 0 0 (MQ bB (va_Ql (S := ((Nat → Int32) × (Nat → Nat → Int32))) (fun q u => q = digestF z ∧ Cls z u.1 u.2) (fun u t => va_P D vwCl ((fun u => cW cI a u.1 u.2) u) t.heap) AA) aV sS 0 0 AA) 254 [(0, .ref (a 0)), (1, .long (sayL z (sayCs z (sayMs z 1051 (z.1 4)))))] [] (cW cI a iJ rJ) := by
    intro iJ rJ hzJ
    refine z_iconst C (pc := 254) (v := 0) dX3_digest_254 (by decide) ?_
    refine z_istore_n C (pc := 255) (lv' := [(0, .ref (a 0)), (1, .long (sayL z (sayCs z (sayMs z 1051 (z.1 4))))), (3, .int 0)]) dX3_digest_255 (Nat.le_of_ble_eq_true rfl) rfl rfl ?_
    have key256 : ∀ (fu256 : Nat) (k : Nat) (iP : Nat → Int32) (rP : Nat → Nat → Int32), z.1 3 - k < fu256 → (k ≤ z.1 3) → (Cls z iP rP) → Z pP l eE (rm 6 144) sS mM aV bB mE cC D AA 5 0 0 (MQ bB (va_Ql (S := ((Nat → Int32) × (Nat → Nat → Int32))) (fun q u => q = digestF z ∧ Cls z u.1 u.2) (fun u t => va_P D vwCl ((fun u => cW cI a u.1 u.2) u) t.heap) AA) aV sS 0 0 AA) 256 [(0, .ref (a 0)), (1, .long (sayP z (sayL z (sayCs z (sayMs z 1051 (z.1 4)))) k)), (3, .int (nI k))] [] (cW cI a iP rP) := by
      intro fu256
      induction fu256 with
      | zero => intro k iP rP hfu256; exact absurd hfu256 (Nat.not_lt_zero _)
      | succ fu256 ih256 =>
        intro k iP rP hfu256 hk3 hzP
        refine z_iload_n C (pc := 256) dX3_digest_256 rfl ?_
        refine z_aload_n C (pc := 257) dX3_digest_257 rfl ?_
        refine z_get C (pc := 258) 0 rfl rfl wf_X3 0 (by decide) rfl wl_X3_10 (v := .ref (a 1)) rfl dX3_digest_258 ?_
        refine z_getN C (pc := 261) 1 rfl rfl wf_X0 1 (by decide) rfl wl_X3_41 (v := .int (iP 3)) rfl dX3_digest_261 ?_
        refine z_icmp_ge C (pc := 264) (tgt := 289) dX3_digest_264 (by decide) (fun c_1 => ?_) (fun c_1 => ?_)
        · rw [hzP.1.2.2.2.1] at c_1
          have hke : k = z.1 3 := by
            have := ge_of_nI c_1 (by have := vz.2.2.1; omega)
            omega
          subst hke
          refine z_lv (lv' := [(0, .ref (a 0)), (1, .long (sayP z (sayL z (sayCs z (sayMs z 1051 (z.1 4)))) (z.1 3)))]) ⟨rfl, rfl, trivial⟩ ?_
          refine z_iconst C (pc := 289) (v := 0) dX3_digest_289 (by decide) ?_
          refine z_istore_n C (pc := 290) (lv' := [(0, .ref (a 0)), (1, .long (sayP z (sayL z (sayCs z (sayMs z 1051 (z.1 4)))) (z.1 3))), (3, .int 0)]) dX3_digest_290 (Nat.le_of_ble_eq_true rfl) rfl rfl ?_
          have key291 : ∀ (fu291 : Nat) (k : Nat) (iN : Nat → Int32) (rN : Nat → Nat → Int32), 11 - k < fu291 → (k ≤ 11) → (Cls z iN rN) → Z pP l eE (rm 6 144) sS mM aV bB mE cC D AA 5 0 0 (MQ bB (va_Ql (S := ((Nat → Int32) × (Nat → Nat → Int32))) (fun q u => q = digestF z ∧ Cls z u.1 u.2) (fun u t => va_P D vwCl ((fun u => cW cI a u.1 u.2) u) t.heap) AA) aV sS 0 0 AA) 291 [(0, .ref (a 0)), (1, .long (sayN z (sayP z (sayL z (sayCs z (sayMs z 1051 (z.1 4)))) (z.1 3)) k)), (3, .int (nI k))] [] (cW cI a iN rN) := by
            intro fu291
            induction fu291 with
            | zero => intro k iN rN hfu291; exact absurd hfu291 (Nat.not_lt_zero _)
            | succ fu291 ih291 =>
              intro k iN rN hfu291 hk11 hzN
              refine z_iload_n C (pc := 291) dX3_digest_291 rfl ?_
              refine z_bipush C (pc := 292) (v := 10) dX3_digest_292 (by decide) ?_
              refine z_icmp_gt C (pc := 294) (tgt := 316) dX3_digest_294 (by decide) (fun c_2 => ?_) (fun c_2 => ?_)
              · refine z_lload_n C (pc := 316) dX3_digest_316 rfl ?_
                refine z_lret C (pc := 317) (iN, rN) dX3_digest_317 ?_ rfl
                have hke : k = 11 := by
                  have := Nat.lt_of_not_le (fun h => nI_nlt (a := 10) (b := k) h (by omega) c_2)
                  omega
                subst hke
                exact ⟨rfl, hzN⟩
              · have hk : k < 11 := by
                  have := Nat.le_of_not_lt (fun h => c_2 (nI_lt (a := 10) h (by omega)))
                  omega
                refine z_ldc2 C (pc := 297) (v := 31) wl_X3_197 dX3_digest_297 ?_
                refine z_lload_n C (pc := 300) dX3_digest_300 rfl ?_
                refine z_lmul C (pc := 301) dX3_digest_301 ?_
                refine z_aload_n C (pc := 302) dX3_digest_302 rfl ?_
                refine z_iload_n C (pc := 303) dX3_digest_303 rfl ?_
                refine z_calliF C (by exact fun _ => cW_ad) (runV C (wc := (cW cI a iN rN)) (pc := 304) (rY' := rm 2 45) (nn := 1) (As := [.int (nI k)]) (rest := [.long (31 * (sayN z (sayP z (sayL z (sayCs z (sayMs z 1051 (z.1 4)))) (z.1 3)) k))]) (c_count l D cI tt a iN rN (nI k) z hzN vz) (full_hC _) (full_nd _) ⟨rfl, rfl, ⟨Nat.le_of_ble_eq_true rfl, Nat.le_of_ble_eq_true rfl⟩, Nat.le_of_ble_eq_true rfl, Nat.le_of_ble_eq_true rfl⟩ wl_X3_206 wm_X3_count we_X3_count wi_X3 wc_X3_count (by decide +kernel) rfl 0 rfl rfl rfl rfl (Nat.le_of_ble_eq_true rfl) dX3_digest_304) (fun q_3 u_3 h_3 => ?_)
                obtain ⟨i3, r3⟩ := u_3
                try dsimp only at h_3
                obtain ⟨q0, q1⟩ := h_3
                have q0' : q_3 = nI (countN z k) := q0.trans (count_in hk)
                refine z_ws (st' := [.int q_3, .long (31 * (sayN z (sayP z (sayL z (sayCs z (sayMs z 1051 (z.1 4)))) (z.1 3)) k))]) (ws' := (cW cI a i3 r3)) rfl rfl ?_
                refine z_seti (y := (nI (countN z k))) q0' ?_
                refine z_i2l C (pc := 307) dX3_digest_307 ?_
                refine z_ladd C (pc := 308) dX3_digest_308 ?_
                refine z_lstore_n C (pc := 309) (lv' := [(0, .ref (a 0)), (1, .long ((31 * (sayN z (sayP z (sayL z (sayCs z (sayMs z 1051 (z.1 4)))) (z.1 3)) k)) + (nI (countN z k)).toInt64)), (3, .int (nI k))]) dX3_digest_309 (Nat.le_of_ble_eq_true rfl) rfl rfl ?_
                refine z_iinc C (pc := 310) (v := ((nI k) + 1)) (lv' := [(0, .ref (a 0)), (1, .long ((31 * (sayN z (sayP z (sayL z (sayCs z (sayMs z 1051 (z.1 4)))) (z.1 3)) k)) + (nI (countN z k)).toInt64)), (3, .int ((nI k) + 1))]) dX3_digest_310 rfl rfl (Nat.le_of_ble_eq_true rfl) rfl rfl ?_
                refine z_goto C (pc := 313) (tgt := 291) dX3_digest_313 (by decide) ?_
                refine z_lv (lv' := [(0, .ref (a 0)), (1, .long (sayN z (sayP z (sayL z (sayCs z (sayMs z 1051 (z.1 4)))) (z.1 3)) (k + 1))), (3, .int (nI (k + 1)))]) ⟨rfl, lkl (by rw [sayN_s]), lki (nI_1 k), trivial⟩ ?_
                exact ih291 (k + 1) i3 r3 (by omega) hk q1
          refine z_lv (lv' := [(0, .ref (a 0)), (1, .long (sayN z (sayP z (sayL z (sayCs z (sayMs z 1051 (z.1 4)))) (z.1 3)) 0)), (3, .int (nI 0))]) ⟨rfl, rfl, rfl, trivial⟩ ?_
          exact key291 (_ + 1) 0 iP rP (Nat.lt_succ_self _) (Nat.zero_le _) hzP
        · rw [hzP.1.2.2.2.1] at c_1
          have hk : k < z.1 3 := lt_of_nI c_1 (by have := vz.2.2.1; omega)
          refine z_ldc2 C (pc := 267) (v := 31) wl_X3_197 dX3_digest_267 ?_
          refine z_lload_n C (pc := 270) dX3_digest_270 rfl ?_
          refine z_lmul C (pc := 271) dX3_digest_271 ?_
          refine z_aload_n C (pc := 272) dX3_digest_272 rfl ?_
          refine z_get C (pc := 273) 0 rfl rfl wf_X3 0 (by decide) rfl wl_X3_10 (v := .ref (a 1)) rfl dX3_digest_273 ?_
          refine z_iload_n C (pc := 276) dX3_digest_276 rfl ?_
          refine z_calliF C (by exact fun _ => cW_ad) (runVN C (wc := (cW cI a iP rP)) (pc := 277) (rY' := rm 1 21) (nn := 1) (As := [.int (nI k)]) (rest := [.long (31 * (sayP z (sayL z (sayCs z (sayMs z 1051 (z.1 4)))) k))]) (c_codeAt l D cI tt a iP rP (nI k)) (full_hC _) (full_nd _) ⟨rfl, rfl, ⟨Nat.le_of_ble_eq_true rfl, Nat.le_of_ble_eq_true rfl⟩, Nat.le_of_ble_eq_true rfl, Nat.le_of_ble_eq_true rfl⟩ wl_X3_59 wm_X0_codeAt we_X0_codeAt wi_X0 wc_X0_codeAt (by decide +kernel) rfl 1 rfl rfl rfl rfl (Nat.le_of_ble_eq_true rfl) dX3_digest_277) (fun q_4 u_4 h_4 => ?_)
          have h_4 : q_4 = z.2.2 k := h_4.trans ((atv_nI (by have := vz.2.2.1; omega) (by decide)).trans (hzP.2.1.1 k hk))
          subst h_4
          refine z_ws (st' := [.int (z.2.2 k), .long (31 * (sayP z (sayL z (sayCs z (sayMs z 1051 (z.1 4)))) k))]) (ws' := (cW cI a iP rP)) rfl rfl ?_
          refine z_i2l C (pc := 280) dX3_digest_280 ?_
          refine z_ladd C (pc := 281) dX3_digest_281 ?_
          refine z_lstore_n C (pc := 282) (lv' := [(0, .ref (a 0)), (1, .long ((31 * (sayP z (sayL z (sayCs z (sayMs z 1051 (z.1 4)))) k)) + (z.2.2 k).toInt64)), (3, .int (nI k))]) dX3_digest_282 (Nat.le_of_ble_eq_true rfl) rfl rfl ?_
          refine z_iinc C (pc := 283) (v := ((nI k) + 1)) (lv' := [(0, .ref (a 0)), (1, .long ((31 * (sayP z (sayL z (sayCs z (sayMs z 1051 (z.1 4)))) k)) + (z.2.2 k).toInt64)), (3, .int ((nI k) + 1))]) dX3_digest_283 rfl rfl (Nat.le_of_ble_eq_true rfl) rfl rfl ?_
          refine z_goto C (pc := 286) (tgt := 256) dX3_digest_286 (by decide) ?_
          refine z_lv (lv' := [(0, .ref (a 0)), (1, .long (sayP z (sayL z (sayCs z (sayMs z 1051 (z.1 4)))) (k + 1))), (3, .int (nI (k + 1)))]) ⟨rfl, lkl (by rw [sayP_s]), lki (nI_1 k), trivial⟩ ?_
          exact ih256 (k + 1) iP rP (by omega) hk hzP
    refine z_lv (lv' := [(0, .ref (a 0)), (1, .long (sayP z (sayL z (sayCs z (sayMs z 1051 (z.1 4)))) 0)), (3, .int (nI 0))]) ⟨rfl, rfl, rfl, trivial⟩ ?_
    exact key256 (_ + 1) 0 iJ rJ (Nat.lt_succ_self _) (Nat.zero_le _) hzJ
  have join128 : ∀ (iK : Nat → Int32) (rK : Nat → Nat → Int32), (Cls z iK rK) → Z pP l eE (rm 6 144) sS mM aV bB mE cC D AA 5 0 0 (MQ bB (va_Ql (S := ((Nat → Int32) × (Nat → Nat → Int32))) (fun q u => q = digestF z ∧ Cls z u.1 u.2) (fun u t => va_P D vwCl ((fun u => cW cI a u.1 u.2) u) t.heap) AA) aV sS 0 0 AA) 128 [(0, .ref (a 0)), (1, .long (sayCs z (sayMs z 1051 (z.1 4))))] [] (cW cI a iK rK) := by
    intro iK rK hzK
    refine z_aload_n C (pc := 128) dX3_digest_128 rfl ?_
    refine z_get C (pc := 129) 0 rfl rfl wf_X3 2 (by decide) rfl wl_X3_26 (v := .ref (a 6)) rfl dX3_digest_129 ?_
    refine z_getN C (pc := 132) 6 rfl rfl wf_X2 0 (by decide) rfl wl_X3_100 (v := .int (iK 10)) rfl dX3_digest_132 ?_
    refine z_if_eq C (pc := 135) (tgt := 254) dX3_digest_135 (by decide) (fun c_5 => ?_) (fun c_5 => ?_)
    · rw [hzK.1.2.2.2.2.2.1] at c_5
      have hal0 : z.1 5 = 0 := nI_z (by have := vz.2.2.2.2.1; omega) c_5
      refine z_lv (lv' := [(0, .ref (a 0)), (1, .long (sayL z (sayCs z (sayMs z 1051 (z.1 4)))))]) ⟨rfl, lkl (by rw [sayL_0 hal0]), trivial⟩ ?_
      exact join254 iK rK hzK
    · rw [hzK.1.2.2.2.2.2.1] at c_5
      have hal0 : z.1 5 ≠ 0 := nI_nz c_5
      refine z_ldc2 C (pc := 138) (v := 31) wl_X3_197 dX3_digest_138 ?_
      refine z_lload_n C (pc := 141) dX3_digest_141 rfl ?_
      refine z_lmul C (pc := 142) dX3_digest_142 ?_
      refine z_aload_n C (pc := 143) dX3_digest_143 rfl ?_
      refine z_aload_n C (pc := 144) dX3_digest_144 rfl ?_
      refine z_get C (pc := 145) 0 rfl rfl wf_X3 2 (by decide) rfl wl_X3_26 (v := .ref (a 6)) rfl dX3_digest_145 ?_
      refine z_getN C (pc := 148) 6 rfl rfl wf_X2 0 (by decide) rfl wl_X3_100 (v := .int (iK 10)) rfl dX3_digest_148 ?_
      refine z_aload_n C (pc := 151) dX3_digest_151 rfl ?_
      refine z_get C (pc := 152) 0 rfl rfl wf_X3 2 (by decide) rfl wl_X3_26 (v := .ref (a 6)) rfl dX3_digest_152 ?_
      refine z_getN C (pc := 155) 6 rfl rfl wf_X2 1 (by decide) rfl wl_X3_77 (v := .ref (a 7)) rfl dX3_digest_155 ?_
      refine z_ws (st' := [.ref (a 7), .int (nI (z.1 5)), .ref (a 0), .long (31 * (sayCs z (sayMs z 1051 (z.1 4))))]) rfl (by rw [hzK.1.2.2.2.2.2.1]) ?_
      refine z_calliF C (by exact fun _ => cW_ad) (runV C (wc := (cW cI a iK rK)) (pc := 158) (rY' := rm 5 117) (nn := 2) (As := [.int (nI (z.1 5)), .ref (a 7)]) (rest := [.long (31 * (sayCs z (sayMs z 1051 (z.1 4))))]) (c_farthestN l D cI tt a iK rK (z.2.1 1) (z.1 4) (hzK.pv vz) (z.1 5) vz.2.2.2.2.1 (z.2.1 2) (hzK.c vz)) (full_hC _) (full_nd _) ⟨rfl, rfl, ⟨Nat.le_of_ble_eq_true rfl, Nat.le_of_ble_eq_true rfl⟩, Nat.le_of_ble_eq_true rfl, Nat.le_of_ble_eq_true rfl⟩ wl_X3_163 wm_X3_farthest we_X3_farthest wi_X3 wc_X3_farthest (by decide +kernel) rfl 0 rfl rfl rfl rfl (Nat.le_of_ble_eq_true rfl) dX3_digest_158) (fun q_6 u_6 h_6 => ?_)
      obtain ⟨i6, r6⟩ := u_6
      try dsimp only at h_6
      obtain ⟨f0, f1, f2⟩ := h_6
      have hzK1 := hzK.sp f1 f2
      refine z_ws (st' := [.int q_6, .long (31 * (sayCs z (sayMs z 1051 (z.1 4))))]) (ws' := (cW cI a i6 r6)) rfl rfl ?_
      refine z_seti (y := (nI (farv (z.2.1 1) (z.1 4) (z.1 5) (z.2.1 2)))) f0 ?_
      refine z_i2l C (pc := 161) dX3_digest_161 ?_
      refine z_ladd C (pc := 162) dX3_digest_162 ?_
      refine z_lstore_n C (pc := 163) (lv' := [(0, .ref (a 0)), (1, .long ((31 * (sayCs z (sayMs z 1051 (z.1 4)))) + (nI (farv (z.2.1 1) (z.1 4) (z.1 5) (z.2.1 2))).toInt64))]) dX3_digest_163 (Nat.le_of_ble_eq_true rfl) rfl rfl ?_
      refine z_ldc2 C (pc := 164) (v := 31) wl_X3_197 dX3_digest_164 ?_
      refine z_lload_n C (pc := 167) dX3_digest_167 rfl ?_
      refine z_lmul C (pc := 168) dX3_digest_168 ?_
      refine z_aload_n C (pc := 169) dX3_digest_169 rfl ?_
      refine z_aload_n C (pc := 170) dX3_digest_170 rfl ?_
      refine z_get C (pc := 171) 0 rfl rfl wf_X3 2 (by decide) rfl wl_X3_26 (v := .ref (a 6)) rfl dX3_digest_171 ?_
      refine z_getN C (pc := 174) 6 rfl rfl wf_X2 0 (by decide) rfl wl_X3_100 (v := .int (i6 10)) rfl dX3_digest_174 ?_
      refine z_iconst C (pc := 177) (v := 1) dX3_digest_177 (by decide) ?_
      refine z_aload_n C (pc := 178) dX3_digest_178 rfl ?_
      refine z_get C (pc := 179) 0 rfl rfl wf_X3 2 (by decide) rfl wl_X3_26 (v := .ref (a 6)) rfl dX3_digest_179 ?_
      refine z_getN C (pc := 182) 6 rfl rfl wf_X2 1 (by decide) rfl wl_X3_77 (v := .ref (a 7)) rfl dX3_digest_182 ?_
      refine z_ws (st' := [.ref (a 7), .int 1, .int (nI (z.1 5)), .ref (a 0), .long (31 * ((31 * (sayCs z (sayMs z 1051 (z.1 4)))) + (nI (farv (z.2.1 1) (z.1 4) (z.1 5) (z.2.1 2))).toInt64))]) rfl (by rw [hzK1.1.2.2.2.2.2.1]) ?_
      refine z_ws (st' := [.ref (a 7), .int (nI 1), .int (nI (z.1 5)), .ref (a 0), .long (31 * ((31 * (sayCs z (sayMs z 1051 (z.1 4)))) + (nI (farv (z.2.1 1) (z.1 4) (z.1 5) (z.2.1 2))).toInt64))]) rfl rfl ?_
      refine z_calliF C (by exact fun _ => cW_ad) (runV C (wc := (cW cI a i6 r6)) (pc := 185) (rY' := rm 4 92) (nn := 3) (As := [.int (nI (z.1 5)), .int (nI 1), .ref (a 7)]) (rest := [.long (31 * ((31 * (sayCs z (sayMs z 1051 (z.1 4)))) + (nI (farv (z.2.1 1) (z.1 4) (z.1 5) (z.2.1 2))).toInt64))]) (c_leastFoodN l D cI tt a i6 r6 (z.2.1 1) (z.1 4) (hzK1.pv vz) (z.1 5) 1 vz.2.2.2.2.1 (by decide) (z.2.1 2) (hzK1.c vz)) (full_hC _) (full_nd _) ⟨rfl, rfl, ⟨Nat.le_of_ble_eq_true rfl, Nat.le_of_ble_eq_true rfl⟩, Nat.le_of_ble_eq_true rfl, Nat.le_of_ble_eq_true rfl⟩ wl_X3_159 wm_X3_leastFood we_X3_leastFood wi_X3 wc_X3_leastFood (by decide +kernel) rfl 0 rfl rfl rfl rfl (Nat.le_of_ble_eq_true rfl) dX3_digest_185) (fun q_7 u_7 h_7 => ?_)
      obtain ⟨i7, r7⟩ := u_7
      try dsimp only at h_7
      obtain ⟨g20, g21, g22⟩ := h_7
      have hzK2 := hzK1.sp g21 g22
      refine z_ws (st' := [.int q_7, .long (31 * ((31 * (sayCs z (sayMs z 1051 (z.1 4)))) + (nI (farv (z.2.1 1) (z.1 4) (z.1 5) (z.2.1 2))).toInt64))]) (ws' := (cW cI a i7 r7)) rfl rfl ?_
      refine z_seti (y := (needv (z.2.1 1) (z.1 4) (z.1 5) 1 (z.2.1 2))) g20 ?_
      refine z_i2l C (pc := 188) dX3_digest_188 ?_
      refine z_ladd C (pc := 189) dX3_digest_189 ?_
      refine z_lstore_n C (pc := 190) (lv' := [(0, .ref (a 0)), (1, .long ((31 * ((31 * (sayCs z (sayMs z 1051 (z.1 4)))) + (nI (farv (z.2.1 1) (z.1 4) (z.1 5) (z.2.1 2))).toInt64)) + (needv (z.2.1 1) (z.1 4) (z.1 5) 1 (z.2.1 2)).toInt64))]) dX3_digest_190 (Nat.le_of_ble_eq_true rfl) rfl rfl ?_
      refine z_ldc2 C (pc := 191) (v := 31) wl_X3_197 dX3_digest_191 ?_
      refine z_lload_n C (pc := 194) dX3_digest_194 rfl ?_
      refine z_lmul C (pc := 195) dX3_digest_195 ?_
      refine z_aload_n C (pc := 196) dX3_digest_196 rfl ?_
      refine z_aload_n C (pc := 197) dX3_digest_197 rfl ?_
      refine z_get C (pc := 198) 0 rfl rfl wf_X3 2 (by decide) rfl wl_X3_26 (v := .ref (a 6)) rfl dX3_digest_198 ?_
      refine z_getN C (pc := 201) 6 rfl rfl wf_X2 0 (by decide) rfl wl_X3_100 (v := .int (i7 10)) rfl dX3_digest_201 ?_
      refine z_iconst C (pc := 204) (v := 4) dX3_digest_204 (by decide) ?_
      refine z_aload_n C (pc := 205) dX3_digest_205 rfl ?_
      refine z_get C (pc := 206) 0 rfl rfl wf_X3 2 (by decide) rfl wl_X3_26 (v := .ref (a 6)) rfl dX3_digest_206 ?_
      refine z_getN C (pc := 209) 6 rfl rfl wf_X2 1 (by decide) rfl wl_X3_77 (v := .ref (a 7)) rfl dX3_digest_209 ?_
      refine z_ws (st' := [.ref (a 7), .int 4, .int (nI (z.1 5)), .ref (a 0), .long (31 * ((31 * ((31 * (sayCs z (sayMs z 1051 (z.1 4)))) + (nI (farv (z.2.1 1) (z.1 4) (z.1 5) (z.2.1 2))).toInt64)) + (needv (z.2.1 1) (z.1 4) (z.1 5) 1 (z.2.1 2)).toInt64))]) rfl (by rw [hzK2.1.2.2.2.2.2.1]) ?_
      refine z_ws (st' := [.ref (a 7), .int (nI 4), .int (nI (z.1 5)), .ref (a 0), .long (31 * ((31 * ((31 * (sayCs z (sayMs z 1051 (z.1 4)))) + (nI (farv (z.2.1 1) (z.1 4) (z.1 5) (z.2.1 2))).toInt64)) + (needv (z.2.1 1) (z.1 4) (z.1 5) 1 (z.2.1 2)).toInt64))]) rfl rfl ?_
      refine z_calliF C (by exact fun _ => cW_ad) (runV C (wc := (cW cI a i7 r7)) (pc := 212) (rY' := rm 4 92) (nn := 3) (As := [.int (nI (z.1 5)), .int (nI 4), .ref (a 7)]) (rest := [.long (31 * ((31 * ((31 * (sayCs z (sayMs z 1051 (z.1 4)))) + (nI (farv (z.2.1 1) (z.1 4) (z.1 5) (z.2.1 2))).toInt64)) + (needv (z.2.1 1) (z.1 4) (z.1 5) 1 (z.2.1 2)).toInt64))]) (c_leastFoodN l D cI tt a i7 r7 (z.2.1 1) (z.1 4) (hzK2.pv vz) (z.1 5) 4 vz.2.2.2.2.1 (by decide) (z.2.1 2) (hzK2.c vz)) (full_hC _) (full_nd _) ⟨rfl, rfl, ⟨Nat.le_of_ble_eq_true rfl, Nat.le_of_ble_eq_true rfl⟩, Nat.le_of_ble_eq_true rfl, Nat.le_of_ble_eq_true rfl⟩ wl_X3_159 wm_X3_leastFood we_X3_leastFood wi_X3 wc_X3_leastFood (by decide +kernel) rfl 0 rfl rfl rfl rfl (Nat.le_of_ble_eq_true rfl) dX3_digest_212) (fun q_8 u_8 h_8 => ?_)
      obtain ⟨i8, r8⟩ := u_8
      try dsimp only at h_8
      obtain ⟨g30, g31, g32⟩ := h_8
      have hzK3 := hzK2.sp g31 g32
      refine z_ws (st' := [.int q_8, .long (31 * ((31 * ((31 * (sayCs z (sayMs z 1051 (z.1 4)))) + (nI (farv (z.2.1 1) (z.1 4) (z.1 5) (z.2.1 2))).toInt64)) + (needv (z.2.1 1) (z.1 4) (z.1 5) 1 (z.2.1 2)).toInt64))]) (ws' := (cW cI a i8 r8)) rfl rfl ?_
      refine z_seti (y := (needv (z.2.1 1) (z.1 4) (z.1 5) 4 (z.2.1 2))) g30 ?_
      refine z_i2l C (pc := 215) dX3_digest_215 ?_
      refine z_ladd C (pc := 216) dX3_digest_216 ?_
      refine z_lstore_n C (pc := 217) (lv' := [(0, .ref (a 0)), (1, .long ((31 * ((31 * ((31 * (sayCs z (sayMs z 1051 (z.1 4)))) + (nI (farv (z.2.1 1) (z.1 4) (z.1 5) (z.2.1 2))).toInt64)) + (needv (z.2.1 1) (z.1 4) (z.1 5) 1 (z.2.1 2)).toInt64)) + (needv (z.2.1 1) (z.1 4) (z.1 5) 4 (z.2.1 2)).toInt64))]) dX3_digest_217 (Nat.le_of_ble_eq_true rfl) rfl rfl ?_
      refine z_iconst C (pc := 218) (v := 0) dX3_digest_218 (by decide) ?_
      refine z_istore_n C (pc := 219) (lv' := [(0, .ref (a 0)), (1, .long ((31 * ((31 * ((31 * (sayCs z (sayMs z 1051 (z.1 4)))) + (nI (farv (z.2.1 1) (z.1 4) (z.1 5) (z.2.1 2))).toInt64)) + (needv (z.2.1 1) (z.1 4) (z.1 5) 1 (z.2.1 2)).toInt64)) + (needv (z.2.1 1) (z.1 4) (z.1 5) 4 (z.2.1 2)).toInt64)), (3, .int 0)]) dX3_digest_219 (Nat.le_of_ble_eq_true rfl) rfl rfl ?_
      have key220 : ∀ (fu220 : Nat) (k : Nat) (iW : Nat → Int32) (rW : Nat → Nat → Int32), 4 - k < fu220 → (k ≤ 4) → (Cls z iW rW) → Z pP l eE (rm 6 144) sS mM aV bB mE cC D AA 5 0 0 (MQ bB (va_Ql (S := ((Nat → Int32) × (Nat → Nat → Int32))) (fun q u => q = digestF z ∧ Cls z u.1 u.2) (fun u t => va_P D vwCl ((fun u => cW cI a u.1 u.2) u) t.heap) AA) aV sS 0 0 AA) 220 [(0, .ref (a 0)), (1, .long (sayW z (31 * (31 * (31 * (sayCs z (sayMs z 1051 (z.1 4))) + (nI (farv (z.2.1 1) (z.1 4) (z.1 5) (z.2.1 2))).toInt64) + (needv (z.2.1 1) (z.1 4) (z.1 5) 1 (z.2.1 2)).toInt64) + (needv (z.2.1 1) (z.1 4) (z.1 5) 4 (z.2.1 2)).toInt64) k)), (3, .int (nI k))] [] (cW cI a iW rW) := by
        intro fu220
        induction fu220 with
        | zero => intro k iW rW hfu220; exact absurd hfu220 (Nat.not_lt_zero _)
        | succ fu220 ih220 =>
          intro k iW rW hfu220 hk4 hzW
          refine z_iload_n C (pc := 220) dX3_digest_220 rfl ?_
          refine z_iconst C (pc := 221) (v := 3) dX3_digest_221 (by decide) ?_
          refine z_icmp_gt C (pc := 222) (tgt := 254) dX3_digest_222 (by decide) (fun c_9 => ?_) (fun c_9 => ?_)
          · have hke : k = 4 := by
              have := Nat.lt_of_not_le (fun h => nI_nlt (a := 3) (b := k) h (by omega) c_9)
              omega
            subst hke
            refine z_lv (lv' := [(0, .ref (a 0)), (1, .long (sayW z (31 * (31 * (31 * (sayCs z (sayMs z 1051 (z.1 4))) + (nI (farv (z.2.1 1) (z.1 4) (z.1 5) (z.2.1 2))).toInt64) + (needv (z.2.1 1) (z.1 4) (z.1 5) 1 (z.2.1 2)).toInt64) + (needv (z.2.1 1) (z.1 4) (z.1 5) 4 (z.2.1 2)).toInt64) 4))]) ⟨rfl, rfl, trivial⟩ ?_
            refine z_lv (lv' := [(0, .ref (a 0)), (1, .long (sayL z (sayCs z (sayMs z 1051 (z.1 4)))))]) ⟨rfl, lkl (by rw [sayL_1 hal0]), trivial⟩ ?_
            exact join254 iW rW hzW
          · have hk : k < 4 := by
              have := Nat.le_of_not_lt (fun h => c_9 (nI_lt (a := 3) h (by omega)))
              omega
            refine z_ldc2 C (pc := 225) (v := 31) wl_X3_197 dX3_digest_225 ?_
            refine z_lload_n C (pc := 228) dX3_digest_228 rfl ?_
            refine z_lmul C (pc := 229) dX3_digest_229 ?_
            refine z_aload_n C (pc := 230) dX3_digest_230 rfl ?_
            refine z_aload_n C (pc := 231) dX3_digest_231 rfl ?_
            refine z_get C (pc := 232) 0 rfl rfl wf_X3 2 (by decide) rfl wl_X3_26 (v := .ref (a 6)) rfl dX3_digest_232 ?_
            refine z_getN C (pc := 235) 6 rfl rfl wf_X2 0 (by decide) rfl wl_X3_100 (v := .int (iW 10)) rfl dX3_digest_235 ?_
            refine z_iconst C (pc := 238) (v := 5) dX3_digest_238 (by decide) ?_
            refine z_bipush C (pc := 239) (v := 12) dX3_digest_239 (by decide) ?_
            refine z_iload_n C (pc := 241) dX3_digest_241 rfl ?_
            refine z_ws (st' := [.int (nI k), .int 12, .int 5, .int (nI (z.1 5)), .ref (a 0), .long (31 * (sayW z (31 * (31 * (31 * (sayCs z (sayMs z 1051 (z.1 4))) + (nI (farv (z.2.1 1) (z.1 4) (z.1 5) (z.2.1 2))).toInt64) + (needv (z.2.1 1) (z.1 4) (z.1 5) 1 (z.2.1 2)).toInt64) + (needv (z.2.1 1) (z.1 4) (z.1 5) 4 (z.2.1 2)).toInt64) k))]) rfl (by rw [hzW.1.2.2.2.2.2.1]) ?_
            refine z_calliF C (by exact fun _ => cW_ad) (runV C (wc := (cW cI a iW rW)) (pc := 242) (rY' := rm 4 92) (nn := 4) (As := [.int (nI (z.1 5)), .int 5, .int 12, .int (nI k)]) (rest := [.long (31 * (sayW z (31 * (31 * (31 * (sayCs z (sayMs z 1051 (z.1 4))) + (nI (farv (z.2.1 1) (z.1 4) (z.1 5) (z.2.1 2))).toInt64) + (needv (z.2.1 1) (z.1 4) (z.1 5) 1 (z.2.1 2)).toInt64) + (needv (z.2.1 1) (z.1 4) (z.1 5) 4 (z.2.1 2)).toInt64) k))]) (c_would l D cI tt a iW rW (nI (z.1 5)) 5 12 (nI k) z hzW vz) (full_hC _) (full_nd _) ⟨rfl, rfl, ⟨Nat.le_of_ble_eq_true rfl, Nat.le_of_ble_eq_true rfl⟩, Nat.le_of_ble_eq_true rfl, Nat.le_of_ble_eq_true rfl⟩ wl_X3_202 wm_X3_would we_X3_would wi_X3 wc_X3_would (by decide +kernel) rfl 0 rfl rfl rfl rfl (Nat.le_of_ble_eq_true rfl) dX3_digest_242) (fun q_10 u_10 h_10 => ?_)
            obtain ⟨i10, r10⟩ := u_10
            try dsimp only at h_10
            obtain ⟨q0, q1⟩ := h_10
            have q0' : q_10 = tellM (marS z (z.1 5) 5 12) (nI k) := q0.trans (would_in vz hal0 hk)
            refine z_ws (st' := [.int q_10, .long (31 * (sayW z (31 * (31 * (31 * (sayCs z (sayMs z 1051 (z.1 4))) + (nI (farv (z.2.1 1) (z.1 4) (z.1 5) (z.2.1 2))).toInt64) + (needv (z.2.1 1) (z.1 4) (z.1 5) 1 (z.2.1 2)).toInt64) + (needv (z.2.1 1) (z.1 4) (z.1 5) 4 (z.2.1 2)).toInt64) k))]) (ws' := (cW cI a i10 r10)) rfl rfl ?_
            refine z_seti (y := (tellM (marS z (z.1 5) 5 12) (nI k))) q0' ?_
            refine z_i2l C (pc := 245) dX3_digest_245 ?_
            refine z_ladd C (pc := 246) dX3_digest_246 ?_
            refine z_lstore_n C (pc := 247) (lv' := [(0, .ref (a 0)), (1, .long ((31 * (sayW z (31 * (31 * (31 * (sayCs z (sayMs z 1051 (z.1 4))) + (nI (farv (z.2.1 1) (z.1 4) (z.1 5) (z.2.1 2))).toInt64) + (needv (z.2.1 1) (z.1 4) (z.1 5) 1 (z.2.1 2)).toInt64) + (needv (z.2.1 1) (z.1 4) (z.1 5) 4 (z.2.1 2)).toInt64) k)) + (tellM (marS z (z.1 5) 5 12) (nI k)).toInt64)), (3, .int (nI k))]) dX3_digest_247 (Nat.le_of_ble_eq_true rfl) rfl rfl ?_
            refine z_iinc C (pc := 248) (v := ((nI k) + 1)) (lv' := [(0, .ref (a 0)), (1, .long ((31 * (sayW z (31 * (31 * (31 * (sayCs z (sayMs z 1051 (z.1 4))) + (nI (farv (z.2.1 1) (z.1 4) (z.1 5) (z.2.1 2))).toInt64) + (needv (z.2.1 1) (z.1 4) (z.1 5) 1 (z.2.1 2)).toInt64) + (needv (z.2.1 1) (z.1 4) (z.1 5) 4 (z.2.1 2)).toInt64) k)) + (tellM (marS z (z.1 5) 5 12) (nI k)).toInt64)), (3, .int ((nI k) + 1))]) dX3_digest_248 rfl rfl (Nat.le_of_ble_eq_true rfl) rfl rfl ?_
            refine z_goto C (pc := 251) (tgt := 220) dX3_digest_251 (by decide) ?_
            refine z_lv (lv' := [(0, .ref (a 0)), (1, .long (sayW z (31 * (31 * (31 * (sayCs z (sayMs z 1051 (z.1 4))) + (nI (farv (z.2.1 1) (z.1 4) (z.1 5) (z.2.1 2))).toInt64) + (needv (z.2.1 1) (z.1 4) (z.1 5) 1 (z.2.1 2)).toInt64) + (needv (z.2.1 1) (z.1 4) (z.1 5) 4 (z.2.1 2)).toInt64) (k + 1))), (3, .int (nI (k + 1)))]) ⟨rfl, lkl (by rw [sayW_s]), lki (nI_1 k), trivial⟩ ?_
            exact ih220 (k + 1) i10 r10 (by omega) hk q1
      refine z_lv (lv' := [(0, .ref (a 0)), (1, .long (sayW z (31 * (31 * (31 * (sayCs z (sayMs z 1051 (z.1 4))) + (nI (farv (z.2.1 1) (z.1 4) (z.1 5) (z.2.1 2))).toInt64) + (needv (z.2.1 1) (z.1 4) (z.1 5) 1 (z.2.1 2)).toInt64) + (needv (z.2.1 1) (z.1 4) (z.1 5) 4 (z.2.1 2)).toInt64) 0)), (3, .int (nI 0))]) ⟨rfl, rfl, rfl, trivial⟩ ?_
      exact key220 (_ + 1) 0 i8 r8 (Nat.lt_succ_self _) (Nat.zero_le _) hzK3
  refine z_ldc2 C (pc := 0) (v := 1051) wl_X3_195 dX3_digest_0 ?_
  refine z_lstore_n C (pc := 3) (lv' := [(0, .ref (a 0)), (1, .long 1051)]) dX3_digest_3 (Nat.le_of_ble_eq_true rfl) rfl rfl ?_
  refine z_iconst C (pc := 4) (v := 0) dX3_digest_4 (by decide) ?_
  refine z_istore_n C (pc := 5) (lv' := [(0, .ref (a 0)), (1, .long 1051), (3, .int 0)]) dX3_digest_5 (Nat.le_of_ble_eq_true rfl) rfl rfl ?_
  have key6 : ∀ (fu6 : Nat) (m : Nat) (iM : Nat → Int32) (rM : Nat → Nat → Int32), z.1 4 - m < fu6 → (m ≤ z.1 4) → (Cls z iM rM) → Z pP l eE (rm 6 144) sS mM aV bB mE cC D AA 5 0 0 (MQ bB (va_Ql (S := ((Nat → Int32) × (Nat → Nat → Int32))) (fun q u => q = digestF z ∧ Cls z u.1 u.2) (fun u t => va_P D vwCl ((fun u => cW cI a u.1 u.2) u) t.heap) AA) aV sS 0 0 AA) 6 [(0, .ref (a 0)), (1, .long (sayMs z 1051 m)), (3, .int (nI m))] [] (cW cI a iM rM) := by
    intro fu6
    induction fu6 with
    | zero => intro m iM rM hfu6; exact absurd hfu6 (Nat.not_lt_zero _)
    | succ fu6 ih6 =>
      intro m iM rM hfu6 hmn hzM
      refine z_iload_n C (pc := 6) dX3_digest_6 rfl ?_
      refine z_aload_n C (pc := 7) dX3_digest_7 rfl ?_
      refine z_get C (pc := 8) 0 rfl rfl wf_X3 1 (by decide) rfl wl_X3_19 (v := .ref (a 3)) rfl dX3_digest_8 ?_
      refine z_getN C (pc := 11) 3 rfl rfl wf_X1 1 (by decide) rfl wl_X3_53 (v := .int (iM 4)) rfl dX3_digest_11 ?_
      refine z_icmp_ge C (pc := 14) (tgt := 53) dX3_digest_14 (by decide) (fun c_11 => ?_) (fun c_11 => ?_)
      · rw [hzM.1.2.2.2.2.1] at c_11
        have hme : m = z.1 4 := by
          have := ge_of_nI c_11 (by omega)
          omega
        subst hme
        refine z_lv (lv' := [(0, .ref (a 0)), (1, .long (sayMs z 1051 (z.1 4)))]) ⟨rfl, rfl, trivial⟩ ?_
        refine z_aload_n C (pc := 53) dX3_digest_53 rfl ?_
        refine z_get C (pc := 54) 0 rfl rfl wf_X3 1 (by decide) rfl wl_X3_19 (v := .ref (a 3)) rfl dX3_digest_54 ?_
        refine z_getN C (pc := 57) 3 rfl rfl wf_X1 1 (by decide) rfl wl_X3_53 (v := .int (iM 4)) rfl dX3_digest_57 ?_
        refine z_if_le C (pc := 60) (tgt := 128) dX3_digest_60 (by decide) (fun c_12 => ?_) (fun c_12 => ?_)
        · rw [hzM.1.2.2.2.2.1] at c_12
          have hn0 : z.1 4 = 0 := by
            have := ge_of_nI (n := z.1 4) (j := 0) c_12 (by omega)
            omega
          refine z_lv (lv' := [(0, .ref (a 0)), (1, .long (sayCs z (sayMs z 1051 (z.1 4))))]) ⟨rfl, lkl (by rw [sayCs_0 hn0]), trivial⟩ ?_
          exact join128 iM rM hzM
        · rw [hzM.1.2.2.2.2.1] at c_12
          have hn0 : z.1 4 ≠ 0 := fun h => c_12 (by rw [h]; decide)
          refine z_iconst C (pc := 63) (v := 1) dX3_digest_63 (by decide) ?_
          refine z_istore_n C (pc := 64) (lv' := [(0, .ref (a 0)), (1, .long (sayMs z 1051 (z.1 4))), (3, .int 1)]) dX3_digest_64 (Nat.le_of_ble_eq_true rfl) rfl rfl ?_
          have key65 : ∀ (fu65 : Nat) (k : Nat) (iQ : Nat → Int32) (rQ : Nat → Nat → Int32), 5 - k < fu65 → (k ≤ 5) → (Cls z iQ rQ) → Z pP l eE (rm 6 144) sS mM aV bB mE cC D AA 5 0 0 (MQ bB (va_Ql (S := ((Nat → Int32) × (Nat → Nat → Int32))) (fun q u => q = digestF z ∧ Cls z u.1 u.2) (fun u t => va_P D vwCl ((fun u => cW cI a u.1 u.2) u) t.heap) AA) aV sS 0 0 AA) 65 [(0, .ref (a 0)), (1, .long (sayC z (sayMs z 1051 (z.1 4)) k)), (3, .int (nI (k + 1)))] [] (cW cI a iQ rQ) := by
            intro fu65
            induction fu65 with
            | zero => intro k iQ rQ hfu65; exact absurd hfu65 (Nat.not_lt_zero _)
            | succ fu65 ih65 =>
              intro k iQ rQ hfu65 hk5 hzQ
              refine z_iload_n C (pc := 65) dX3_digest_65 rfl ?_
              refine z_iconst C (pc := 66) (v := 5) dX3_digest_66 (by decide) ?_
              refine z_icmp_gt C (pc := 67) (tgt := 110) dX3_digest_67 (by decide) (fun c_13 => ?_) (fun c_13 => ?_)
              · have hke : k = 5 := by
                  have := Nat.lt_of_not_le (fun h => nI_nlt (a := 5) (b := k + 1) h (by omega) c_13)
                  omega
                subst hke
                refine z_lv (lv' := [(0, .ref (a 0)), (1, .long (sayC z (sayMs z 1051 (z.1 4)) 5))]) ⟨rfl, rfl, trivial⟩ ?_
                refine z_ldc2 C (pc := 110) (v := 31) wl_X3_197 dX3_digest_110 ?_
                refine z_lload_n C (pc := 113) dX3_digest_113 rfl ?_
                refine z_lmul C (pc := 114) dX3_digest_114 ?_
                refine z_aload_n C (pc := 115) dX3_digest_115 rfl ?_
                refine z_iconst C (pc := 116) (v := 3) dX3_digest_116 (by decide) ?_
                refine z_aload_n C (pc := 117) dX3_digest_117 rfl ?_
                refine z_iconst C (pc := 118) (v := 3) dX3_digest_118 (by decide) ?_
                refine z_calliF C (by exact fun _ => cW_ad) (runV C (wc := (cW cI a iQ rQ)) (pc := 119) (rY' := rm 5 117) (nn := 1) (As := [.int 3]) (rest := [.int 3, .ref (a 0), .long (31 * (sayC z (sayMs z 1051 (z.1 4)) 5))]) (c_amountsAt l D cI tt a iQ rQ (z.2.1 1) (z.1 4) (hzQ.pv vz) (z.2.1 2) (hzQ.c vz) (z.1 8) (z.2.1 3) (z.2.1 4) (z.2.1 5) (z.2.1 6) (hzQ.hv vz) 3 (by omega) (by omega)) (full_hC _) (full_nd _) ⟨rfl, rfl, ⟨Nat.le_of_ble_eq_true rfl, Nat.le_of_ble_eq_true rfl⟩, Nat.le_of_ble_eq_true rfl, Nat.le_of_ble_eq_true rfl⟩ wl_X3_110 wm_X3_amountsAt we_X3_amountsAt wi_X3 wc_X3_amountsAt (by decide +kernel) rfl 0 rfl rfl rfl rfl (Nat.le_of_ble_eq_true rfl) dX3_digest_119) (fun q_14 u_14 h_14 => ?_)
                obtain ⟨i14, r14⟩ := u_14
                try dsimp only at h_14
                obtain ⟨k0, k1, k2⟩ := h_14
                have k0' : q_14 = nI (layS z 3) := k0
                have hzQ2 := hzQ.sp k1 k2
                refine z_ws (st' := [.int q_14, .int 3, .ref (a 0), .long (31 * (sayC z (sayMs z 1051 (z.1 4)) 5))]) (ws' := (cW cI a i14 r14)) rfl rfl ?_
                refine z_seti (y := (nI (layS z 3))) k0' ?_
                refine z_calliF C (by exact fun _ => cW_ad) (runV C (wc := (cW cI a i14 r14)) (pc := 122) (rY' := rm 5 117) (nn := 2) (As := [.int 3, .int (nI (layS z 3))]) (rest := [.long (31 * (sayC z (sayMs z 1051 (z.1 4)) 5))]) (c_bestTrial l D cI tt a i14 r14 (z.2.1 1) (z.1 4) (hzQ2.pv vz) (z.2.1 2) (hzQ2.c vz) 3 (layS z 3) (by decide) (by decide) lay_lt) (full_hC _) (full_nd _) ⟨rfl, rfl, ⟨Nat.le_of_ble_eq_true rfl, Nat.le_of_ble_eq_true rfl⟩, Nat.le_of_ble_eq_true rfl, Nat.le_of_ble_eq_true rfl⟩ wl_X3_113 wm_X3_bestTrial we_X3_bestTrial wi_X3 wc_X3_bestTrial (by decide +kernel) rfl 0 rfl rfl rfl rfl (Nat.le_of_ble_eq_true rfl) dX3_digest_122) (fun q_15 u_15 h_15 => ?_)
                obtain ⟨i15, r15⟩ := u_15
                try dsimp only at h_15
                obtain ⟨j0, j1, j2⟩ := h_15
                have j0' : q_15 = tryS z 3 := j0
                have hzQ3 := hzQ2.sp j1 j2
                refine z_ws (st' := [.int q_15, .long (31 * (sayC z (sayMs z 1051 (z.1 4)) 5))]) (ws' := (cW cI a i15 r15)) rfl rfl ?_
                refine z_seti (y := (tryS z 3)) j0' ?_
                refine z_i2l C (pc := 125) dX3_digest_125 ?_
                refine z_ladd C (pc := 126) dX3_digest_126 ?_
                refine z_lstore_n C (pc := 127) (lv' := [(0, .ref (a 0)), (1, .long ((31 * (sayC z (sayMs z 1051 (z.1 4)) 5)) + (tryS z 3).toInt64))]) dX3_digest_127 (Nat.le_of_ble_eq_true rfl) rfl rfl ?_
                refine z_lv (lv' := [(0, .ref (a 0)), (1, .long (sayCs z (sayMs z 1051 (z.1 4))))]) ⟨rfl, lkl (by rw [sayCs_1 hn0]), trivial⟩ ?_
                exact join128 i15 r15 hzQ3
              · have hk : k < 5 := by
                  have := Nat.le_of_not_lt (fun h => c_13 (nI_lt (a := 5) (b := k + 1) h (by omega)))
                  omega
                refine z_ldc2 C (pc := 70) (v := 31) wl_X3_197 dX3_digest_70 ?_
                refine z_lload_n C (pc := 73) dX3_digest_73 rfl ?_
                refine z_lmul C (pc := 74) dX3_digest_74 ?_
                refine z_aload_n C (pc := 75) dX3_digest_75 rfl ?_
                refine z_get C (pc := 76) 0 rfl rfl wf_X3 2 (by decide) rfl wl_X3_26 (v := .ref (a 6)) rfl dX3_digest_76 ?_
                refine z_getN C (pc := 79) 6 rfl rfl wf_X2 1 (by decide) rfl wl_X3_77 (v := .ref (a 7)) rfl dX3_digest_79 ?_
                refine z_iload_n C (pc := 82) dX3_digest_82 rfl ?_
                refine z_iconst C (pc := 83) (v := 1) dX3_digest_83 (by decide) ?_
                refine z_isub C (pc := 84) dX3_digest_84 ?_
                refine z_calli C (isC := [7]) rfl (by exact fun _ => rfl) (runS C (wc := [(a 7, .inl (cI, 5, .inl (rQ 3)))]) (pc := 85) (rY' := rm 0 0) (nn := 2) (As := [.ref (a 7), .int ((nI (k + 1)) - 1)]) (rest := [.long (31 * (sayC z (sayMs z 1051 (z.1 4)) k))]) (c_at l D cI tt (a 7) 5 (rQ 3) ((nI (k + 1)) - 1) (by decide)) rfl rfl ⟨rfl, rfl, ⟨Nat.le_of_ble_eq_true rfl, Nat.le_of_ble_eq_true rfl⟩, Nat.le_of_ble_eq_true rfl, Nat.le_of_ble_eq_true rfl⟩ wl_X3_87 ws_X3_at wi_X3 wc_X3_at (by decide +kernel) rfl rfl (Nat.le_of_ble_eq_true rfl) dX3_digest_85) (fun r_16 u_16 h_16 => ?_)
                have h_16 : r_16 = (nI (z.2.1 2 k)) := h_16.trans ((at_c (q := k + 1) (by omega) (hzQ.c vz)).trans (by unfold cav; rw [if_neg (by omega), Nat.add_sub_cancel]))
                subst h_16
                refine z_ws (st' := [.int (nI (z.2.1 2 k)), .long (31 * (sayC z (sayMs z 1051 (z.1 4)) k))]) (ws' := (cW cI a iQ rQ)) rfl rfl ?_
                refine z_i2l C (pc := 88) dX3_digest_88 ?_
                refine z_ladd C (pc := 89) dX3_digest_89 ?_
                refine z_lstore_n C (pc := 90) (lv' := [(0, .ref (a 0)), (1, .long ((31 * (sayC z (sayMs z 1051 (z.1 4)) k)) + (nI (z.2.1 2 k)).toInt64)), (3, .int (nI (k + 1)))]) dX3_digest_90 (Nat.le_of_ble_eq_true rfl) rfl rfl ?_
                refine z_ldc2 C (pc := 91) (v := 31) wl_X3_197 dX3_digest_91 ?_
                refine z_lload_n C (pc := 94) dX3_digest_94 rfl ?_
                refine z_lmul C (pc := 95) dX3_digest_95 ?_
                refine z_aload_n C (pc := 96) dX3_digest_96 rfl ?_
                refine z_iload_n C (pc := 97) dX3_digest_97 rfl ?_
                refine z_calliF C (by exact fun _ => cW_ad) (runV C (wc := (cW cI a iQ rQ)) (pc := 98) (rY' := rm 5 117) (nn := 1) (As := [.int (nI (k + 1))]) (rest := [.long (31 * ((31 * (sayC z (sayMs z 1051 (z.1 4)) k)) + (nI (z.2.1 2 k)).toInt64))]) (c_amountsAt l D cI tt a iQ rQ (z.2.1 1) (z.1 4) (hzQ.pv vz) (z.2.1 2) (hzQ.c vz) (z.1 8) (z.2.1 3) (z.2.1 4) (z.2.1 5) (z.2.1 6) (hzQ.hv vz) (k + 1) (by omega) (by omega)) (full_hC _) (full_nd _) ⟨rfl, rfl, ⟨Nat.le_of_ble_eq_true rfl, Nat.le_of_ble_eq_true rfl⟩, Nat.le_of_ble_eq_true rfl, Nat.le_of_ble_eq_true rfl⟩ wl_X3_110 wm_X3_amountsAt we_X3_amountsAt wi_X3 wc_X3_amountsAt (by decide +kernel) rfl 0 rfl rfl rfl rfl (Nat.le_of_ble_eq_true rfl) dX3_digest_98) (fun q_17 u_17 h_17 => ?_)
                obtain ⟨i17, r17⟩ := u_17
                try dsimp only at h_17
                obtain ⟨k0, k1, k2⟩ := h_17
                have k0' : q_17 = nI (layS z (k + 1)) := k0
                have hzQ2 := hzQ.sp k1 k2
                refine z_ws (st' := [.int q_17, .long (31 * ((31 * (sayC z (sayMs z 1051 (z.1 4)) k)) + (nI (z.2.1 2 k)).toInt64))]) (ws' := (cW cI a i17 r17)) rfl rfl ?_
                refine z_seti (y := (nI (layS z (k + 1)))) k0' ?_
                refine z_i2l C (pc := 101) dX3_digest_101 ?_
                refine z_ladd C (pc := 102) dX3_digest_102 ?_
                refine z_lstore_n C (pc := 103) (lv' := [(0, .ref (a 0)), (1, .long ((31 * ((31 * (sayC z (sayMs z 1051 (z.1 4)) k)) + (nI (z.2.1 2 k)).toInt64)) + (nI (layS z (k + 1))).toInt64)), (3, .int (nI (k + 1)))]) dX3_digest_103 (Nat.le_of_ble_eq_true rfl) rfl rfl ?_
                refine z_iinc C (pc := 104) (v := ((nI (k + 1)) + 1)) (lv' := [(0, .ref (a 0)), (1, .long ((31 * ((31 * (sayC z (sayMs z 1051 (z.1 4)) k)) + (nI (z.2.1 2 k)).toInt64)) + (nI (layS z (k + 1))).toInt64)), (3, .int ((nI (k + 1)) + 1))]) dX3_digest_104 rfl rfl (Nat.le_of_ble_eq_true rfl) rfl rfl ?_
                refine z_goto C (pc := 107) (tgt := 65) dX3_digest_107 (by decide) ?_
                refine z_lv (lv' := [(0, .ref (a 0)), (1, .long (sayC z (sayMs z 1051 (z.1 4)) (k + 1))), (3, .int (nI ((k + 1) + 1)))]) ⟨rfl, lkl (by rw [sayC_s]), lki (nI_1 _), trivial⟩ ?_
                exact ih65 (k + 1) i17 r17 (by omega) hk hzQ2
          refine z_lv (lv' := [(0, .ref (a 0)), (1, .long (sayC z (sayMs z 1051 (z.1 4)) 0)), (3, .int (nI (0 + 1)))]) ⟨rfl, rfl, rfl, trivial⟩ ?_
          exact key65 (_ + 1) 0 iM rM (Nat.lt_succ_self _) (Nat.zero_le _) hzM
      · rw [hzM.1.2.2.2.2.1] at c_11
        have hm : m < z.1 4 := lt_of_nI c_11 (by omega)
        refine z_iconst C (pc := 17) (v := 0) dX3_digest_17 (by decide) ?_
        refine z_istore C (pc := 18) (lv' := [(0, .ref (a 0)), (1, .long (sayMs z 1051 m)), (3, .int (nI m)), (4, .int 0)]) dX3_digest_18 (Nat.le_of_ble_eq_true rfl) rfl rfl ?_
        have key20 : ∀ (fu20 : Nat) (k : Nat) (iT : Nat → Int32) (rT : Nat → Nat → Int32), 5 - k < fu20 → (k ≤ 5) → (Cls z iT rT) → Z pP l eE (rm 6 144) sS mM aV bB mE cC D AA 5 0 0 (MQ bB (va_Ql (S := ((Nat → Int32) × (Nat → Nat → Int32))) (fun q u => q = digestF z ∧ Cls z u.1 u.2) (fun u t => va_P D vwCl ((fun u => cW cI a u.1 u.2) u) t.heap) AA) aV sS 0 0 AA) 20 [(0, .ref (a 0)), (1, .long (sayM z m (sayMs z 1051 m) k)), (3, .int (nI m)), (4, .int (nI k))] [] (cW cI a iT rT) := by
          intro fu20
          induction fu20 with
          | zero => intro k iT rT hfu20; exact absurd hfu20 (Nat.not_lt_zero _)
          | succ fu20 ih20 =>
            intro k iT rT hfu20 hk5 hzT
            refine z_iload C (pc := 20) dX3_digest_20 rfl ?_
            refine z_iconst C (pc := 22) (v := 4) dX3_digest_22 (by decide) ?_
            refine z_icmp_gt C (pc := 23) (tgt := 47) dX3_digest_23 (by decide) (fun c_18 => ?_) (fun c_18 => ?_)
            · have hke : k = 5 := by
                have := Nat.lt_of_not_le (fun h => nI_nlt (a := 4) (b := k) h (by omega) c_18)
                omega
              subst hke
              refine z_lv (lv' := [(0, .ref (a 0)), (1, .long (sayM z m (sayMs z 1051 m) 5)), (3, .int (nI m))]) ⟨rfl, rfl, rfl, trivial⟩ ?_
              refine z_iinc C (pc := 47) (v := ((nI m) + 1)) (lv' := [(0, .ref (a 0)), (1, .long (sayM z m (sayMs z 1051 m) 5)), (3, .int ((nI m) + 1))]) dX3_digest_47 rfl rfl (Nat.le_of_ble_eq_true rfl) rfl rfl ?_
              refine z_goto C (pc := 50) (tgt := 6) dX3_digest_50 (by decide) ?_
              refine z_lv (lv' := [(0, .ref (a 0)), (1, .long (sayMs z 1051 (m + 1))), (3, .int (nI (m + 1)))]) ⟨rfl, lkl (by rw [sayMs_s]), lki (nI_1 m), trivial⟩ ?_
              exact ih6 (m + 1) iT rT (by omega) hm hzT
            · have hk : k < 5 := by
                have := Nat.le_of_not_lt (fun h => c_18 (nI_lt (a := 4) h (by omega)))
                omega
              refine z_ldc2 C (pc := 26) (v := 31) wl_X3_197 dX3_digest_26 ?_
              refine z_lload_n C (pc := 29) dX3_digest_29 rfl ?_
              refine z_lmul C (pc := 30) dX3_digest_30 ?_
              refine z_aload_n C (pc := 31) dX3_digest_31 rfl ?_
              refine z_iload_n C (pc := 32) dX3_digest_32 rfl ?_
              refine z_iload C (pc := 33) dX3_digest_33 rfl ?_
              refine z_calliF C (by exact fun _ => cW_ad) (runV C (wc := (cW cI a iT rT)) (pc := 35) (rY' := rm 1 21) (nn := 2) (As := [.int (nI m), .int (nI k)]) (rest := [.long (31 * (sayM z m (sayMs z 1051 m) k))]) (c_member l D cI tt a iT rT (nI m) (nI k) z hzT vz) (full_hC _) (full_nd _) ⟨rfl, rfl, ⟨Nat.le_of_ble_eq_true rfl, Nat.le_of_ble_eq_true rfl⟩, Nat.le_of_ble_eq_true rfl, Nat.le_of_ble_eq_true rfl⟩ wl_X3_199 wm_X3_member we_X3_member wi_X3 wc_X3_member (by decide +kernel) rfl 0 rfl rfl rfl rfl (Nat.le_of_ble_eq_true rfl) dX3_digest_35) (fun q_19 u_19 h_19 => ?_)
              obtain ⟨i19, r19⟩ := u_19
              try dsimp only at h_19
              obtain ⟨q0, q1⟩ := h_19
              have q0' : q_19 = tellF z m (nI k) := q0.trans (member_in vz hm (nI k))
              refine z_ws (st' := [.int q_19, .long (31 * (sayM z m (sayMs z 1051 m) k))]) (ws' := (cW cI a i19 r19)) rfl rfl ?_
              refine z_seti (y := (tellF z m (nI k))) q0' ?_
              refine z_i2l C (pc := 38) dX3_digest_38 ?_
              refine z_ladd C (pc := 39) dX3_digest_39 ?_
              refine z_lstore_n C (pc := 40) (lv' := [(0, .ref (a 0)), (1, .long ((31 * (sayM z m (sayMs z 1051 m) k)) + (tellF z m (nI k)).toInt64)), (3, .int (nI m)), (4, .int (nI k))]) dX3_digest_40 (Nat.le_of_ble_eq_true rfl) rfl rfl ?_
              refine z_iinc C (pc := 41) (v := ((nI k) + 1)) (lv' := [(0, .ref (a 0)), (1, .long ((31 * (sayM z m (sayMs z 1051 m) k)) + (tellF z m (nI k)).toInt64)), (3, .int (nI m)), (4, .int ((nI k) + 1))]) dX3_digest_41 rfl rfl (Nat.le_of_ble_eq_true rfl) rfl rfl ?_
              refine z_goto C (pc := 44) (tgt := 20) dX3_digest_44 (by decide) ?_
              refine z_lv (lv' := [(0, .ref (a 0)), (1, .long (sayM z m (sayMs z 1051 m) (k + 1))), (3, .int (nI m)), (4, .int (nI (k + 1)))]) ⟨rfl, lkl (by rw [sayM_s]), rfl, lki (nI_1 k), trivial⟩ ?_
              exact ih20 (k + 1) i19 r19 (by omega) hk q1
        refine z_lv (lv' := [(0, .ref (a 0)), (1, .long (sayM z m (sayMs z 1051 m) 0)), (3, .int (nI m)), (4, .int (nI 0))]) ⟨rfl, rfl, rfl, rfl, trivial⟩ ?_
        exact key20 (_ + 1) 0 iM rM (Nat.lt_succ_self _) (Nat.zero_le _) hzM
  refine z_lv (lv' := [(0, .ref (a 0)), (1, .long (sayMs z 1051 0)), (3, .int (nI 0))]) ⟨rfl, rfl, rfl, trivial⟩ ?_
  exact key6 (_ + 1) 0 i r (Nat.lt_succ_self _) (Nat.zero_le _) hz
