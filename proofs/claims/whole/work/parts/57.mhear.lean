set_option maxHeartbeats 4000000 in
set_option maxRecDepth 100000 in
theorem m_hear (l : Launch) (D : va_G) (cI : ClassId) (tt : Nat × Nat × Nat) (b : Nat → Nat) (i : Nat → Int32) (r : Nat → Nat → Int32) (h : Int64) (x y f w : Int32) (z : SG) (hz : Mdl z i r) (vz : VS z) : MetI (S := ((Nat → Int32) × (Nat → Nat → Int32))) l yX4_hear cX4_hear 5 (some .int) (rm 3 69) D cI tt [.ref (b 0), .int x, .int y, .int f, .int w] (mW cI b i r h) (fun q u => q = (hearF z x y f w).1 ∧ Mdl (hearF z x y f w).2 u.1 u.2) (fun u => mW cI b u.1 u.2 h) := by
  have hv := hz.pv vz
  have hc := hz.c vz
  have hh := hz.hv vz
  have hn6 := vz.2.2.2.1
  have hx6 := pow_le6 hn6
  have v3 := vz.2.2.1
  have v5 := vz.2.2.2.2.1
  have v8 := vz.2.2.2.2.2.1
  refine met_ofI (by decide) (Nat.le_of_ble_eq_true rfl) ?_
  intro pP eE sS mM aV bB mE cC AA C hin
  refine z_conv (lv' := [(0, .ref (b 0)), (1, .int x), (2, .int y), (3, .int f), (4, .int w)]) ⟨rfl, rfl, rfl, rfl, rfl, trivial⟩ rfl rfl ?_
  refine z_aload_n C (pc := 0) dX4_hear_0 rfl ?_
  refine z_iload_n C (pc := 1) dX4_hear_1 rfl ?_
  refine z_iload_n C (pc := 2) dX4_hear_2 rfl ?_
  refine z_iload_n C (pc := 3) dX4_hear_3 rfl ?_
  refine z_calliF C (by exact fun _ => mW_ad) (runV C (wc := (mW cI b i r h)) (pc := 4) (rY' := rm 2 46) (nn := 3) (As := [.int x, .int y, .int f]) (rest := []) (m_isMarch l D cI tt b i r h x y f (z.1 4) hz.i3 hn6) (full_hC _) (full_nd _) ⟨rfl, rfl, ⟨Nat.le_of_ble_eq_true rfl, Nat.le_of_ble_eq_true rfl⟩, Nat.le_of_ble_eq_true rfl, Nat.le_of_ble_eq_true rfl⟩ wl_X4_170 wm_X4_isMarch we_X4_isMarch wi_X4 wc_X4_isMarch (by decide +kernel) rfl 0 rfl rfl rfl rfl (Nat.le_of_ble_eq_true rfl) dX4_hear_4) (fun q_1 u_1 h_1 => ?_)
  subst h_1
  refine z_ws (st' := [.int (b2 (!noMarch (z.1 4) x y f))]) (ws' := (mW cI b i r h)) rfl rfl ?_
  refine z_if_ne C (pc := 7) (tgt := 13) dX4_hear_7 (by decide) (fun c_2 => ?_) (fun c_2 => ?_)
  · have hb : noMarch (z.1 4) x y f = false := b2n_f c_2
    obtain ⟨hb1, hb2, hb3⟩ := march_of hb
    obtain ⟨xk, hx1, hx2, hxx, htx⟩ := people_of hn6 hb1
    obtain ⟨yk, hy1, hy2, hyy, hty⟩ := stage_of hb2
    obtain ⟨fk, hf1, hff, htf⟩ := food_of hb3
    subst hxx hyy hff
    refine z_aload_n C (pc := 13) dX4_hear_13 rfl ?_
    refine z_get C (pc := 14) 0 rfl rfl wf_X4 15 (by decide) rfl wl_X4_81 (v := .int (i 15)) rfl dX4_hear_14 ?_
    refine z_bipush C (pc := 17) (v := 6) dX4_hear_17 (by decide) ?_
    refine z_icmp_ne C (pc := 19) (tgt := 25) dX4_hear_19 (by decide) (fun c_3 => ?_) (fun c_3 => ?_)
    · rw [hz.i15] at c_3
      have h86 : z.1 8 < 6 := by
        have h0 : z.1 8 ≠ 6 := fun e => c_3 (by rw [e]; rfl)
        omega
      refine z_aload_n C (pc := 25) dX4_hear_25 rfl ?_
      refine z_get C (pc := 26) 0 rfl rfl wf_X4 16 (by decide) rfl wl_X4_22 (v := .ref (b 5)) rfl dX4_hear_26 ?_
      refine z_iconst C (pc := 29) (v := 4) dX4_hear_29 (by decide) ?_
      refine z_aload_n C (pc := 30) dX4_hear_30 rfl ?_
      refine z_get C (pc := 31) 0 rfl rfl wf_X4 15 (by decide) rfl wl_X4_81 (v := .int (i 15)) rfl dX4_hear_31 ?_
      refine z_imul C (pc := 34) dX4_hear_34 ?_
      refine z_seti (y := nI (4 * z.1 8)) (by rw [hz.i15]; exact four_nI _) ?_
      refine z_iload_n C (pc := 35) dX4_hear_35 rfl ?_
      have h_4 : vp_in (nI (4 * z.1 8)) 24 := by exact vp_in_nI (by omega) (by decide)
      refine z_iast C (pc := 36) 5 rfl h_4 (ws' := (mW cI b i (va_up r 4 (upd (r 4) (nI (4 * z.1 8)).toNatClampNeg (nI xk))) h)) rfl dX4_hear_36 ?_
      have kR1 : ∀ (R1 : Nat → Nat → Int32), (va_up r 4 (upd (r 4) (nI (4 * z.1 8)).toNatClampNeg (nI xk))) = R1 → Z pP l eE (rm 3 69) sS mM aV bB mE cC D AA 5 0 0 (MQ bB (va_Qi (S := ((Nat → Int32) × (Nat → Nat → Int32))) (fun q u => q = (hearF z (nI xk) (nI yk) (nI fk) w).1 ∧ Mdl (hearF z (nI xk) (nI yk) (nI fk) w).2 u.1 u.2) (fun u t => va_P D vwCl ((fun u => mW cI b u.1 u.2 h) u) t.heap) AA) aV sS 0 0 AA) 37 [(0, .ref (b 0)), (1, .int (nI xk)), (2, .int (nI yk)), (3, .int (nI fk)), (4, .int w)] [] (mW cI b i R1 h) := by
        intro R1 hR1
        refine z_aload_n C (pc := 37) dX4_hear_37 rfl ?_
        refine z_get C (pc := 38) 0 rfl rfl wf_X4 16 (by decide) rfl wl_X4_22 (v := .ref (b 5)) rfl dX4_hear_38 ?_
        refine z_iconst C (pc := 41) (v := 4) dX4_hear_41 (by decide) ?_
        refine z_aload_n C (pc := 42) dX4_hear_42 rfl ?_
        refine z_get C (pc := 43) 0 rfl rfl wf_X4 15 (by decide) rfl wl_X4_81 (v := .int (i 15)) rfl dX4_hear_43 ?_
        refine z_imul C (pc := 46) dX4_hear_46 ?_
        refine z_seti (y := nI (4 * z.1 8)) (by rw [hz.i15]; exact four_nI _) ?_
        refine z_iconst C (pc := 47) (v := 1) dX4_hear_47 (by decide) ?_
        refine z_iadd C (pc := 48) dX4_hear_48 ?_
        obtain ⟨m1, hm1⟩ : ∃ m, m = 4 * z.1 8 + 1 := ⟨_, rfl⟩
        refine z_seti (y := nI m1) (by rw [hm1]; exact nI_add _ 1) ?_
        refine z_iload_n C (pc := 49) dX4_hear_49 rfl ?_
        have h_5 : vp_in (nI m1) 24 := by exact vp_in_nI (by omega) (by decide)
        refine z_iast C (pc := 50) 5 rfl h_5 (ws' := (mW cI b i (va_up R1 4 (upd (R1 4) (nI m1).toNatClampNeg (nI yk))) h)) rfl dX4_hear_50 ?_
        have kR2 : ∀ (R2 : Nat → Nat → Int32), (va_up R1 4 (upd (R1 4) (nI m1).toNatClampNeg (nI yk))) = R2 → Z pP l eE (rm 3 69) sS mM aV bB mE cC D AA 5 0 0 (MQ bB (va_Qi (S := ((Nat → Int32) × (Nat → Nat → Int32))) (fun q u => q = (hearF z (nI xk) (nI yk) (nI fk) w).1 ∧ Mdl (hearF z (nI xk) (nI yk) (nI fk) w).2 u.1 u.2) (fun u t => va_P D vwCl ((fun u => mW cI b u.1 u.2 h) u) t.heap) AA) aV sS 0 0 AA) 51 [(0, .ref (b 0)), (1, .int (nI xk)), (2, .int (nI yk)), (3, .int (nI fk)), (4, .int w)] [] (mW cI b i R2 h) := by
          intro R2 hR2
          refine z_aload_n C (pc := 51) dX4_hear_51 rfl ?_
          refine z_get C (pc := 52) 0 rfl rfl wf_X4 16 (by decide) rfl wl_X4_22 (v := .ref (b 5)) rfl dX4_hear_52 ?_
          refine z_iconst C (pc := 55) (v := 4) dX4_hear_55 (by decide) ?_
          refine z_aload_n C (pc := 56) dX4_hear_56 rfl ?_
          refine z_get C (pc := 57) 0 rfl rfl wf_X4 15 (by decide) rfl wl_X4_81 (v := .int (i 15)) rfl dX4_hear_57 ?_
          refine z_imul C (pc := 60) dX4_hear_60 ?_
          refine z_seti (y := nI (4 * z.1 8)) (by rw [hz.i15]; exact four_nI _) ?_
          refine z_iconst C (pc := 61) (v := 2) dX4_hear_61 (by decide) ?_
          refine z_iadd C (pc := 62) dX4_hear_62 ?_
          obtain ⟨m2, hm2⟩ : ∃ m, m = 4 * z.1 8 + 2 := ⟨_, rfl⟩
          refine z_seti (y := nI m2) (by rw [hm2]; exact nI_add _ 2) ?_
          refine z_iload_n C (pc := 63) dX4_hear_63 rfl ?_
          have h_6 : vp_in (nI m2) 24 := by exact vp_in_nI (by omega) (by decide)
          refine z_iast C (pc := 64) 5 rfl h_6 (ws' := (mW cI b i (va_up R2 4 (upd (R2 4) (nI m2).toNatClampNeg (nI fk))) h)) rfl dX4_hear_64 ?_
          have kR3 : ∀ (R3 : Nat → Nat → Int32), (va_up R2 4 (upd (R2 4) (nI m2).toNatClampNeg (nI fk))) = R3 → Z pP l eE (rm 3 69) sS mM aV bB mE cC D AA 5 0 0 (MQ bB (va_Qi (S := ((Nat → Int32) × (Nat → Nat → Int32))) (fun q u => q = (hearF z (nI xk) (nI yk) (nI fk) w).1 ∧ Mdl (hearF z (nI xk) (nI yk) (nI fk) w).2 u.1 u.2) (fun u t => va_P D vwCl ((fun u => mW cI b u.1 u.2 h) u) t.heap) AA) aV sS 0 0 AA) 65 [(0, .ref (b 0)), (1, .int (nI xk)), (2, .int (nI yk)), (3, .int (nI fk)), (4, .int w)] [] (mW cI b i R3 h) := by
            intro R3 hR3
            refine z_aload_n C (pc := 65) dX4_hear_65 rfl ?_
            refine z_get C (pc := 66) 0 rfl rfl wf_X4 16 (by decide) rfl wl_X4_22 (v := .ref (b 5)) rfl dX4_hear_66 ?_
            refine z_iconst C (pc := 69) (v := 4) dX4_hear_69 (by decide) ?_
            refine z_aload_n C (pc := 70) dX4_hear_70 rfl ?_
            refine z_get C (pc := 71) 0 rfl rfl wf_X4 15 (by decide) rfl wl_X4_81 (v := .int (i 15)) rfl dX4_hear_71 ?_
            refine z_imul C (pc := 74) dX4_hear_74 ?_
            refine z_seti (y := nI (4 * z.1 8)) (by rw [hz.i15]; exact four_nI _) ?_
            refine z_iconst C (pc := 75) (v := 3) dX4_hear_75 (by decide) ?_
            refine z_iadd C (pc := 76) dX4_hear_76 ?_
            obtain ⟨m3, hm3⟩ : ∃ m, m = 4 * z.1 8 + 3 := ⟨_, rfl⟩
            refine z_seti (y := nI m3) (by rw [hm3]; exact nI_add _ 3) ?_
            refine z_iload C (pc := 77) dX4_hear_77 rfl ?_
            refine z_if_eq C (pc := 79) (tgt := 86) dX4_hear_79 (by decide) (fun c_7 => ?_) (fun c_7 => ?_)
            · have hw : (if w = 0 then 0 else 1) = 0 := if_pos c_7
              refine z_iconst C (pc := 86) (v := 0) dX4_hear_86 (by decide) ?_
              have h_8 : vp_in (nI m3) 24 := by exact vp_in_nI (by omega) (by decide)
              refine z_iast C (pc := 87) 5 rfl h_8 (ws' := (mW cI b i (va_up R3 4 (upd (R3 4) (nI m3).toNatClampNeg 0)) h)) rfl dX4_hear_87 ?_
              have kR4 : ∀ (R4 : Nat → Nat → Int32), (va_up R3 4 (upd (R3 4) (nI m3).toNatClampNeg 0)) = R4 → Z pP l eE (rm 3 69) sS mM aV bB mE cC D AA 5 0 0 (MQ bB (va_Qi (S := ((Nat → Int32) × (Nat → Nat → Int32))) (fun q u => q = (hearF z (nI xk) (nI yk) (nI fk) w).1 ∧ Mdl (hearF z (nI xk) (nI yk) (nI fk) w).2 u.1 u.2) (fun u t => va_P D vwCl ((fun u => mW cI b u.1 u.2 h) u) t.heap) AA) aV sS 0 0 AA) 88 [(0, .ref (b 0)), (1, .int (nI xk)), (2, .int (nI yk)), (3, .int (nI fk)), (4, .int w)] [] (mW cI b i R4 h) := by
                intro R4 hR4
                refine z_aload_n C (pc := 88) dX4_hear_88 rfl ?_
                refine z_dup C (pc := 89) dX4_hear_89 rfl ?_
                refine z_get C (pc := 90) 0 rfl rfl wf_X4 15 (by decide) rfl wl_X4_81 (v := .int (i 15)) rfl dX4_hear_90 ?_
                refine z_iconst C (pc := 93) (v := 1) dX4_hear_93 (by decide) ?_
                refine z_iadd C (pc := 94) dX4_hear_94 ?_
                refine z_put C (pc := 95) 0 rfl rfl wf_X4 15 (by decide) rfl tyX4 tyX4_ok nmX4 rfl rfl rfl (Nat.le_of_ble_eq_true rfl) (ws' := (mW cI b (upd i 15 ((i 15) + 1)) R4 h)) rfl wl_X4_81 dX4_hear_95 ?_
                refine z_aload_n C (pc := 98) dX4_hear_98 rfl ?_
                refine z_get C (pc := 99) 0 rfl rfl wf_X4 15 (by decide) rfl wl_X4_81 (v := .int ((i 15) + 1)) rfl dX4_hear_99 ?_
                refine z_iret C (pc := 102) ((upd i 15 ((i 15) + 1)), R4) dX4_hear_102 ?_ rfl
                rw [show hearF z (nI xk) (nI yk) (nI fk) w = (nI (z.1 8 + 1), (upG z.1 8 (z.1 8 + 1), hearW z xk yk fk 0, z.2.2)) from (if_neg (by rw [hb]; decide)).trans ((if_neg (by omega)).trans (by rw [htx, hty, htf, hw]))]
                exact ⟨by rw [hz.i15, nI_1], ml_hear hz (hn := 0) rfl (by dsimp only; rw [← hR4, vup_s, ← hR3, vup_s, ← hR2, vup_s, ← hR1, vup_s, nI_clamp (by omega), nI_clamp (by omega), nI_clamp (by omega), nI_clamp (by omega), hm1, hm2, hm3]; first | done | rfl) (fun k hk => by dsimp only; rw [← hR4, vup_n hk, ← hR3, vup_n hk, ← hR2, vup_n hk, ← hR1, vup_n hk])⟩
              exact kR4 _ rfl
            · have hw : (if w = 0 then 0 else 1) = 1 := if_neg c_7
              refine z_iconst C (pc := 82) (v := 1) dX4_hear_82 (by decide) ?_
              refine z_goto C (pc := 83) (tgt := 87) dX4_hear_83 (by decide) ?_
              have h_9 : vp_in (nI m3) 24 := by exact vp_in_nI (by omega) (by decide)
              refine z_iast C (pc := 87) 5 rfl h_9 (ws' := (mW cI b i (va_up R3 4 (upd (R3 4) (nI m3).toNatClampNeg 1)) h)) rfl dX4_hear_87 ?_
              have kR4 : ∀ (R4 : Nat → Nat → Int32), (va_up R3 4 (upd (R3 4) (nI m3).toNatClampNeg 1)) = R4 → Z pP l eE (rm 3 69) sS mM aV bB mE cC D AA 5 0 0 (MQ bB (va_Qi (S := ((Nat → Int32) × (Nat → Nat → Int32))) (fun q u => q = (hearF z (nI xk) (nI yk) (nI fk) w).1 ∧ Mdl (hearF z (nI xk) (nI yk) (nI fk) w).2 u.1 u.2) (fun u t => va_P D vwCl ((fun u => mW cI b u.1 u.2 h) u) t.heap) AA) aV sS 0 0 AA) 88 [(0, .ref (b 0)), (1, .int (nI xk)), (2, .int (nI yk)), (3, .int (nI fk)), (4, .int w)] [] (mW cI b i R4 h) := by
                intro R4 hR4
                refine z_aload_n C (pc := 88) dX4_hear_88 rfl ?_
                refine z_dup C (pc := 89) dX4_hear_89 rfl ?_
                refine z_get C (pc := 90) 0 rfl rfl wf_X4 15 (by decide) rfl wl_X4_81 (v := .int (i 15)) rfl dX4_hear_90 ?_
                refine z_iconst C (pc := 93) (v := 1) dX4_hear_93 (by decide) ?_
                refine z_iadd C (pc := 94) dX4_hear_94 ?_
                refine z_put C (pc := 95) 0 rfl rfl wf_X4 15 (by decide) rfl tyX4 tyX4_ok nmX4 rfl rfl rfl (Nat.le_of_ble_eq_true rfl) (ws' := (mW cI b (upd i 15 ((i 15) + 1)) R4 h)) rfl wl_X4_81 dX4_hear_95 ?_
                refine z_aload_n C (pc := 98) dX4_hear_98 rfl ?_
                refine z_get C (pc := 99) 0 rfl rfl wf_X4 15 (by decide) rfl wl_X4_81 (v := .int ((i 15) + 1)) rfl dX4_hear_99 ?_
                refine z_iret C (pc := 102) ((upd i 15 ((i 15) + 1)), R4) dX4_hear_102 ?_ rfl
                rw [show hearF z (nI xk) (nI yk) (nI fk) w = (nI (z.1 8 + 1), (upG z.1 8 (z.1 8 + 1), hearW z xk yk fk 1, z.2.2)) from (if_neg (by rw [hb]; decide)).trans ((if_neg (by omega)).trans (by rw [htx, hty, htf, hw]))]
                exact ⟨by rw [hz.i15, nI_1], ml_hear hz (hn := 1) rfl (by dsimp only; rw [← hR4, vup_s, ← hR3, vup_s, ← hR2, vup_s, ← hR1, vup_s, nI_clamp (by omega), nI_clamp (by omega), nI_clamp (by omega), nI_clamp (by omega), hm1, hm2, hm3]; first | done | rfl) (fun k hk => by dsimp only; rw [← hR4, vup_n hk, ← hR3, vup_n hk, ← hR2, vup_n hk, ← hR1, vup_n hk])⟩
              exact kR4 _ rfl
          exact kR3 _ rfl
        exact kR2 _ rfl
      exact kR1 _ rfl
    · rw [hz.i15] at c_3
      have h86 : z.1 8 = 6 := (nI_eq (b := 6) (by omega) (by decide)).mp c_3
      refine z_bipush C (pc := 22) (v := (-104)) dX4_hear_22 (by decide) ?_
      refine z_iret C (pc := 24) (i, r) dX4_hear_24 ?_ rfl
      rw [show hearF z (nI xk) (nI yk) (nI fk) w = (-104, z) from (if_neg (by rw [hb]; decide)).trans (if_pos (by omega))]
      exact ⟨rfl, hz⟩
  · have hb : noMarch (z.1 4) x y f = true := b2n_t c_2
    refine z_bipush C (pc := 10) (v := (-102)) dX4_hear_10 (by decide) ?_
    refine z_iret C (pc := 12) (i, r) dX4_hear_12 ?_ rfl
    rw [show hearF z x y f w = (-102, z) from if_pos hb]
    exact ⟨rfl, hz⟩
