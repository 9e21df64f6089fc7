set_option maxHeartbeats 4000000 in
set_option maxRecDepth 100000 in
theorem m_tellCairn (l : Launch) (D : va_G) (cI : ClassId) (tt : Nat × Nat × Nat) (b : Nat → Nat) (i : Nat → Int32) (r : Nat → Nat → Int32) (h : Int64) (z : SG) (hz : Mdl z i r) (vz : VS z) (q : Nat) (hq1 : 1 ≤ q) (hq6 : q < 6) (what : Int32) : MetI (S := ((Nat → Int32) × (Nat → Nat → Int32))) l yX4_tellCairn cX4_tellCairn 3 (some .int) (rm 9 216) D cI tt [.ref (b 0), .int (nI q), .int what] (mW cI b i r h) (fun y u => y = (if what = 0 then nI (z.2.1 2 (q - 1)) else if what = 1 then nI (layS z q) else if what = 2 then tryS z q else -102) ∧ Mdl z u.1 u.2) (fun u => mW cI b u.1 u.2 h) := by
  have hv := hz.pv vz
  have hc := hz.c vz
  have hh := hz.hv vz
  have hn6 := vz.2.2.2.1
  have hx6 := pow_le6 hn6
  have v3 := vz.2.2.1
  have v5 := vz.2.2.2.2.1
  have v8 := vz.2.2.2.2.2.1
  refine met_ofI (by decide) (Nat.le_of_ble_eq_true rfl) ?_
  intro pP eE sS mM aV bB mE cC AA C hin
  refine z_conv (lv' := [(0, .ref (b 0)), (1, .int (nI q)), (2, .int what)]) ⟨rfl, rfl, rfl, trivial⟩ rfl rfl ?_
  refine z_iload_n C (pc := 0) dX4_tellCairn_0 rfl ?_
  by_cases c_1 : what = 0
  · refine z_tableIn C (pc := 1) (tgt := 28) (off := 27) dX4_tellCairn_1 (by rw [c_1]; decide) (by rw [c_1]; decide) (by rw [c_1]; rfl) (by decide) ?_
    refine z_aload_n C (pc := 28) dX4_tellCairn_28 rfl ?_
    refine z_get C (pc := 29) 0 rfl rfl wf_X4 9 (by decide) rfl wl_X4_16 (v := .ref (b 3)) rfl dX4_tellCairn_29 ?_
    refine z_iload_n C (pc := 32) dX4_tellCairn_32 rfl ?_
    have h_2 : vp_in (nI q) 7 := by exact vp_in_nI (by omega) (by decide)
    refine z_iald C (pc := 33) 3 rfl h_2 dX4_tellCairn_33 ?_
    refine z_seti (y := (nI (z.2.1 2 (q - 1)))) (by rw [nI_clamp (by omega)]; exact hz.f hq1 hq6) ?_
    refine z_iret C (pc := 34) (i, r) dX4_tellCairn_34 ?_ rfl
    subst c_1
    exact ⟨rfl, hz⟩
  by_cases c_3 : what = 1
  · refine z_tableIn C (pc := 1) (tgt := 35) (off := 34) dX4_tellCairn_1 (by rw [c_3]; decide) (by rw [c_3]; decide) (by rw [c_3]; rfl) (by decide) ?_
    refine z_aload_n C (pc := 35) dX4_tellCairn_35 rfl ?_
    refine z_iload_n C (pc := 36) dX4_tellCairn_36 rfl ?_
    refine z_calliF C (by exact fun _ => mW_ad) (runV C (wc := (mW cI b i r h)) (pc := 37) (rY' := rm 7 162) (nn := 1) (As := [.int (nI q)]) (rest := []) (m_layOf l D cI tt b i r h (z.2.1 1) (z.1 4) hv (z.2.1 2) hc (z.1 8) (z.2.1 3) (z.2.1 4) (z.2.1 5) (z.2.1 6) hh q hq1 hq6) (full_hC _) (full_nd _) ⟨rfl, rfl, ⟨Nat.le_of_ble_eq_true rfl, Nat.le_of_ble_eq_true rfl⟩, Nat.le_of_ble_eq_true rfl, Nat.le_of_ble_eq_true rfl⟩ wl_X4_111 wm_X4_layOf we_X4_layOf wi_X4 wc_X4_layOf (by decide +kernel) rfl 0 rfl rfl rfl rfl (Nat.le_of_ble_eq_true rfl) dX4_tellCairn_37) (fun q_4 u_4 h_4 => ?_)
    obtain ⟨i4, r4⟩ := u_4
    try dsimp only at h_4
    obtain ⟨k0, k1, k2, k3⟩ := h_4
    have k0' : q_4 = nI (layS z q) := k0
    refine z_ws (st' := [.int q_4]) (ws' := (mW cI b i4 r4 h)) rfl rfl ?_
    refine z_seti (y := (nI (layS z q))) k0' ?_
    refine z_iret C (pc := 40) (i4, r4) dX4_tellCairn_40 ?_ rfl
    subst c_3
    exact ⟨rfl, hz.sp k1 k2⟩
  by_cases c_5 : what = 2
  · refine z_tableIn C (pc := 1) (tgt := 41) (off := 40) dX4_tellCairn_1 (by rw [c_5]; decide) (by rw [c_5]; decide) (by rw [c_5]; rfl) (by decide) ?_
    refine z_aload_n C (pc := 41) dX4_tellCairn_41 rfl ?_
    refine z_iload_n C (pc := 42) dX4_tellCairn_42 rfl ?_
    refine z_calliF C (by exact fun _ => mW_ad) (runV C (wc := (mW cI b i r h)) (pc := 43) (rY' := rm 8 188) (nn := 1) (As := [.int (nI q)]) (rest := []) (m_tryOf l D cI tt b i r h (z.2.1 1) (z.1 4) hv (z.2.1 2) hc (z.1 8) (z.2.1 3) (z.2.1 4) (z.2.1 5) (z.2.1 6) hh q hq1 hq6 (layS z q) rfl) (full_hC _) (full_nd _) ⟨rfl, rfl, ⟨Nat.le_of_ble_eq_true rfl, Nat.le_of_ble_eq_true rfl⟩, Nat.le_of_ble_eq_true rfl, Nat.le_of_ble_eq_true rfl⟩ wl_X4_114 wm_X4_tryOf we_X4_tryOf wi_X4 wc_X4_tryOf (by decide +kernel) rfl 0 rfl rfl rfl rfl (Nat.le_of_ble_eq_true rfl) dX4_tellCairn_43) (fun q_6 u_6 h_6 => ?_)
    obtain ⟨i6, r6⟩ := u_6
    try dsimp only at h_6
    obtain ⟨k0, k1, k2⟩ := h_6
    have k0' : q_6 = tryS z q := k0
    refine z_ws (st' := [.int q_6]) (ws' := (mW cI b i6 r6 h)) rfl rfl ?_
    refine z_seti (y := (tryS z q)) k0' ?_
    refine z_iret C (pc := 46) (i6, r6) dX4_tellCairn_46 ?_ rfl
    subst c_5
    exact ⟨rfl, hz.sp k1 k2⟩
  refine z_tableOut C (pc := 1) (tgt := 47) dX4_tellCairn_1 (by have q0 := lv_neT c_1 (a := 0) rfl; have q1 := lv_neT c_3 (a := 1) rfl; have q2 := lv_neT c_5 (a := 2) rfl; omega) (by decide) ?_
  refine z_bipush C (pc := 47) (v := (-102)) dX4_tellCairn_47 (by decide) ?_
  refine z_iret C (pc := 49) (i, r) dX4_tellCairn_49 ?_ rfl
  exact ⟨by simp [c_1, c_3, c_5], hz⟩

set_option maxHeartbeats 4000000 in
set_option maxRecDepth 100000 in
theorem m_cairn (l : Launch) (D : va_G) (cI : ClassId) (tt : Nat × Nat × Nat) (b : Nat → Nat) (i : Nat → Int32) (r : Nat → Nat → Int32) (h : Int64) (x what : Int32) (z : SG) (hz : Mdl z i r) (vz : VS z) : MetI (S := ((Nat → Int32) × (Nat → Nat → Int32))) l yX4_cairn cX4_cairn 3 (some .int) (rm 10 238) D cI tt [.ref (b 0), .int x, .int what] (mW cI b i r h) (fun q u => q = cairnF z x what ∧ Mdl z u.1 u.2) (fun u => mW cI b u.1 u.2 h) := by
  have hv := hz.pv vz
  have hc := hz.c vz
  have hh := hz.hv vz
  have hn6 := vz.2.2.2.1
  have hx6 := pow_le6 hn6
  have v3 := vz.2.2.1
  have v5 := vz.2.2.2.2.1
  have v8 := vz.2.2.2.2.2.1
  refine met_ofI (by decide) (Nat.le_of_ble_eq_true rfl) ?_
  intro pP eE sS mM aV bB mE cC AA C hin
  refine z_conv (lv' := [(0, .ref (b 0)), (1, .int x), (2, .int what)]) ⟨rfl, rfl, rfl, trivial⟩ rfl rfl ?_
  refine z_aload_n C (pc := 0) dX4_cairn_0 rfl ?_
  refine z_iload_n C (pc := 1) dX4_cairn_1 rfl ?_
  refine z_calliF C (by exact fun _ => mW_ad) (runV C (wc := (mW cI b i r h)) (pc := 2) (rY' := rm 1 25) (nn := 1) (As := [.int x]) (rest := []) (m_isCairn l D cI tt b i r h x (z.1 4) hz.i3 hn6) (full_hC _) (full_nd _) ⟨rfl, rfl, ⟨Nat.le_of_ble_eq_true rfl, Nat.le_of_ble_eq_true rfl⟩, Nat.le_of_ble_eq_true rfl, Nat.le_of_ble_eq_true rfl⟩ wl_X4_117 wm_X4_isCairn we_X4_isCairn wi_X4 wc_X4_isCairn (by decide +kernel) rfl 0 rfl rfl rfl rfl (Nat.le_of_ble_eq_true rfl) dX4_cairn_2) (fun q_1 u_1 h_1 => ?_)
  subst h_1
  refine z_ws (st' := [.int (b2 (!noCairn (z.1 4) x))]) (ws' := (mW cI b i r h)) rfl rfl ?_
  refine z_if_eq C (pc := 5) (tgt := 17) dX4_cairn_5 (by decide) (fun c_2 => ?_) (fun c_2 => ?_)
  · have hb : noCairn (z.1 4) x = true := b2n_t c_2
    refine z_bipush C (pc := 17) (v := (-101)) dX4_cairn_17 (by decide) ?_
    refine z_iret C (pc := 19) (i, r) dX4_cairn_19 ?_ rfl
    rw [show cairnF z x what = -101 from if_pos hb]
    exact ⟨rfl, hz⟩
  · have hb : noCairn (z.1 4) x = false := b2n_f c_2
    obtain ⟨hn0, q, hq1, hq6, hxq, htq⟩ := cairn_of hb
    subst hxq
    refine z_aload_n C (pc := 8) dX4_cairn_8 rfl ?_
    refine z_iload_n C (pc := 9) dX4_cairn_9 rfl ?_
    refine z_iload_n C (pc := 10) dX4_cairn_10 rfl ?_
    refine z_calliF C (by exact fun _ => mW_ad) (runV C (wc := (mW cI b i r h)) (pc := 11) (rY' := rm 9 216) (nn := 2) (As := [.int (nI q), .int what]) (rest := []) (m_tellCairn l D cI tt b i r h z hz vz q hq1 hq6 what) (full_hC _) (full_nd _) ⟨rfl, rfl, ⟨Nat.le_of_ble_eq_true rfl, Nat.le_of_ble_eq_true rfl⟩, Nat.le_of_ble_eq_true rfl, Nat.le_of_ble_eq_true rfl⟩ wl_X4_120 wm_X4_tellCairn we_X4_tellCairn wi_X4 wc_X4_tellCairn (by decide +kernel) rfl 0 rfl rfl rfl rfl (Nat.le_of_ble_eq_true rfl) dX4_cairn_11) (fun q_3 u_3 h_3 => ?_)
    obtain ⟨i3, r3⟩ := u_3
    try dsimp only at h_3
    obtain ⟨k0, k1⟩ := h_3
    refine z_ws (st' := [.int q_3]) (ws' := (mW cI b i3 r3 h)) rfl rfl ?_
    refine z_goto C (pc := 14) (tgt := 19) dX4_cairn_14 (by decide) ?_
    refine z_iret C (pc := 19) (i3, r3) dX4_cairn_19 ?_ rfl
    rw [show cairnF z (nI q) what = (if what = 0 then nI (z.2.1 2 (q - 1)) else if what = 1 then nI (layS z q) else if what = 2 then tryS z q else -102) from (if_neg (by rw [hb]; decide)).trans (by rw [htq])]
    exact ⟨k0, k1⟩

set_option maxHeartbeats 4000000 in
set_option maxRecDepth 100000 in
theorem m_lay (l : Launch) (D : va_G) (cI : ClassId) (tt : Nat × Nat × Nat) (b : Nat → Nat) (i : Nat → Int32) (r : Nat → Nat → Int32) (h : Int64) (x f : Int32) (z : SG) (hz : Mdl z i r) (vz : VS z) : MetI (S := ((Nat → Int32) × (Nat → Nat → Int32))) l yX4_lay cX4_lay 4 (some .int) (rm 2 46) D cI tt [.ref (b 0), .int x, .int f] (mW cI b i r h) (fun q u => q = (layF z x f).1 ∧ Mdl (layF z x f).2 u.1 u.2) (fun u => mW cI b u.1 u.2 h) := by
  have hv := hz.pv vz
  have hc := hz.c vz
  have hh := hz.hv vz
  have hn6 := vz.2.2.2.1
  have hx6 := pow_le6 hn6
  have v3 := vz.2.2.1
  have v5 := vz.2.2.2.2.1
  have v8 := vz.2.2.2.2.2.1
  refine met_ofI (by decide) (Nat.le_of_ble_eq_true rfl) ?_
  intro pP eE sS mM aV bB mE cC AA C hin
  refine z_conv (lv' := [(0, .ref (b 0)), (1, .int x), (2, .int f)]) ⟨rfl, rfl, rfl, trivial⟩ rfl rfl ?_
  refine z_aload_n C (pc := 0) dX4_lay_0 rfl ?_
  refine z_iload_n C (pc := 1) dX4_lay_1 rfl ?_
  refine z_calliF C (by exact fun _ => mW_ad) (runV C (wc := (mW cI b i r h)) (pc := 2) (rY' := rm 1 25) (nn := 1) (As := [.int x]) (rest := []) (m_isCairn l D cI tt b i r h x (z.1 4) hz.i3 hn6) (full_hC _) (full_nd _) ⟨rfl, rfl, ⟨Nat.le_of_ble_eq_true rfl, Nat.le_of_ble_eq_true rfl⟩, Nat.le_of_ble_eq_true rfl, Nat.le_of_ble_eq_true rfl⟩ wl_X4_117 wm_X4_isCairn we_X4_isCairn wi_X4 wc_X4_isCairn (by decide +kernel) rfl 0 rfl rfl rfl rfl (Nat.le_of_ble_eq_true rfl) dX4_lay_2) (fun q_1 u_1 h_1 => ?_)
  subst h_1
  refine z_ws (st' := [.int (b2 (!noCairn (z.1 4) x))]) (ws' := (mW cI b i r h)) rfl rfl ?_
  refine z_if_ne C (pc := 5) (tgt := 11) dX4_lay_5 (by decide) (fun c_2 => ?_) (fun c_2 => ?_)
  · have hb : noCairn (z.1 4) x = false := b2n_f c_2
    obtain ⟨hn0, q, hq1, hq6, hxq, htq⟩ := cairn_of hb
    subst hxq
    refine z_iload_n C (pc := 11) dX4_lay_11 rfl ?_
    refine z_i2l C (pc := 12) dX4_lay_12 ?_
    refine z_lconst C (pc := 13) (v := 0) dX4_lay_13 (by decide) ?_
    refine z_ldc2 C (pc := 14) (v := 9) wl_X4_123 dX4_lay_14 ?_
    refine z_calli C (isC := []) rfl (by exact fun _ => rfl) (runS C (wc := []) (pc := 17) (rY' := rm 0 0) (nn := 3) (As := [.long f.toInt64, .long 0, .long 9]) (rest := []) (m_in l D cI tt f.toInt64 0 9) rfl rfl ⟨rfl, rfl, ⟨Nat.le_of_ble_eq_true rfl, Nat.le_of_ble_eq_true rfl⟩, Nat.le_of_ble_eq_true rfl, Nat.le_of_ble_eq_true rfl⟩ wl_X4_43 ws_X4_in wi_X4 wc_X4_in (by decide +kernel) rfl rfl (Nat.le_of_ble_eq_true rfl) dX4_lay_17) (fun r_3 u_3 h_3 => ?_)
    subst h_3
    refine z_ws (st' := [.int (b2 (inb f.toInt64 0 9))]) (ws' := (mW cI b i r h)) rfl rfl ?_
    refine z_if_ne C (pc := 20) (tgt := 26) dX4_lay_20 (by decide) (fun c_4 => ?_) (fun c_4 => ?_)
    · rw [inl_9] at c_4
      have hP := inl_f c_4
      obtain ⟨fk, hfk, hff, htf⟩ := tn_of (x := f) (M := 9) (by decide) (fun e => hP (Or.inl e)) (Classical.not_not.mp (fun e => hP (Or.inr e)))
      subst hff
      refine z_aload_n C (pc := 26) dX4_lay_26 rfl ?_
      refine z_get C (pc := 27) 0 rfl rfl wf_X4 9 (by decide) rfl wl_X4_16 (v := .ref (b 3)) rfl dX4_lay_27 ?_
      refine z_iload_n C (pc := 30) dX4_lay_30 rfl ?_
      have h_5 : vp_in (nI q) 7 := by exact vp_in_nI (by omega) (by decide)
      refine z_iald C (pc := 31) 3 rfl h_5 dX4_lay_31 ?_
      refine z_seti (y := (nI (z.2.1 2 (q - 1)))) (by rw [nI_clamp (by omega)]; exact hz.f hq1 hq6) ?_
      refine z_istore_n C (pc := 32) (lv' := [(0, .ref (b 0)), (1, .int (nI q)), (2, .int (nI fk)), (3, .int (nI (z.2.1 2 (q - 1))))]) dX4_lay_32 (Nat.le_of_ble_eq_true rfl) rfl rfl ?_
      refine z_aload_n C (pc := 33) dX4_lay_33 rfl ?_
      refine z_get C (pc := 34) 0 rfl rfl wf_X4 9 (by decide) rfl wl_X4_16 (v := .ref (b 3)) rfl dX4_lay_34 ?_
      refine z_iload_n C (pc := 37) dX4_lay_37 rfl ?_
      refine z_iload_n C (pc := 38) dX4_lay_38 rfl ?_
      have h_6 : vp_in (nI q) 7 := by exact vp_in_nI (by omega) (by decide)
      refine z_iast C (pc := 39) 3 rfl h_6 (ws' := (mW cI b i (va_up r 2 (upd (r 2) (nI q).toNatClampNeg (nI fk))) h)) rfl dX4_lay_39 ?_
      refine z_iload_n C (pc := 40) dX4_lay_40 rfl ?_
      refine z_iret C (pc := 41) (i, (va_up r 2 (upd (r 2) (nI q).toNatClampNeg (nI fk)))) dX4_lay_41 ?_ rfl
      rw [show layF z (nI q) (nI fk) = (nI (z.2.1 2 (q - 1)), (z.1, va_up z.2.1 2 (upN (z.2.1 2) (q - 1) fk), z.2.2)) from (if_neg (by rw [hb]; decide)).trans ((if_neg hP).trans (by rw [htq, htf])), nI_clamp (by omega)]
      exact ⟨rfl, ml_lay hz hq1 hq6⟩
    · rw [inl_9] at c_4
      have hP := inl_t c_4
      refine z_bipush C (pc := 23) (v := (-102)) dX4_lay_23 (by decide) ?_
      refine z_iret C (pc := 25) (i, r) dX4_lay_25 ?_ rfl
      rw [show layF z (nI q) f = (-102, z) from (if_neg (by rw [hb]; decide)).trans (if_pos hP)]
      exact ⟨rfl, hz⟩
  · have hb : noCairn (z.1 4) x = true := b2n_t c_2
    refine z_bipush C (pc := 8) (v := (-101)) dX4_lay_8 (by decide) ?_
    refine z_iret C (pc := 10) (i, r) dX4_lay_10 ?_ rfl
    rw [show layF z x f = (-101, z) from if_pos hb]
    exact ⟨rfl, hz⟩
