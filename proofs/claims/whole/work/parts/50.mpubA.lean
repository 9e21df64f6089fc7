set_option maxHeartbeats 4000000 in
set_option maxRecDepth 100000 in
theorem m_letter (l : Launch) (D : va_G) (cI : ClassId) (tt : Nat × Nat × Nat) (b : Nat → Nat) (i : Nat → Int32) (r : Nat → Nat → Int32) (h : Int64) (x : Int32) (z : SG) (hz : Mdl z i r) (vz : VS z) : MetI (S := ((Nat → Int32) × (Nat → Nat → Int32))) l yX4_letter cX4_letter 2 (some .int) (rm 1 25) D cI tt [.ref (b 0), .int x] (mW cI b i r h) (fun q u => q = (letterF z x).1 ∧ Mdl (letterF z x).2 u.1 u.2) (fun u => mW cI b u.1 u.2 h) := by
  have hv := hz.pv vz
  have hc := hz.c vz
  have hh := hz.hv vz
  have hn6 := vz.2.2.2.1
  have hx6 := pow_le6 hn6
  have v3 := vz.2.2.1
  have v5 := vz.2.2.2.2.1
  have v8 := vz.2.2.2.2.2.1
  refine met_ofI (by decide) (Nat.le_of_ble_eq_true rfl) ?_
  intro pP eE sS mM aV bB mE cC AA C hin
  refine z_conv (lv' := [(0, .ref (b 0)), (1, .int x)]) ⟨rfl, rfl, trivial⟩ rfl rfl ?_
  refine z_iload_n C (pc := 0) dX4_letter_0 rfl ?_
  refine z_i2l C (pc := 1) dX4_letter_1 ?_
  refine z_lconst C (pc := 2) (v := 1) dX4_letter_2 (by decide) ?_
  refine z_ldc2 C (pc := 3) (v := 126) wl_X4_41 dX4_letter_3 ?_
  refine z_calli C (isC := []) rfl (by exact fun _ => rfl) (runS C (wc := []) (pc := 6) (rY' := rm 0 0) (nn := 3) (As := [.long x.toInt64, .long 1, .long 126]) (rest := []) (m_in l D cI tt x.toInt64 1 126) rfl rfl ⟨rfl, rfl, ⟨Nat.le_of_ble_eq_true rfl, Nat.le_of_ble_eq_true rfl⟩, Nat.le_of_ble_eq_true rfl, Nat.le_of_ble_eq_true rfl⟩ wl_X4_43 ws_X4_in wi_X4 wc_X4_in (by decide +kernel) rfl rfl (Nat.le_of_ble_eq_true rfl) dX4_letter_6) (fun r_1 u_1 h_1 => ?_)
  subst h_1
  refine z_ws (st' := [.int (b2 (inb x.toInt64 1 126))]) (ws' := (mW cI b i r h)) rfl rfl ?_
  refine z_if_ne C (pc := 9) (tgt := 15) dX4_letter_9 (by decide) (fun c_2 => ?_) (fun c_2 => ?_)
  · rw [inl_126] at c_2
    have hP := inl_f c_2
    refine z_aload_n C (pc := 15) dX4_letter_15 rfl ?_
    refine z_get C (pc := 16) 0 rfl rfl wf_X4 1 (by decide) rfl wl_X4_47 (v := .int (i 1)) rfl dX4_letter_16 ?_
    refine z_bipush C (pc := 19) (v := 15) dX4_letter_19 (by decide) ?_
    refine z_icmp_ne C (pc := 21) (tgt := 27) dX4_letter_21 (by decide) (fun c_3 => ?_) (fun c_3 => ?_)
    · rw [hz.i1] at c_3
      have hF : z.1 3 < 15 := by
        have h0 : z.1 3 ≠ 15 := fun e => c_3 (by rw [e]; rfl)
        omega
      refine z_aload_n C (pc := 27) dX4_letter_27 rfl ?_
      refine z_get C (pc := 28) 0 rfl rfl wf_X4 0 (by decide) rfl wl_X4_7 (v := .ref (b 1)) rfl dX4_letter_28 ?_
      refine z_aload_n C (pc := 31) dX4_letter_31 rfl ?_
      refine z_get C (pc := 32) 0 rfl rfl wf_X4 1 (by decide) rfl wl_X4_47 (v := .int (i 1)) rfl dX4_letter_32 ?_
      refine z_iload_n C (pc := 35) dX4_letter_35 rfl ?_
      have h_4 : vp_in (i 1) 15 := by rw [hz.i1]; exact vp_in_nI hF (by decide)
      refine z_iast C (pc := 36) 1 rfl h_4 (ws' := (mW cI b i (va_up r 0 (upd (r 0) (i 1).toNatClampNeg x)) h)) rfl dX4_letter_36 ?_
      refine z_aload_n C (pc := 37) dX4_letter_37 rfl ?_
      refine z_dup C (pc := 38) dX4_letter_38 rfl ?_
      refine z_get C (pc := 39) 0 rfl rfl wf_X4 1 (by decide) rfl wl_X4_47 (v := .int (i 1)) rfl dX4_letter_39 ?_
      refine z_iconst C (pc := 42) (v := 1) dX4_letter_42 (by decide) ?_
      refine z_iadd C (pc := 43) dX4_letter_43 ?_
      refine z_put C (pc := 44) 0 rfl rfl wf_X4 1 (by decide) rfl tyX4 tyX4_ok nmX4 rfl rfl rfl (Nat.le_of_ble_eq_true rfl) (ws' := (mW cI b (upd i 1 ((i 1) + 1)) (va_up r 0 (upd (r 0) (i 1).toNatClampNeg x)) h)) rfl wl_X4_47 dX4_letter_44 ?_
      refine z_aload_n C (pc := 47) dX4_letter_47 rfl ?_
      refine z_get C (pc := 48) 0 rfl rfl wf_X4 1 (by decide) rfl wl_X4_47 (v := .int ((i 1) + 1)) rfl dX4_letter_48 ?_
      refine z_iret C (pc := 51) ((upd i 1 ((i 1) + 1)), (va_up r 0 (upd (r 0) (i 1).toNatClampNeg x))) dX4_letter_51 ?_ rfl
      rw [show letterF z x = (nI (z.1 3 + 1), (upG z.1 3 (z.1 3 + 1), z.2.1, upd z.2.2 (z.1 3) x)) from (if_neg hP).trans (if_neg (by omega))]
      exact ⟨by rw [hz.i1, nI_1], ml_letter hz hF⟩
    · rw [hz.i1] at c_3
      have hF : z.1 3 = 15 := (nI_eq (b := 15) (by omega) (by decide)).mp c_3
      refine z_bipush C (pc := 24) (v := (-104)) dX4_letter_24 (by decide) ?_
      refine z_iret C (pc := 26) (i, r) dX4_letter_26 ?_ rfl
      rw [show letterF z x = (-104, z) from (if_neg hP).trans (if_pos (by omega))]
      exact ⟨rfl, hz⟩
  · rw [inl_126] at c_2
    have hP := inl_t c_2
    refine z_bipush C (pc := 12) (v := (-102)) dX4_letter_12 (by decide) ?_
    refine z_iret C (pc := 14) (i, r) dX4_letter_14 ?_ rfl
    rw [show letterF z x = (-102, z) from if_pos hP]
    exact ⟨rfl, hz⟩

set_option maxHeartbeats 4000000 in
set_option maxRecDepth 100000 in
theorem m_blank (l : Launch) (D : va_G) (cI : ClassId) (tt : Nat × Nat × Nat) (b : Nat → Nat) (i : Nat → Int32) (r : Nat → Nat → Int32) (h : Int64) (z : SG) (hz : Mdl z i r) (vz : VS z) : MetI (S := ((Nat → Int32) × (Nat → Nat → Int32))) l yX4_blank cX4_blank 2 (some .int) (rm 0 0) D cI tt [.ref (b 0)] (mW cI b i r h) (fun q u => q = (blankF z).1 ∧ Mdl (blankF z).2 u.1 u.2) (fun u => mW cI b u.1 u.2 h) := by
  refine met_ofI (by decide) (Nat.le_of_ble_eq_true rfl) ?_
  intro pP eE sS mM aV bB mE cC AA C hin
  refine z_conv (lv' := [(0, .ref (b 0))]) ⟨rfl, trivial⟩ rfl rfl ?_
  refine z_aload_n C (pc := 0) dX4_blank_0 rfl ?_
  refine z_get C (pc := 1) 0 rfl rfl wf_X4 1 (by decide) rfl wl_X4_47 (v := .int (i 1)) rfl dX4_blank_1 ?_
  refine z_istore_n C (pc := 4) (lv' := [(0, .ref (b 0)), (1, .int (i 1))]) dX4_blank_4 (Nat.le_of_ble_eq_true rfl) rfl rfl ?_
  refine z_aload_n C (pc := 5) dX4_blank_5 rfl ?_
  refine z_iconst C (pc := 6) (v := 0) dX4_blank_6 (by decide) ?_
  refine z_put C (pc := 7) 0 rfl rfl wf_X4 1 (by decide) rfl tyX4 tyX4_ok nmX4 rfl rfl rfl (Nat.le_of_ble_eq_true rfl) (ws' := (mW cI b (upd i 1 0) r h)) rfl wl_X4_47 dX4_blank_7 ?_
  refine z_iload_n C (pc := 10) dX4_blank_10 rfl ?_
  refine z_iret C (pc := 11) ((upd i 1 0), r) dX4_blank_11 ?_ rfl
  exact ⟨hz.i1, ml_blank hz⟩

set_option maxHeartbeats 4000000 in
set_option maxRecDepth 100000 in
theorem m_forget (l : Launch) (D : va_G) (cI : ClassId) (tt : Nat × Nat × Nat) (b : Nat → Nat) (i : Nat → Int32) (r : Nat → Nat → Int32) (h : Int64) (z : SG) (hz : Mdl z i r) (vz : VS z) : MetI (S := ((Nat → Int32) × (Nat → Nat → Int32))) l yX4_forget cX4_forget 2 (some .int) (rm 0 0) D cI tt [.ref (b 0)] (mW cI b i r h) (fun q u => q = (forgetF z).1 ∧ Mdl (forgetF z).2 u.1 u.2) (fun u => mW cI b u.1 u.2 h) := by
  refine met_ofI (by decide) (Nat.le_of_ble_eq_true rfl) ?_
  intro pP eE sS mM aV bB mE cC AA C hin
  refine z_conv (lv' := [(0, .ref (b 0))]) ⟨rfl, trivial⟩ rfl rfl ?_
  refine z_aload_n C (pc := 0) dX4_forget_0 rfl ?_
  refine z_get C (pc := 1) 0 rfl rfl wf_X4 15 (by decide) rfl wl_X4_81 (v := .int (i 15)) rfl dX4_forget_1 ?_
  refine z_istore_n C (pc := 4) (lv' := [(0, .ref (b 0)), (1, .int (i 15))]) dX4_forget_4 (Nat.le_of_ble_eq_true rfl) rfl rfl ?_
  refine z_aload_n C (pc := 5) dX4_forget_5 rfl ?_
  refine z_iconst C (pc := 6) (v := 0) dX4_forget_6 (by decide) ?_
  refine z_put C (pc := 7) 0 rfl rfl wf_X4 15 (by decide) rfl tyX4 tyX4_ok nmX4 rfl rfl rfl (Nat.le_of_ble_eq_true rfl) (ws' := (mW cI b (upd i 15 0) r h)) rfl wl_X4_81 dX4_forget_7 ?_
  refine z_iload_n C (pc := 10) dX4_forget_10 rfl ?_
  refine z_iret C (pc := 11) ((upd i 15 0), r) dX4_forget_11 ?_ rfl
  exact ⟨hz.i15, ml_forget hz⟩

set_option maxHeartbeats 4000000 in
set_option maxRecDepth 100000 in
theorem m_fault (l : Launch) (D : va_G) (cI : ClassId) (tt : Nat × Nat × Nat) (b : Nat → Nat) (i : Nat → Int32) (r : Nat → Nat → Int32) (h : Int64) (z : SG) (hz : Mdl z i r) (vz : VS z) : MetI (S := ((Nat → Int32) × (Nat → Nat → Int32))) l yX4_fault cX4_fault 1 (some .int) (rm 3 68) D cI tt [.ref (b 0)] (mW cI b i r h) (fun q u => q = faultF z ∧ Mdl z u.1 u.2) (fun u => mW cI b u.1 u.2 h) := by
  refine met_ofI (by decide) (Nat.le_of_ble_eq_true rfl) ?_
  intro pP eE sS mM aV bB mE cC AA C hin
  refine z_conv (lv' := [(0, .ref (b 0))]) ⟨rfl, trivial⟩ rfl rfl ?_
  refine z_aload_n C (pc := 0) dX4_fault_0 rfl ?_
  refine z_calliF C (by exact fun _ => mW_ad) (runV C (wc := (mW cI b i r h)) (pc := 1) (rY' := rm 2 47) (nn := 0) (As := []) (rest := []) (m_faultOf l D cI tt b i r h (z.1 3) hz.i1 vz.2.2.1) (full_hC _) (full_nd _) ⟨rfl, rfl, ⟨Nat.le_of_ble_eq_true rfl, Nat.le_of_ble_eq_true rfl⟩, Nat.le_of_ble_eq_true rfl, Nat.le_of_ble_eq_true rfl⟩ wl_X4_65 wm_X4_faultOf we_X4_faultOf wi_X4 wc_X4_faultOf (by decide +kernel) rfl 0 rfl rfl rfl rfl (Nat.le_of_ble_eq_true rfl) dX4_fault_1) (fun q_1 u_1 h_1 => ?_)
  generalize u_1 = i1 at h_1 ⊢
  obtain ⟨k0, k1, k2⟩ := h_1
  refine z_ws (st' := [.int q_1]) (ws' := (mW cI b i1 r h)) rfl rfl ?_
  refine z_seti (y := (nI (scv (r 0) (z.1 3) 0 0).1)) k0 ?_
  refine z_iret C (pc := 4) (i1, r) dX4_fault_4 ?_ rfl
  exact ⟨by unfold faultF; rw [scv_congr hz.2.1.1 _ 0 0 (by omega)], hz.e2 k2⟩

set_option maxHeartbeats 4000000 in
set_option maxRecDepth 100000 in
theorem m_tellMember (l : Launch) (D : va_G) (cI : ClassId) (tt : Nat × Nat × Nat) (b : Nat → Nat) (i : Nat → Int32) (r : Nat → Nat → Int32) (h : Int64) (z : SG) (hz : Mdl z i r) (vz : VS z) (k : Nat) (hk : k < z.1 4) (what : Int32) : MetI (S := Unit) l yX4_tellMember cX4_tellMember 3 (some .int) (rm 1 21) D cI tt [.ref (b 0), .int (nI k), .int what] (mW cI b i r h) (fun q _ => q = tellF z k what) (fun _ => mW cI b i r h) := by
  have hv := hz.pv vz
  have hc := hz.c vz
  have hh := hz.hv vz
  have hn6 := vz.2.2.2.1
  have hx6 := pow_le6 hn6
  have v3 := vz.2.2.1
  have v5 := vz.2.2.2.2.1
  have v8 := vz.2.2.2.2.2.1
  refine met_ofI (by decide) (Nat.le_of_ble_eq_true rfl) ?_
  intro pP eE sS mM aV bB mE cC AA C hin
  refine z_conv (lv' := [(0, .ref (b 0)), (1, .int (nI k)), (2, .int what)]) ⟨rfl, rfl, rfl, trivial⟩ rfl rfl ?_
  refine z_iload_n C (pc := 0) dX4_tellMember_0 rfl ?_
  by_cases c_1 : what = 0
  · refine z_tableIn C (pc := 1) (tgt := 36) (off := 35) dX4_tellMember_1 (by rw [c_1]; decide) (by rw [c_1]; decide) (by rw [c_1]; rfl) (by decide) ?_
    refine z_aload_n C (pc := 36) dX4_tellMember_36 rfl ?_
    refine z_get C (pc := 37) 0 rfl rfl wf_X4 8 (by decide) rfl wl_X4_13 (v := .ref (b 2)) rfl dX4_tellMember_37 ?_
    refine z_iload_n C (pc := 40) dX4_tellMember_40 rfl ?_
    have h_2 : vp_in (nI k) 6 := by exact vp_in_nI (by omega) (by decide)
    refine z_iald C (pc := 41) 2 rfl h_2 dX4_tellMember_41 ?_
    refine z_seti (y := (nI (z.2.1 1 k))) (by rw [nI_clamp (by omega)]; exact hz.2.1.2.1 k hk) ?_
    refine z_iret C (pc := 42) () dX4_tellMember_42 ?_ rfl
    unfold tellF
    subst c_1
    rfl
  by_cases c_3 : what = 1
  · refine z_tableIn C (pc := 1) (tgt := 43) (off := 42) dX4_tellMember_1 (by rw [c_3]; decide) (by rw [c_3]; decide) (by rw [c_3]; rfl) (by decide) ?_
    refine z_aload_n C (pc := 43) dX4_tellMember_43 rfl ?_
    refine z_iload_n C (pc := 44) dX4_tellMember_44 rfl ?_
    refine z_calliF C (by exact fun _ => mW_ad) (runV C (wc := (mW cI b i r h)) (pc := 45) (rY' := rm 0 0) (nn := 1) (As := [.int (nI k)]) (rest := []) (m_pullsOf l D cI tt b i r h (z.2.1 1) (z.1 4) hv k hk) (full_hC _) (full_nd _) ⟨rfl, rfl, ⟨Nat.le_of_ble_eq_true rfl, Nat.le_of_ble_eq_true rfl⟩, Nat.le_of_ble_eq_true rfl, Nat.le_of_ble_eq_true rfl⟩ wl_X4_93 wm_X4_pullsOf we_X4_pullsOf wi_X4 wc_X4_pullsOf (by decide +kernel) rfl 0 rfl rfl rfl rfl (Nat.le_of_ble_eq_true rfl) dX4_tellMember_45) (fun q_4 u_4 h_4 => ?_)
    subst h_4
    refine z_ws (st' := [.int (nI (pls (z.2.1 1 k)))]) (ws' := (mW cI b i r h)) rfl rfl ?_
    refine z_iret C (pc := 48) () dX4_tellMember_48 ?_ rfl
    unfold tellF
    subst c_3
    rfl
  by_cases c_5 : what = 2
  · refine z_tableIn C (pc := 1) (tgt := 49) (off := 48) dX4_tellMember_1 (by rw [c_5]; decide) (by rw [c_5]; decide) (by rw [c_5]; rfl) (by decide) ?_
    refine z_aload_n C (pc := 49) dX4_tellMember_49 rfl ?_
    refine z_iload_n C (pc := 50) dX4_tellMember_50 rfl ?_
    refine z_calliF C (by exact fun _ => mW_ad) (runV C (wc := (mW cI b i r h)) (pc := 51) (rY' := rm 0 0) (nn := 1) (As := [.int (nI k)]) (rest := []) (m_eatsOf l D cI tt b i r h (z.2.1 1) (z.1 4) hv k hk) (full_hC _) (full_nd _) ⟨rfl, rfl, ⟨Nat.le_of_ble_eq_true rfl, Nat.le_of_ble_eq_true rfl⟩, Nat.le_of_ble_eq_true rfl, Nat.le_of_ble_eq_true rfl⟩ wl_X4_96 wm_X4_eatsOf we_X4_eatsOf wi_X4 wc_X4_eatsOf (by decide +kernel) rfl 0 rfl rfl rfl rfl (Nat.le_of_ble_eq_true rfl) dX4_tellMember_51) (fun q_6 u_6 h_6 => ?_)
    subst h_6
    refine z_ws (st' := [.int (nI (ets (z.2.1 1 k)))]) (ws' := (mW cI b i r h)) rfl rfl ?_
    refine z_iret C (pc := 54) () dX4_tellMember_54 ?_ rfl
    unfold tellF
    subst c_5
    rfl
  by_cases c_7 : what = 3
  · refine z_tableIn C (pc := 1) (tgt := 55) (off := 54) dX4_tellMember_1 (by rw [c_7]; decide) (by rw [c_7]; decide) (by rw [c_7]; rfl) (by decide) ?_
    refine z_aload_n C (pc := 55) dX4_tellMember_55 rfl ?_
    refine z_iload_n C (pc := 56) dX4_tellMember_56 rfl ?_
    refine z_calliF C (by exact fun _ => mW_ad) (runV C (wc := (mW cI b i r h)) (pc := 57) (rY' := rm 0 0) (nn := 1) (As := [.int (nI k)]) (rest := []) (m_feedsOf l D cI tt b i r h (z.2.1 1) (z.1 4) hv k hk) (full_hC _) (full_nd _) ⟨rfl, rfl, ⟨Nat.le_of_ble_eq_true rfl, Nat.le_of_ble_eq_true rfl⟩, Nat.le_of_ble_eq_true rfl, Nat.le_of_ble_eq_true rfl⟩ wl_X4_99 wm_X4_feedsOf we_X4_feedsOf wi_X4 wc_X4_feedsOf (by decide +kernel) rfl 0 rfl rfl rfl rfl (Nat.le_of_ble_eq_true rfl) dX4_tellMember_57) (fun q_8 u_8 h_8 => ?_)
    subst h_8
    refine z_ws (st' := [.int (nI (fds (z.2.1 1 k)))]) (ws' := (mW cI b i r h)) rfl rfl ?_
    refine z_iret C (pc := 60) () dX4_tellMember_60 ?_ rfl
    unfold tellF
    subst c_7
    rfl
  by_cases c_9 : what = 4
  · refine z_tableIn C (pc := 1) (tgt := 61) (off := 60) dX4_tellMember_1 (by rw [c_9]; decide) (by rw [c_9]; decide) (by rw [c_9]; rfl) (by decide) ?_
    refine z_aload_n C (pc := 61) dX4_tellMember_61 rfl ?_
    refine z_get C (pc := 62) 0 rfl rfl wf_X4 4 (by decide) rfl wl_X4_72 (v := .int (i 4)) rfl dX4_tellMember_62 ?_
    refine z_iload_n C (pc := 65) dX4_tellMember_65 rfl ?_
    refine z_ishr C (pc := 66) dX4_tellMember_66 ?_
    refine z_iconst C (pc := 67) (v := 1) dX4_tellMember_67 (by decide) ?_
    refine z_iand C (pc := 68) dX4_tellMember_68 ?_
    refine z_iret C (pc := 69) () dX4_tellMember_69 ?_ rfl
    unfold tellF
    subst c_9
    rw [hz.i4]
    exact shr_bt (by omega) (by omega)
  refine z_tableOut C (pc := 1) (tgt := 70) dX4_tellMember_1 (by have q0 := lv_neT c_1 (a := 0) rfl; have q1 := lv_neT c_3 (a := 1) rfl; have q2 := lv_neT c_5 (a := 2) rfl; have q3 := lv_neT c_7 (a := 3) rfl; have q4 := lv_neT c_9 (a := 4) rfl; omega) (by decide) ?_
  refine z_bipush C (pc := 70) (v := (-102)) dX4_tellMember_70 (by decide) ?_
  refine z_iret C (pc := 72) () dX4_tellMember_72 ?_ rfl
  unfold tellF
  simp [c_1, c_3, c_5, c_7, c_9]

set_option maxHeartbeats 4000000 in
set_option maxRecDepth 100000 in
theorem m_member (l : Launch) (D : va_G) (cI : ClassId) (tt : Nat × Nat × Nat) (b : Nat → Nat) (i : Nat → Int32) (r : Nat → Nat → Int32) (h : Int64) (m what : Int32) (z : SG) (hz : Mdl z i r) (vz : VS z) : MetI (S := ((Nat → Int32) × (Nat → Nat → Int32))) l yX4_member cX4_member 3 (some .int) (rm 2 46) D cI tt [.ref (b 0), .int m, .int what] (mW cI b i r h) (fun q u => q = memberF z m what ∧ Mdl z u.1 u.2) (fun u => mW cI b u.1 u.2 h) := by
  have hv := hz.pv vz
  have hc := hz.c vz
  have hh := hz.hv vz
  have hn6 := vz.2.2.2.1
  have hx6 := pow_le6 hn6
  have v3 := vz.2.2.1
  have v5 := vz.2.2.2.2.1
  have v8 := vz.2.2.2.2.2.1
  refine met_ofI (by decide) (Nat.le_of_ble_eq_true rfl) ?_
  intro pP eE sS mM aV bB mE cC AA C hin
  refine z_conv (lv' := [(0, .ref (b 0)), (1, .int m), (2, .int what)]) ⟨rfl, rfl, rfl, trivial⟩ rfl rfl ?_
  refine z_aload_n C (pc := 0) dX4_member_0 rfl ?_
  refine z_iload_n C (pc := 1) dX4_member_1 rfl ?_
  refine z_calliF C (by exact fun _ => mW_ad) (runV C (wc := (mW cI b i r h)) (pc := 2) (rY' := rm 1 25) (nn := 1) (As := [.int m]) (rest := []) (m_isMember l D cI tt b i r h m (z.1 4) hz.i3 hn6) (full_hC _) (full_nd _) ⟨rfl, rfl, ⟨Nat.le_of_ble_eq_true rfl, Nat.le_of_ble_eq_true rfl⟩, Nat.le_of_ble_eq_true rfl, Nat.le_of_ble_eq_true rfl⟩ wl_X4_102 wm_X4_isMember we_X4_isMember wi_X4 wc_X4_isMember (by decide +kernel) rfl 0 rfl rfl rfl rfl (Nat.le_of_ble_eq_true rfl) dX4_member_2) (fun q_1 u_1 h_1 => ?_)
  subst h_1
  refine z_ws (st' := [.int (b2 (!noM (z.1 4) m))]) (ws' := (mW cI b i r h)) rfl rfl ?_
  refine z_if_eq C (pc := 5) (tgt := 17) dX4_member_5 (by decide) (fun c_2 => ?_) (fun c_2 => ?_)
  · have hm : noMember z m = true := b2n_t c_2
    refine z_bipush C (pc := 17) (v := (-101)) dX4_member_17 (by decide) ?_
    refine z_iret C (pc := 19) (i, r) dX4_member_19 ?_ rfl
    rw [show memberF z m what = -101 from if_pos hm]
    exact ⟨rfl, hz⟩
  · have hm : noMember z m = false := b2n_f c_2
    obtain ⟨k, hk, hmk, htk⟩ := member_of vz hm
    subst hmk
    refine z_aload_n C (pc := 8) dX4_member_8 rfl ?_
    refine z_iload_n C (pc := 9) dX4_member_9 rfl ?_
    refine z_iload_n C (pc := 10) dX4_member_10 rfl ?_
    refine z_calliF C (by exact fun _ => mW_ad) (runV C (wc := (mW cI b i r h)) (pc := 11) (rY' := rm 1 21) (nn := 2) (As := [.int (nI k), .int what]) (rest := []) (m_tellMember l D cI tt b i r h z hz vz k hk what) (full_hC _) (full_nd _) ⟨rfl, rfl, ⟨Nat.le_of_ble_eq_true rfl, Nat.le_of_ble_eq_true rfl⟩, Nat.le_of_ble_eq_true rfl, Nat.le_of_ble_eq_true rfl⟩ wl_X4_105 wm_X4_tellMember we_X4_tellMember wi_X4 wc_X4_tellMember (by decide +kernel) rfl 0 rfl rfl rfl rfl (Nat.le_of_ble_eq_true rfl) dX4_member_11) (fun q_3 u_3 h_3 => ?_)
    refine z_ws (st' := [.int q_3]) (ws' := (mW cI b i r h)) rfl rfl ?_
    refine z_seti (y := (tellF z k what)) h_3 ?_
    refine z_goto C (pc := 14) (tgt := 19) dX4_member_14 (by decide) ?_
    refine z_iret C (pc := 19) (i, r) dX4_member_19 ?_ rfl
    rw [show memberF z (nI k) what = tellF z k what from (if_neg (by rw [hm]; decide)).trans (by rw [htk])]
    exact ⟨rfl, hz⟩

set_option maxHeartbeats 4000000 in
set_option maxRecDepth 100000 in
theorem m_as (l : Launch) (D : va_G) (cI : ClassId) (tt : Nat × Nat × Nat) (b : Nat → Nat) (i : Nat → Int32) (r : Nat → Nat → Int32) (h : Int64) (m kind : Int32) (z : SG) (hz : Mdl z i r) (vz : VS z) : MetI (S := ((Nat → Int32) × (Nat → Nat → Int32))) l yX4_as cX4_as 5 (some .int) (rm 2 46) D cI tt [.ref (b 0), .int m, .int kind] (mW cI b i r h) (fun q u => q = asF z m kind ∧ Mdl z u.1 u.2) (fun u => mW cI b u.1 u.2 h) := by
  have hv := hz.pv vz
  have hc := hz.c vz
  have hh := hz.hv vz
  have hn6 := vz.2.2.2.1
  have hx6 := pow_le6 hn6
  have v3 := vz.2.2.1
  have v5 := vz.2.2.2.2.1
  have v8 := vz.2.2.2.2.2.1
  refine met_ofI (by decide) (Nat.le_of_ble_eq_true rfl) ?_
  intro pP eE sS mM aV bB mE cC AA C hin
  refine z_conv (lv' := [(0, .ref (b 0)), (1, .int m), (2, .int kind)]) ⟨rfl, rfl, rfl, trivial⟩ rfl rfl ?_
  refine z_aload_n C (pc := 0) dX4_as_0 rfl ?_
  refine z_iload_n C (pc := 1) dX4_as_1 rfl ?_
  refine z_calliF C (by exact fun _ => mW_ad) (runV C (wc := (mW cI b i r h)) (pc := 2) (rY' := rm 1 25) (nn := 1) (As := [.int m]) (rest := []) (m_isMember l D cI tt b i r h m (z.1 4) hz.i3 hn6) (full_hC _) (full_nd _) ⟨rfl, rfl, ⟨Nat.le_of_ble_eq_true rfl, Nat.le_of_ble_eq_true rfl⟩, Nat.le_of_ble_eq_true rfl, Nat.le_of_ble_eq_true rfl⟩ wl_X4_102 wm_X4_isMember we_X4_isMember wi_X4 wc_X4_isMember (by decide +kernel) rfl 0 rfl rfl rfl rfl (Nat.le_of_ble_eq_true rfl) dX4_as_2) (fun q_1 u_1 h_1 => ?_)
  subst h_1
  refine z_ws (st' := [.int (b2 (!noM (z.1 4) m))]) (ws' := (mW cI b i r h)) rfl rfl ?_
  refine z_if_ne C (pc := 5) (tgt := 11) dX4_as_5 (by decide) (fun c_2 => ?_) (fun c_2 => ?_)
  · have hm : noMember z m = false := b2n_f c_2
    obtain ⟨k, hk, hmk, htk⟩ := member_of vz hm
    subst hmk
    refine z_iload_n C (pc := 11) dX4_as_11 rfl ?_
    refine z_i2l C (pc := 12) dX4_as_12 ?_
    refine z_lconst C (pc := 13) (v := 0) dX4_as_13 (by decide) ?_
    refine z_ldc2 C (pc := 14) (v := 4) wl_X4_109 dX4_as_14 ?_
    refine z_calli C (isC := []) rfl (by exact fun _ => rfl) (runS C (wc := []) (pc := 17) (rY' := rm 0 0) (nn := 3) (As := [.long kind.toInt64, .long 0, .long 4]) (rest := []) (m_in l D cI tt kind.toInt64 0 4) rfl rfl ⟨rfl, rfl, ⟨Nat.le_of_ble_eq_true rfl, Nat.le_of_ble_eq_true rfl⟩, Nat.le_of_ble_eq_true rfl, Nat.le_of_ble_eq_true rfl⟩ wl_X4_43 ws_X4_in wi_X4 wc_X4_in (by decide +kernel) rfl rfl (Nat.le_of_ble_eq_true rfl) dX4_as_17) (fun r_3 u_3 h_3 => ?_)
    subst h_3
    refine z_ws (st' := [.int (b2 (inb kind.toInt64 0 4))]) (ws' := (mW cI b i r h)) rfl rfl ?_
    refine z_if_ne C (pc := 20) (tgt := 26) dX4_as_20 (by decide) (fun c_4 => ?_) (fun c_4 => ?_)
    · rw [inl_4] at c_4
      have hP := inl_f c_4
      refine z_aload_n C (pc := 26) dX4_as_26 rfl ?_
      refine z_get C (pc := 27) 0 rfl rfl wf_X4 8 (by decide) rfl wl_X4_13 (v := .ref (b 2)) rfl dX4_as_27 ?_
      refine z_iload_n C (pc := 30) dX4_as_30 rfl ?_
      have h_5 : vp_in (nI k) 6 := by exact vp_in_nI (by omega) (by decide)
      refine z_iald C (pc := 31) 2 rfl h_5 dX4_as_31 ?_
      refine z_seti (y := (nI (z.2.1 1 k))) (by rw [nI_clamp (by omega)]; exact hz.2.1.2.1 k hk) ?_
      refine z_istore_n C (pc := 32) (lv' := [(0, .ref (b 0)), (1, .int (nI k)), (2, .int kind), (3, .int (nI (z.2.1 1 k)))]) dX4_as_32 (Nat.le_of_ble_eq_true rfl) rfl rfl ?_
      refine z_iload_n C (pc := 33) dX4_as_33 rfl ?_
      refine z_if_eq C (pc := 34) (tgt := 52) dX4_as_34 (by decide) (fun c_6 => ?_) (fun c_6 => ?_)
      · refine z_iconst C (pc := 52) (v := 1) dX4_as_52 (by decide) ?_
        refine z_goto C (pc := 53) (tgt := 57) dX4_as_53 (by decide) ?_
        refine z_istore C (pc := 57) (lv' := [(0, .ref (b 0)), (1, .int (nI k)), (2, .int kind), (3, .int (nI (z.2.1 1 k))), (4, .int 1)]) dX4_as_57 (Nat.le_of_ble_eq_true rfl) rfl rfl ?_
        refine z_iload C (pc := 59) dX4_as_59 rfl ?_
        refine z_if_eq C (pc := 61) (tgt := 68) dX4_as_61 (by decide) (fun c_7 => ?_) (fun c_7 => ?_)
        · exact absurd c_7 (by decide)
        · refine z_iload_n C (pc := 64) dX4_as_64 rfl ?_
          refine z_goto C (pc := 65) (tgt := 69) dX4_as_65 (by decide) ?_
          refine z_iret C (pc := 69) (i, r) dX4_as_69 ?_ rfl
          have hof : (isOfv (nI (z.2.1 1 k)) kind = 0) = False := by
            simp [isOfv, c_6]
          rw [show asF z (nI k) kind = nI k from (if_neg (by rw [hm]; decide)).trans ((if_neg hP).trans (by rw [htk]; simp [hof]))]
          exact ⟨rfl, hz⟩
      · refine z_iload_n C (pc := 37) dX4_as_37 rfl ?_
        refine z_iload_n C (pc := 38) dX4_as_38 rfl ?_
        refine z_icmp_eq C (pc := 39) (tgt := 52) dX4_as_39 (by decide) (fun c_8 => ?_) (fun c_8 => ?_)
        · refine z_iconst C (pc := 52) (v := 1) dX4_as_52 (by decide) ?_
          refine z_goto C (pc := 53) (tgt := 57) dX4_as_53 (by decide) ?_
          refine z_istore C (pc := 57) (lv' := [(0, .ref (b 0)), (1, .int (nI k)), (2, .int kind), (3, .int (nI (z.2.1 1 k))), (4, .int 1)]) dX4_as_57 (Nat.le_of_ble_eq_true rfl) rfl rfl ?_
          refine z_iload C (pc := 59) dX4_as_59 rfl ?_
          refine z_if_eq C (pc := 61) (tgt := 68) dX4_as_61 (by decide) (fun c_9 => ?_) (fun c_9 => ?_)
          · exact absurd c_9 (by decide)
          · refine z_iload_n C (pc := 64) dX4_as_64 rfl ?_
            refine z_goto C (pc := 65) (tgt := 69) dX4_as_65 (by decide) ?_
            refine z_iret C (pc := 69) (i, r) dX4_as_69 ?_ rfl
            have hof : (isOfv (nI (z.2.1 1 k)) kind = 0) = False := by
              simp [isOfv, c_6, c_8]
            rw [show asF z (nI k) kind = nI k from (if_neg (by rw [hm]; decide)).trans ((if_neg hP).trans (by rw [htk]; simp [hof]))]
            exact ⟨rfl, hz⟩
        · refine z_iload_n C (pc := 42) dX4_as_42 rfl ?_
          refine z_iconst C (pc := 43) (v := 2) dX4_as_43 (by decide) ?_
          refine z_icmp_ne C (pc := 44) (tgt := 56) dX4_as_44 (by decide) (fun c_10 => ?_) (fun c_10 => ?_)
          · refine z_iconst C (pc := 56) (v := 0) dX4_as_56 (by decide) ?_
            refine z_istore C (pc := 57) (lv' := [(0, .ref (b 0)), (1, .int (nI k)), (2, .int kind), (3, .int (nI (z.2.1 1 k))), (4, .int 0)]) dX4_as_57 (Nat.le_of_ble_eq_true rfl) rfl rfl ?_
            refine z_iload C (pc := 59) dX4_as_59 rfl ?_
            refine z_if_eq C (pc := 61) (tgt := 68) dX4_as_61 (by decide) (fun c_11 => ?_) (fun c_11 => ?_)
            · refine z_iconst C (pc := 68) (v := (-1)) dX4_as_68 (by decide) ?_
              refine z_iret C (pc := 69) (i, r) dX4_as_69 ?_ rfl
              have hof : (isOfv (nI (z.2.1 1 k)) kind = 0) = True := by
                first
                  | (simp [isOfv, c_6, c_8, c_10]; done)
                  | (simp [isOfv, c_6, c_8, c_10]; exact fun e => c_8 (by first | exact e.symm | (rw [c_10]; exact e.symm)))
              rw [show asF z (nI k) kind = -1 from (if_neg (by rw [hm]; decide)).trans ((if_neg hP).trans (by rw [htk]; simp [hof]))]
              exact ⟨rfl, hz⟩
            · exact absurd c_11 (by decide)
          · refine z_iload_n C (pc := 47) dX4_as_47 rfl ?_
            refine z_iconst C (pc := 48) (v := 4) dX4_as_48 (by decide) ?_
            refine z_icmp_ne C (pc := 49) (tgt := 56) dX4_as_49 (by decide) (fun c_12 => ?_) (fun c_12 => ?_)
            · refine z_iconst C (pc := 56) (v := 0) dX4_as_56 (by decide) ?_
              refine z_istore C (pc := 57) (lv' := [(0, .ref (b 0)), (1, .int (nI k)), (2, .int kind), (3, .int (nI (z.2.1 1 k))), (4, .int 0)]) dX4_as_57 (Nat.le_of_ble_eq_true rfl) rfl rfl ?_
              refine z_iload C (pc := 59) dX4_as_59 rfl ?_
              refine z_if_eq C (pc := 61) (tgt := 68) dX4_as_61 (by decide) (fun c_13 => ?_) (fun c_13 => ?_)
              · refine z_iconst C (pc := 68) (v := (-1)) dX4_as_68 (by decide) ?_
                refine z_iret C (pc := 69) (i, r) dX4_as_69 ?_ rfl
                have hof : (isOfv (nI (z.2.1 1 k)) kind = 0) = True := by
                  first
                    | (simp [isOfv, c_6, c_8, c_10, c_12]; done)
                    | (simp [isOfv, c_6, c_8, c_10, c_12]; exact fun e => c_8 (by first | exact e.symm | (rw [c_10]; exact e.symm)))
                rw [show asF z (nI k) kind = -1 from (if_neg (by rw [hm]; decide)).trans ((if_neg hP).trans (by rw [htk]; simp [hof]))]
                exact ⟨rfl, hz⟩
              · exact absurd c_13 (by decide)
            · refine z_iconst C (pc := 52) (v := 1) dX4_as_52 (by decide) ?_
              refine z_goto C (pc := 53) (tgt := 57) dX4_as_53 (by decide) ?_
              refine z_istore C (pc := 57) (lv' := [(0, .ref (b 0)), (1, .int (nI k)), (2, .int kind), (3, .int (nI (z.2.1 1 k))), (4, .int 1)]) dX4_as_57 (Nat.le_of_ble_eq_true rfl) rfl rfl ?_
              refine z_iload C (pc := 59) dX4_as_59 rfl ?_
              refine z_if_eq C (pc := 61) (tgt := 68) dX4_as_61 (by decide) (fun c_14 => ?_) (fun c_14 => ?_)
              · exact absurd c_14 (by decide)
              · refine z_iload_n C (pc := 64) dX4_as_64 rfl ?_
                refine z_goto C (pc := 65) (tgt := 69) dX4_as_65 (by decide) ?_
                refine z_iret C (pc := 69) (i, r) dX4_as_69 ?_ rfl
                have hof : (isOfv (nI (z.2.1 1 k)) kind = 0) = False := by
                  simp [isOfv, c_6, c_8, c_10, c_12]
                rw [show asF z (nI k) kind = nI k from (if_neg (by rw [hm]; decide)).trans ((if_neg hP).trans (by rw [htk]; simp [hof]))]
                exact ⟨rfl, hz⟩
    · rw [inl_4] at c_4
      have hP := inl_t c_4
      refine z_bipush C (pc := 23) (v := (-102)) dX4_as_23 (by decide) ?_
      refine z_iret C (pc := 25) (i, r) dX4_as_25 ?_ rfl
      rw [show asF z (nI k) kind = -102 from (if_neg (by rw [hm]; decide)).trans (if_pos hP)]
      exact ⟨rfl, hz⟩
  · have hm : noMember z m = true := b2n_t c_2
    refine z_bipush C (pc := 8) (v := (-101)) dX4_as_8 (by decide) ?_
    refine z_iret C (pc := 10) (i, r) dX4_as_10 ?_ rfl
    rw [show asF z m kind = -101 from if_pos hm]
    exact ⟨rfl, hz⟩
