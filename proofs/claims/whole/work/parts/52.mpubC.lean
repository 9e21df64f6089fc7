set_option maxHeartbeats 4000000 in
set_option maxRecDepth 100000 in
theorem m_march (l : Launch) (D : va_G) (cI : ClassId) (tt : Nat × Nat × Nat) (b : Nat → Nat) (i : Nat → Int32) (r : Nat → Nat → Int32) (h : Int64) (x y f : Int32) (z : SG) (hz : Mdl z i r) (vz : VS z) : MetI (S := ((Nat → Int32) × (Nat → Nat → Int32))) l yX4_march cX4_march 4 (some .int) (rm 6 138) D cI tt [.ref (b 0), .int x, .int y, .int f] (mW cI b i r h) (fun q u => q = (marchF z x y f).1 ∧ Mdl (marchF z x y f).2 u.1 u.2) (fun u => mW cI b u.1 u.2 h) := by
  have hv := hz.pv vz
  have hc := hz.c vz
  have hh := hz.hv vz
  have hn6 := vz.2.2.2.1
  have hx6 := pow_le6 hn6
  have v3 := vz.2.2.1
  have v5 := vz.2.2.2.2.1
  have v8 := vz.2.2.2.2.2.1
  refine met_ofI (by decide) (Nat.le_of_ble_eq_true rfl) ?_
  intro pP eE sS mM aV bB mE cC AA C hin
  refine z_conv (lv' := [(0, .ref (b 0)), (1, .int x), (2, .int y), (3, .int f)]) ⟨rfl, rfl, rfl, rfl, trivial⟩ rfl rfl ?_
  refine z_aload_n C (pc := 0) dX4_march_0 rfl ?_
  refine z_iload_n C (pc := 1) dX4_march_1 rfl ?_
  refine z_iload_n C (pc := 2) dX4_march_2 rfl ?_
  refine z_iload_n C (pc := 3) dX4_march_3 rfl ?_
  refine z_calliF C (by exact fun _ => mW_ad) (runV C (wc := (mW cI b i r h)) (pc := 4) (rY' := rm 2 46) (nn := 3) (As := [.int x, .int y, .int f]) (rest := []) (m_isMarch l D cI tt b i r h x y f (z.1 4) hz.i3 hn6) (full_hC _) (full_nd _) ⟨rfl, rfl, ⟨Nat.le_of_ble_eq_true rfl, Nat.le_of_ble_eq_true rfl⟩, Nat.le_of_ble_eq_true rfl, Nat.le_of_ble_eq_true rfl⟩ wl_X4_170 wm_X4_isMarch we_X4_isMarch wi_X4 wc_X4_isMarch (by decide +kernel) rfl 0 rfl rfl rfl rfl (Nat.le_of_ble_eq_true rfl) dX4_march_4) (fun q_1 u_1 h_1 => ?_)
  subst h_1
  refine z_ws (st' := [.int (b2 (!noMarch (z.1 4) x y f))]) (ws' := (mW cI b i r h)) rfl rfl ?_
  refine z_if_ne C (pc := 7) (tgt := 13) dX4_march_7 (by decide) (fun c_2 => ?_) (fun c_2 => ?_)
  · have hb : noMarch (z.1 4) x y f = false := b2n_f c_2
    obtain ⟨hb1, hb2, hb3⟩ := march_of hb
    obtain ⟨xk, hx1, hx2, hxx, htx⟩ := people_of hn6 hb1
    obtain ⟨yk, hy1, hy2, hyy, hty⟩ := stage_of hb2
    obtain ⟨fk, hf1, hff, htf⟩ := food_of hb3
    subst hxx hyy hff
    refine z_iload_n C (pc := 13) dX4_march_13 rfl ?_
    refine z_aload_n C (pc := 14) dX4_march_14 rfl ?_
    refine z_get C (pc := 15) 0 rfl rfl wf_X4 4 (by decide) rfl wl_X4_72 (v := .int (i 4)) rfl dX4_march_15 ?_
    refine z_iconst C (pc := 18) (v := (-1)) dX4_march_18 (by decide) ?_
    refine z_ixor C (pc := 19) dX4_march_19 ?_
    refine z_iand C (pc := 20) dX4_march_20 ?_
    refine z_if_eq C (pc := 21) (tgt := 27) dX4_march_21 (by decide) (fun c_3 => ?_) (fun c_3 => ?_)
    · rw [hz.i4] at c_3
      have hdd : ¬ deadv (nI xk) (nI (z.1 5)) ≠ 0 := fun e => e c_3
      refine z_aload_n C (pc := 27) dX4_march_27 rfl ?_
      refine z_iload_n C (pc := 28) dX4_march_28 rfl ?_
      refine z_iload_n C (pc := 29) dX4_march_29 rfl ?_
      refine z_iload_n C (pc := 30) dX4_march_30 rfl ?_
      refine z_aload_n C (pc := 31) dX4_march_31 rfl ?_
      refine z_get C (pc := 32) 0 rfl rfl wf_X4 9 (by decide) rfl wl_X4_16 (v := .ref (b 3)) rfl dX4_march_32 ?_
      refine z_callvF C (by exact fun _ => mW_ad) (runV C (wc := (mW cI b i r h)) (pc := 35) (rY' := rm 5 111) (nn := 4) (As := [.int (nI xk), .int (nI yk), .int (nI fk), .ref (b 3)]) (rest := []) (m_goMarchF l D cI tt b i r h (z.2.1 1) (z.1 4) hv xk yk fk hx2 hy2 hf1 (z.2.1 2) hc) (full_hC _) (full_nd _) ⟨rfl, rfl, ⟨Nat.le_of_ble_eq_true rfl, Nat.le_of_ble_eq_true rfl⟩, Nat.le_of_ble_eq_true rfl, Nat.le_of_ble_eq_true rfl⟩ wl_X4_159 wm_X4_goMarch we_X4_goMarch wi_X4 wc_X4_goMarch (by decide +kernel) rfl 0 rfl rfl rfl rfl (Nat.le_of_ble_eq_true rfl) dX4_march_35) (fun u_4 h_4 => ?_)
      obtain ⟨i4, r4⟩ := u_4
      try dsimp only at h_4
      have hgm := h_4
      have hzm := hz.sr hgm.sp hgm.sr
      have hmk : MOK (z.2.1 1) (z.1 4) (marS z xk yk fk) := mar_ok hn6 hx2 (fun k hk => (hc k hk).2)
      refine z_ws (st' := []) (ws' := (mW cI b i4 r4 h)) rfl rfl ?_
      refine z_aload_n C (pc := 38) dX4_march_38 rfl ?_
      refine z_aload_n C (pc := 39) dX4_march_39 rfl ?_
      refine z_get C (pc := 40) 0 rfl rfl wf_X4 4 (by decide) rfl wl_X4_72 (v := .int (i4 4)) rfl dX4_march_40 ?_
      refine z_iload_n C (pc := 43) dX4_march_43 rfl ?_
      refine z_iconst C (pc := 44) (v := (-1)) dX4_march_44 (by decide) ?_
      refine z_ixor C (pc := 45) dX4_march_45 ?_
      refine z_iand C (pc := 46) dX4_march_46 ?_
      refine z_aload_n C (pc := 47) dX4_march_47 rfl ?_
      refine z_get C (pc := 48) 0 rfl rfl wf_X4 10 (by decide) rfl wl_X4_125 (v := .int (i4 10)) rfl dX4_march_48 ?_
      refine z_ior C (pc := 51) dX4_march_51 ?_
      refine z_put C (pc := 52) 0 rfl rfl wf_X4 4 (by decide) rfl tyX4 tyX4_ok nmX4 rfl rfl rfl (Nat.le_of_ble_eq_true rfl) (ws' := (mW cI b (upd i4 4 (((i4 4) &&& ((nI xk) ^^^ (-1))) ||| (i4 10))) r4 h)) rfl wl_X4_72 dX4_march_52 ?_
      refine z_aload_n C (pc := 55) dX4_march_55 rfl ?_
      refine z_get C (pc := 56) 0 rfl rfl wf_X4 13 (by decide) rfl wl_X4_19 (v := .ref (b 4)) rfl dX4_march_56 ?_
      refine z_aload_n C (pc := 59) dX4_march_59 rfl ?_
      refine z_get C (pc := 60) 0 rfl rfl wf_X4 9 (by decide) rfl wl_X4_16 (v := .ref (b 3)) rfl dX4_march_60 ?_
      refine z_callv C (isC := [4, 3]) rfl (by exact fun _ => rfl) (runS C (wc := [(b 4, .inl (cI, 7, .inl (r4 3))), (b 3, .inl (cI, 7, .inl (r4 2)))]) (pc := 63) (rY' := rm 0 0) (nn := 2) (As := [.ref (b 4), .ref (b 3)]) (rest := []) (m_copy l D cI tt (b 4) 7 (b 3) 7 (r4 3) (r4 2) (by decide) (by decide)) rfl rfl ⟨rfl, rfl, ⟨Nat.le_of_ble_eq_true rfl, Nat.le_of_ble_eq_true rfl⟩, Nat.le_of_ble_eq_true rfl, Nat.le_of_ble_eq_true rfl⟩ wl_X4_148 ws_X4_copy wi_X4 wc_X4_copy (by decide +kernel) rfl rfl (Nat.le_of_ble_eq_true rfl) dX4_march_63) (fun u_5 h_5 => ?_)
      subst h_5
      refine z_ws (st' := []) (ws' := (mW cI b (upd i4 4 (((i4 4) &&& ((nI xk) ^^^ (-1))) ||| (i4 10))) (va_up r4 2 (cqv (r4 3) (r4 2) 7)) h)) rfl rfl ?_
      refine z_aload_n C (pc := 66) dX4_march_66 rfl ?_
      refine z_dup C (pc := 67) dX4_march_67 rfl ?_
      refine z_get C (pc := 68) 0 rfl rfl wf_X4 5 (by decide) rfl wl_X4_75 (v := .int (i4 5)) rfl dX4_march_68 ?_
      refine z_iconst C (pc := 71) (v := 1) dX4_march_71 (by decide) ?_
      refine z_iadd C (pc := 72) dX4_march_72 ?_
      refine z_put C (pc := 73) 0 rfl rfl wf_X4 5 (by decide) rfl tyX4 tyX4_ok nmX4 rfl rfl rfl (Nat.le_of_ble_eq_true rfl) (ws' := (mW cI b (upd (upd i4 4 (((i4 4) &&& ((nI xk) ^^^ (-1))) ||| (i4 10))) 5 ((i4 5) + 1)) (va_up r4 2 (cqv (r4 3) (r4 2) 7)) h)) rfl wl_X4_75 dX4_march_73 ?_
      refine z_aload_n C (pc := 76) dX4_march_76 rfl ?_
      refine z_dup C (pc := 77) dX4_march_77 rfl ?_
      refine z_get C (pc := 78) 0 rfl rfl wf_X4 6 (by decide) rfl wl_X4_78 (v := .int (i4 6)) rfl dX4_march_78 ?_
      refine z_aload_n C (pc := 81) dX4_march_81 rfl ?_
      refine z_get C (pc := 82) 0 rfl rfl wf_X4 10 (by decide) rfl wl_X4_125 (v := .int (i4 10)) rfl dX4_march_82 ?_
      refine z_if_ne C (pc := 85) (tgt := 92) dX4_march_85 (by decide) (fun c_6 => ?_) (fun c_6 => ?_)
      · have hmz : (marS z xk yk fk).1 ≠ 0 := nI_nz (hgm.1.2.2.1.1 ▸ c_6)
        refine z_iconst C (pc := 92) (v := 1) dX4_march_92 (by decide) ?_
        refine z_iadd C (pc := 93) dX4_march_93 ?_
        refine z_put C (pc := 94) 0 rfl rfl wf_X4 6 (by decide) rfl tyX4 tyX4_ok nmX4 rfl rfl rfl (Nat.le_of_ble_eq_true rfl) (ws' := (mW cI b (upd (upd (upd i4 4 (((i4 4) &&& ((nI xk) ^^^ (-1))) ||| (i4 10))) 5 ((i4 5) + 1)) 6 ((i4 6) + 1)) (va_up r4 2 (cqv (r4 3) (r4 2) 7)) h)) rfl wl_X4_78 dX4_march_94 ?_
        refine z_aload_n C (pc := 97) dX4_march_97 rfl ?_
        refine z_get C (pc := 98) 0 rfl rfl wf_X4 10 (by decide) rfl wl_X4_125 (v := .int (i4 10)) rfl dX4_march_98 ?_
        refine z_iret C (pc := 101) ((upd (upd (upd i4 4 (((i4 4) &&& ((nI xk) ^^^ (-1))) ||| (i4 10))) 5 ((i4 5) + 1)) 6 ((i4 6) + 1)), (va_up r4 2 (cqv (r4 3) (r4 2) 7))) dX4_march_101 ?_ rfl
        rw [show marchF z (nI xk) (nI yk) (nI fk) = (nI (marS z xk yk fk).1, (upG (upG (upG z.1 5 (alv (z.1 5) xk (marS z xk yk fk).1)) 6 (z.1 6 + 1)) 7 (z.1 7 + 1), va_up z.2.1 2 (marS z xk yk fk).2.2.1, z.2.2)) from (if_neg (by rw [hb]; decide)).trans ((if_neg hdd).trans (by rw [htx, hty, htf, if_neg hmz]))]
        refine ⟨hgm.1.2.2.1.1, ml_march hzm ?_ ?_ (fun k hk => by rw [cqv_at, if_pos (by omega)]; exact hgm.1.2.2.2 k hk)⟩
        · rw [hzm.i4, hgm.1.2.2.1.1]; exact march_al hn6 vz.2.2.2.2.1 hx2 hmk.1.1
        · rw [hzm.i6]; exact nI_add _ 1
      · have hmz : (marS z xk yk fk).1 = 0 := nI_z (by have := hmk.1.1; omega) (hgm.1.2.2.1.1 ▸ c_6)
        refine z_iconst C (pc := 88) (v := 0) dX4_march_88 (by decide) ?_
        refine z_goto C (pc := 89) (tgt := 93) dX4_march_89 (by decide) ?_
        refine z_iadd C (pc := 93) dX4_march_93 ?_
        refine z_put C (pc := 94) 0 rfl rfl wf_X4 6 (by decide) rfl tyX4 tyX4_ok nmX4 rfl rfl rfl (Nat.le_of_ble_eq_true rfl) (ws' := (mW cI b (upd (upd (upd i4 4 (((i4 4) &&& ((nI xk) ^^^ (-1))) ||| (i4 10))) 5 ((i4 5) + 1)) 6 ((i4 6) + 0)) (va_up r4 2 (cqv (r4 3) (r4 2) 7)) h)) rfl wl_X4_78 dX4_march_94 ?_
        refine z_aload_n C (pc := 97) dX4_march_97 rfl ?_
        refine z_get C (pc := 98) 0 rfl rfl wf_X4 10 (by decide) rfl wl_X4_125 (v := .int (i4 10)) rfl dX4_march_98 ?_
        refine z_iret C (pc := 101) ((upd (upd (upd i4 4 (((i4 4) &&& ((nI xk) ^^^ (-1))) ||| (i4 10))) 5 ((i4 5) + 1)) 6 ((i4 6) + 0)), (va_up r4 2 (cqv (r4 3) (r4 2) 7))) dX4_march_101 ?_ rfl
        rw [show marchF z (nI xk) (nI yk) (nI fk) = (nI (marS z xk yk fk).1, (upG (upG (upG z.1 5 (alv (z.1 5) xk (marS z xk yk fk).1)) 6 (z.1 6 + 1)) 7 (z.1 7 + 0), va_up z.2.1 2 (marS z xk yk fk).2.2.1, z.2.2)) from (if_neg (by rw [hb]; decide)).trans ((if_neg hdd).trans (by rw [htx, hty, htf, if_pos hmz]))]
        refine ⟨hgm.1.2.2.1.1, ml_march hzm ?_ ?_ (fun k hk => by rw [cqv_at, if_pos (by omega)]; exact hgm.1.2.2.2 k hk)⟩
        · rw [hzm.i4, hgm.1.2.2.1.1]; exact march_al hn6 vz.2.2.2.2.1 hx2 hmk.1.1
        · rw [hzm.i6]; exact nI_add _ 0
    · rw [hz.i4] at c_3
      have hdd : deadv (nI xk) (nI (z.1 5)) ≠ 0 := c_3
      refine z_bipush C (pc := 24) (v := (-103)) dX4_march_24 (by decide) ?_
      refine z_iret C (pc := 26) (i, r) dX4_march_26 ?_ rfl
      rw [show marchF z (nI xk) (nI yk) (nI fk) = (-103, z) from (if_neg (by rw [hb]; decide)).trans (if_pos hdd)]
      exact ⟨rfl, hz⟩
  · have hb : noMarch (z.1 4) x y f = true := b2n_t c_2
    refine z_bipush C (pc := 10) (v := (-102)) dX4_march_10 (by decide) ?_
    refine z_iret C (pc := 12) (i, r) dX4_march_12 ?_ rfl
    rw [show marchF z x y f = (-102, z) from if_pos hb]
    exact ⟨rfl, hz⟩

set_option maxHeartbeats 4000000 in
set_option maxRecDepth 100000 in
theorem m_wouldOf (l : Launch) (D : va_G) (cI : ClassId) (tt : Nat × Nat × Nat) (b : Nat → Nat) (i : Nat → Int32) (r : Nat → Nat → Int32) (h : Int64) (z : SG) (hz : Mdl z i r) (vz : VS z) (xk yk fk : Nat) (hx2 : xk < 2 ^ z.1 4) (hy2 : yk ≤ 6) (hf1 : fk ≤ 40) (what : Int32) : MetI (S := ((Nat → Int32) × (Nat → Nat → Int32))) l yX4_wouldOf cX4_wouldOf 5 (some .int) (rm 6 138) D cI tt [.ref (b 0), .int (nI xk), .int (nI yk), .int (nI fk), .int what] (mW cI b i r h) (fun q u => q = tellM (marS z xk yk fk) what ∧ Mdl z u.1 u.2) (fun u => mW cI b u.1 u.2 h) := by
  have hv := hz.pv vz
  have hc := hz.c vz
  have hh := hz.hv vz
  have hn6 := vz.2.2.2.1
  have hx6 := pow_le6 hn6
  have v3 := vz.2.2.1
  have v5 := vz.2.2.2.2.1
  have v8 := vz.2.2.2.2.2.1
  refine met_ofI (by decide) (Nat.le_of_ble_eq_true rfl) ?_
  intro pP eE sS mM aV bB mE cC AA C hin
  refine z_conv (lv' := [(0, .ref (b 0)), (1, .int (nI xk)), (2, .int (nI yk)), (3, .int (nI fk)), (4, .int what)]) ⟨rfl, rfl, rfl, rfl, rfl, trivial⟩ rfl rfl ?_
  refine z_aload_n C (pc := 0) dX4_wouldOf_0 rfl ?_
  refine z_iload_n C (pc := 1) dX4_wouldOf_1 rfl ?_
  refine z_iload_n C (pc := 2) dX4_wouldOf_2 rfl ?_
  refine z_iload_n C (pc := 3) dX4_wouldOf_3 rfl ?_
  refine z_aload_n C (pc := 4) dX4_wouldOf_4 rfl ?_
  refine z_get C (pc := 5) 0 rfl rfl wf_X4 9 (by decide) rfl wl_X4_16 (v := .ref (b 3)) rfl dX4_wouldOf_5 ?_
  refine z_callvF C (by exact fun _ => mW_ad) (runV C (wc := (mW cI b i r h)) (pc := 8) (rY' := rm 5 111) (nn := 4) (As := [.int (nI xk), .int (nI yk), .int (nI fk), .ref (b 3)]) (rest := []) (m_goMarchF l D cI tt b i r h (z.2.1 1) (z.1 4) hv xk yk fk hx2 hy2 hf1 (z.2.1 2) hc) (full_hC _) (full_nd _) ⟨rfl, rfl, ⟨Nat.le_of_ble_eq_true rfl, Nat.le_of_ble_eq_true rfl⟩, Nat.le_of_ble_eq_true rfl, Nat.le_of_ble_eq_true rfl⟩ wl_X4_159 wm_X4_goMarch we_X4_goMarch wi_X4 wc_X4_goMarch (by decide +kernel) rfl 0 rfl rfl rfl rfl (Nat.le_of_ble_eq_true rfl) dX4_wouldOf_8) (fun u_1 h_1 => ?_)
  obtain ⟨i1, r1⟩ := u_1
  try dsimp only at h_1
  have hgm := h_1
  have hzm := hz.sr hgm.sp hgm.sr
  have hmk : MOK (z.2.1 1) (z.1 4) (marS z xk yk fk) := mar_ok hn6 hx2 (fun k hk => (hc k hk).2)
  refine z_ws (st' := []) (ws' := (mW cI b i1 r1 h)) rfl rfl ?_
  refine z_iload C (pc := 11) dX4_wouldOf_11 rfl ?_
  refine z_if_ne C (pc := 13) (tgt := 23) dX4_wouldOf_13 (by decide) (fun c_2 => ?_) (fun c_2 => ?_)
  · refine z_iload C (pc := 23) dX4_wouldOf_23 rfl ?_
    refine z_iconst C (pc := 25) (v := 1) dX4_wouldOf_25 (by decide) ?_
    refine z_icmp_ne C (pc := 26) (tgt := 36) dX4_wouldOf_26 (by decide) (fun c_3 => ?_) (fun c_3 => ?_)
    · refine z_iload C (pc := 36) dX4_wouldOf_36 rfl ?_
      refine z_iconst C (pc := 38) (v := 2) dX4_wouldOf_38 (by decide) ?_
      refine z_icmp_ne C (pc := 39) (tgt := 52) dX4_wouldOf_39 (by decide) (fun c_4 => ?_) (fun c_4 => ?_)
      · refine z_aload_n C (pc := 52) dX4_wouldOf_52 rfl ?_
        refine z_get C (pc := 53) 0 rfl rfl wf_X4 12 (by decide) rfl wl_X4_152 (v := .int (i1 12)) rfl dX4_wouldOf_53 ?_
        refine z_iret C (pc := 56) (i1, r1) dX4_wouldOf_56 ?_ rfl
        refine ⟨?_, hzm⟩
        unfold tellM
        rw [if_neg c_2, if_neg c_3, if_neg c_4]; exact hgm.2
      · refine z_aload_n C (pc := 42) dX4_wouldOf_42 rfl ?_
        refine z_get C (pc := 43) 0 rfl rfl wf_X4 13 (by decide) rfl wl_X4_19 (v := .ref (b 4)) rfl dX4_wouldOf_43 ?_
        refine z_calli C (isC := [4]) rfl (by exact fun _ => rfl) (runS C (wc := [(b 4, .inl (cI, 7, .inl (r1 3)))]) (pc := 46) (rY' := rm 0 0) (nn := 1) (As := [.ref (b 4)]) (rest := []) (m_sumOf l D cI tt (b 4) (r1 3)) rfl rfl ⟨rfl, rfl, ⟨Nat.le_of_ble_eq_true rfl, Nat.le_of_ble_eq_true rfl⟩, Nat.le_of_ble_eq_true rfl, Nat.le_of_ble_eq_true rfl⟩ wl_X4_174 ws_X4_sumOf wi_X4 wc_X4_sumOf (by decide +kernel) rfl rfl (Nat.le_of_ble_eq_true rfl) dX4_wouldOf_46) (fun r_5 u_5 h_5 => ?_)
        subst h_5
        refine z_ws (st' := [.int (sumw (r1 3) 5)]) (ws' := (mW cI b i1 r1 h)) rfl rfl ?_
        refine z_goto C (pc := 49) (tgt := 56) dX4_wouldOf_49 (by decide) ?_
        refine z_iret C (pc := 56) (i1, r1) dX4_wouldOf_56 ?_ rfl
        refine ⟨?_, hzm⟩
        unfold tellM
        rw [if_neg c_2, if_neg c_3, if_pos c_4]; exact sumw_nI hgm.1.2.2.2
    · refine z_aload_n C (pc := 29) dX4_wouldOf_29 rfl ?_
      refine z_get C (pc := 30) 0 rfl rfl wf_X4 11 (by decide) rfl wl_X4_128 (v := .int (i1 11)) rfl dX4_wouldOf_30 ?_
      refine z_goto C (pc := 33) (tgt := 56) dX4_wouldOf_33 (by decide) ?_
      refine z_iret C (pc := 56) (i1, r1) dX4_wouldOf_56 ?_ rfl
      refine ⟨?_, hzm⟩
      unfold tellM
      rw [if_neg c_2, if_pos c_3]; exact hgm.1.2.2.1.2
  · refine z_aload_n C (pc := 16) dX4_wouldOf_16 rfl ?_
    refine z_get C (pc := 17) 0 rfl rfl wf_X4 10 (by decide) rfl wl_X4_125 (v := .int (i1 10)) rfl dX4_wouldOf_17 ?_
    refine z_goto C (pc := 20) (tgt := 56) dX4_wouldOf_20 (by decide) ?_
    refine z_iret C (pc := 56) (i1, r1) dX4_wouldOf_56 ?_ rfl
    refine ⟨?_, hzm⟩
    unfold tellM
    rw [if_pos c_2]; exact hgm.1.2.2.1.1

set_option maxHeartbeats 4000000 in
set_option maxRecDepth 100000 in
theorem m_would (l : Launch) (D : va_G) (cI : ClassId) (tt : Nat × Nat × Nat) (b : Nat → Nat) (i : Nat → Int32) (r : Nat → Nat → Int32) (h : Int64) (x y f what : Int32) (z : SG) (hz : Mdl z i r) (vz : VS z) : MetI (S := ((Nat → Int32) × (Nat → Nat → Int32))) l yX4_would cX4_would 5 (some .int) (rm 7 162) D cI tt [.ref (b 0), .int x, .int y, .int f, .int what] (mW cI b i r h) (fun q u => q = wouldF z x y f what ∧ Mdl z u.1 u.2) (fun u => mW cI b u.1 u.2 h) := by
  have hv := hz.pv vz
  have hc := hz.c vz
  have hh := hz.hv vz
  have hn6 := vz.2.2.2.1
  have hx6 := pow_le6 hn6
  have v3 := vz.2.2.1
  have v5 := vz.2.2.2.2.1
  have v8 := vz.2.2.2.2.2.1
  refine met_ofI (by decide) (Nat.le_of_ble_eq_true rfl) ?_
  intro pP eE sS mM aV bB mE cC AA C hin
  refine z_conv (lv' := [(0, .ref (b 0)), (1, .int x), (2, .int y), (3, .int f), (4, .int what)]) ⟨rfl, rfl, rfl, rfl, rfl, trivial⟩ rfl rfl ?_
  refine z_aload_n C (pc := 0) dX4_would_0 rfl ?_
  refine z_iload_n C (pc := 1) dX4_would_1 rfl ?_
  refine z_iload_n C (pc := 2) dX4_would_2 rfl ?_
  refine z_iload_n C (pc := 3) dX4_would_3 rfl ?_
  refine z_calliF C (by exact fun _ => mW_ad) (runV C (wc := (mW cI b i r h)) (pc := 4) (rY' := rm 2 46) (nn := 3) (As := [.int x, .int y, .int f]) (rest := []) (m_isMarch l D cI tt b i r h x y f (z.1 4) hz.i3 hn6) (full_hC _) (full_nd _) ⟨rfl, rfl, ⟨Nat.le_of_ble_eq_true rfl, Nat.le_of_ble_eq_true rfl⟩, Nat.le_of_ble_eq_true rfl, Nat.le_of_ble_eq_true rfl⟩ wl_X4_170 wm_X4_isMarch we_X4_isMarch wi_X4 wc_X4_isMarch (by decide +kernel) rfl 0 rfl rfl rfl rfl (Nat.le_of_ble_eq_true rfl) dX4_would_4) (fun q_1 u_1 h_1 => ?_)
  subst h_1
  refine z_ws (st' := [.int (b2 (!noMarch (z.1 4) x y f))]) (ws' := (mW cI b i r h)) rfl rfl ?_
  refine z_if_eq C (pc := 7) (tgt := 23) dX4_would_7 (by decide) (fun c_2 => ?_) (fun c_2 => ?_)
  · have hb : noMarch (z.1 4) x y f = true := b2n_t c_2
    have hbb : (noMarch (z.1 4) x y f = true ∨ what < 0 ∨ ¬ what ≤ 3) := Or.inl hb
    refine z_bipush C (pc := 23) (v := (-102)) dX4_would_23 (by decide) ?_
    refine z_iret C (pc := 25) (i, r) dX4_would_25 ?_ rfl
    rw [show wouldF z x y f what = -102 from if_pos hbb]
    exact ⟨rfl, hz⟩
  · have hb : noMarch (z.1 4) x y f = false := b2n_f c_2
    obtain ⟨hb1, hb2, hb3⟩ := march_of hb
    obtain ⟨xk, hx1, hx2, hxx, htx⟩ := people_of hn6 hb1
    obtain ⟨yk, hy1, hy2, hyy, hty⟩ := stage_of hb2
    obtain ⟨fk, hf1, hff, htf⟩ := food_of hb3
    subst hxx hyy hff
    refine z_iload C (pc := 10) dX4_would_10 rfl ?_
    refine z_i2l C (pc := 12) dX4_would_12 ?_
    refine z_lconst C (pc := 13) (v := 0) dX4_would_13 (by decide) ?_
    refine z_ldc2 C (pc := 14) (v := 3) wl_X4_178 dX4_would_14 ?_
    refine z_calli C (isC := []) rfl (by exact fun _ => rfl) (runS C (wc := []) (pc := 17) (rY' := rm 0 0) (nn := 3) (As := [.long what.toInt64, .long 0, .long 3]) (rest := []) (m_in l D cI tt what.toInt64 0 3) rfl rfl ⟨rfl, rfl, ⟨Nat.le_of_ble_eq_true rfl, Nat.le_of_ble_eq_true rfl⟩, Nat.le_of_ble_eq_true rfl, Nat.le_of_ble_eq_true rfl⟩ wl_X4_43 ws_X4_in wi_X4 wc_X4_in (by decide +kernel) rfl rfl (Nat.le_of_ble_eq_true rfl) dX4_would_17) (fun r_3 u_3 h_3 => ?_)
    subst h_3
    refine z_ws (st' := [.int (b2 (inb what.toInt64 0 3))]) (ws' := (mW cI b i r h)) rfl rfl ?_
    refine z_if_ne C (pc := 20) (tgt := 26) dX4_would_20 (by decide) (fun c_4 => ?_) (fun c_4 => ?_)
    · rw [inl_3] at c_4
      have hP := inl_f c_4
      have hbb : ¬ (noMarch (z.1 4) (nI xk) (nI yk) (nI fk) = true ∨ what < 0 ∨ ¬ what ≤ 3) := fun e => e.elim (fun e => by rw [hb] at e; exact absurd e (by decide)) hP
      refine z_iload_n C (pc := 26) dX4_would_26 rfl ?_
      refine z_aload_n C (pc := 27) dX4_would_27 rfl ?_
      refine z_get C (pc := 28) 0 rfl rfl wf_X4 4 (by decide) rfl wl_X4_72 (v := .int (i 4)) rfl dX4_would_28 ?_
      refine z_iconst C (pc := 31) (v := (-1)) dX4_would_31 (by decide) ?_
      refine z_ixor C (pc := 32) dX4_would_32 ?_
      refine z_iand C (pc := 33) dX4_would_33 ?_
      refine z_if_eq C (pc := 34) (tgt := 42) dX4_would_34 (by decide) (fun c_5 => ?_) (fun c_5 => ?_)
      · rw [hz.i4] at c_5
        have hdd : ¬ deadv (nI xk) (nI (z.1 5)) ≠ 0 := fun e => e c_5
        refine z_aload_n C (pc := 42) dX4_would_42 rfl ?_
        refine z_iload_n C (pc := 43) dX4_would_43 rfl ?_
        refine z_iload_n C (pc := 44) dX4_would_44 rfl ?_
        refine z_iload_n C (pc := 45) dX4_would_45 rfl ?_
        refine z_iload C (pc := 46) dX4_would_46 rfl ?_
        refine z_calliF C (by exact fun _ => mW_ad) (runV C (wc := (mW cI b i r h)) (pc := 48) (rY' := rm 6 138) (nn := 4) (As := [.int (nI xk), .int (nI yk), .int (nI fk), .int what]) (rest := []) (m_wouldOf l D cI tt b i r h z hz vz xk yk fk hx2 hy2 hf1 what) (full_hC _) (full_nd _) ⟨rfl, rfl, ⟨Nat.le_of_ble_eq_true rfl, Nat.le_of_ble_eq_true rfl⟩, Nat.le_of_ble_eq_true rfl, Nat.le_of_ble_eq_true rfl⟩ wl_X4_180 wm_X4_wouldOf we_X4_wouldOf wi_X4 wc_X4_wouldOf (by decide +kernel) rfl 0 rfl rfl rfl rfl (Nat.le_of_ble_eq_true rfl) dX4_would_48) (fun q_6 u_6 h_6 => ?_)
        obtain ⟨i6, r6⟩ := u_6
        try dsimp only at h_6
        obtain ⟨k0, k1⟩ := h_6
        refine z_ws (st' := [.int q_6]) (ws' := (mW cI b i6 r6 h)) rfl rfl ?_
        refine z_iret C (pc := 51) (i6, r6) dX4_would_51 ?_ rfl
        rw [show wouldF z (nI xk) (nI yk) (nI fk) what = tellM (marS z xk yk fk) what from (if_neg hbb).trans ((if_neg hdd).trans (by rw [htx, hty, htf]))]
        exact ⟨k0, k1⟩
      · rw [hz.i4] at c_5
        have hdd : deadv (nI xk) (nI (z.1 5)) ≠ 0 := c_5
        refine z_bipush C (pc := 37) (v := (-103)) dX4_would_37 (by decide) ?_
        refine z_goto C (pc := 39) (tgt := 51) dX4_would_39 (by decide) ?_
        refine z_iret C (pc := 51) (i, r) dX4_would_51 ?_ rfl
        rw [show wouldF z (nI xk) (nI yk) (nI fk) what = -103 from (if_neg hbb).trans (if_pos hdd)]
        exact ⟨rfl, hz⟩
    · rw [inl_3] at c_4
      have hP := inl_t c_4
      have hbb : (noMarch (z.1 4) (nI xk) (nI yk) (nI fk) = true ∨ what < 0 ∨ ¬ what ≤ 3) := Or.inr hP
      refine z_bipush C (pc := 23) (v := (-102)) dX4_would_23 (by decide) ?_
      refine z_iret C (pc := 25) (i, r) dX4_would_25 ?_ rfl
      rw [show wouldF z (nI xk) (nI yk) (nI fk) what = -102 from if_pos hbb]
      exact ⟨rfl, hz⟩
