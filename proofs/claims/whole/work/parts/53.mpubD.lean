set_option maxHeartbeats 4000000 in
set_option maxRecDepth 100000 in
theorem m_need (l : Launch) (D : va_G) (cI : ClassId) (tt : Nat × Nat × Nat) (b : Nat → Nat) (i : Nat → Int32) (r : Nat → Nat → Int32) (h : Int64) (x y : Int32) (z : SG) (hz : Mdl z i r) (vz : VS z) : MetI (S := ((Nat → Int32) × (Nat → Nat → Int32))) l yX4_need cX4_need 3 (some .int) (rm 8 187) D cI tt [.ref (b 0), .int x, .int y] (mW cI b i r h) (fun q u => q = needF z x y ∧ Mdl z u.1 u.2) (fun u => mW cI b u.1 u.2 h) := by
  have hv := hz.pv vz
  have hc := hz.c vz
  have hh := hz.hv vz
  have hn6 := vz.2.2.2.1
  have hx6 := pow_le6 hn6
  have v3 := vz.2.2.1
  have v5 := vz.2.2.2.2.1
  have v8 := vz.2.2.2.2.2.1
  refine met_ofI (by decide) (Nat.le_of_ble_eq_true rfl) ?_
  intro pP eE sS mM aV bB mE cC AA C hin
  refine z_conv (lv' := [(0, .ref (b 0)), (1, .int x), (2, .int y)]) ⟨rfl, rfl, rfl, trivial⟩ rfl rfl ?_
  refine z_aload_n C (pc := 0) dX4_need_0 rfl ?_
  refine z_iload_n C (pc := 1) dX4_need_1 rfl ?_
  refine z_calliF C (by exact fun _ => mW_ad) (runV C (wc := (mW cI b i r h)) (pc := 2) (rY' := rm 1 25) (nn := 1) (As := [.int x]) (rest := []) (m_areMembers l D cI tt b i r h x (z.1 4) hz.i3 hn6) (full_hC _) (full_nd _) ⟨rfl, rfl, ⟨Nat.le_of_ble_eq_true rfl, Nat.le_of_ble_eq_true rfl⟩, Nat.le_of_ble_eq_true rfl, Nat.le_of_ble_eq_true rfl⟩ wl_X4_163 wm_X4_areMembers we_X4_areMembers wi_X4 wc_X4_areMembers (by decide +kernel) rfl 0 rfl rfl rfl rfl (Nat.le_of_ble_eq_true rfl) dX4_need_2) (fun q_1 u_1 h_1 => ?_)
  subst h_1
  refine z_ws (st' := [.int (b2 (!noPeople (z.1 4) x))]) (ws' := (mW cI b i r h)) rfl rfl ?_
  refine z_if_eq C (pc := 5) (tgt := 20) dX4_need_5 (by decide) (fun c_2 => ?_) (fun c_2 => ?_)
  · have hbb : noPeople (z.1 4) x = true ∨ noStage y = true := Or.inl (b2n_t c_2)
    refine z_bipush C (pc := 20) (v := (-102)) dX4_need_20 (by decide) ?_
    refine z_iret C (pc := 22) (i, r) dX4_need_22 ?_ rfl
    rw [show needF z x y = -102 from if_pos hbb]
    exact ⟨rfl, hz⟩
  · have hb1 := b2n_f c_2
    refine z_iload_n C (pc := 8) dX4_need_8 rfl ?_
    refine z_i2l C (pc := 9) dX4_need_9 ?_
    refine z_lconst C (pc := 10) (v := 1) dX4_need_10 (by decide) ?_
    refine z_ldc2 C (pc := 11) (v := 6) wl_X4_166 dX4_need_11 ?_
    refine z_calli C (isC := []) rfl (by exact fun _ => rfl) (runS C (wc := []) (pc := 14) (rY' := rm 0 0) (nn := 3) (As := [.long y.toInt64, .long 1, .long 6]) (rest := []) (m_in l D cI tt y.toInt64 1 6) rfl rfl ⟨rfl, rfl, ⟨Nat.le_of_ble_eq_true rfl, Nat.le_of_ble_eq_true rfl⟩, Nat.le_of_ble_eq_true rfl, Nat.le_of_ble_eq_true rfl⟩ wl_X4_43 ws_X4_in wi_X4 wc_X4_in (by decide +kernel) rfl rfl (Nat.le_of_ble_eq_true rfl) dX4_need_14) (fun r_3 u_3 h_3 => ?_)
    subst h_3
    refine z_ws (st' := [.int (b2 (inb y.toInt64 1 6))]) (ws' := (mW cI b i r h)) rfl rfl ?_
    refine z_if_ne C (pc := 17) (tgt := 23) dX4_need_17 (by decide) (fun c_4 => ?_) (fun c_4 => ?_)
    · rw [inb_stage] at c_4
      have hb2 := b2n_f c_4
      have hbb : ¬ (noPeople (z.1 4) x = true ∨ noStage y = true) := by rw [hb1, hb2]; decide
      obtain ⟨xk, hx1, hx2, hxx, htx⟩ := people_of hn6 hb1
      obtain ⟨yk, hy1, hy2, hyy, hty⟩ := stage_of hb2
      subst hxx hyy
      refine z_iload_n C (pc := 23) dX4_need_23 rfl ?_
      refine z_aload_n C (pc := 24) dX4_need_24 rfl ?_
      refine z_get C (pc := 25) 0 rfl rfl wf_X4 4 (by decide) rfl wl_X4_72 (v := .int (i 4)) rfl dX4_need_25 ?_
      refine z_iconst C (pc := 28) (v := (-1)) dX4_need_28 (by decide) ?_
      refine z_ixor C (pc := 29) dX4_need_29 ?_
      refine z_iand C (pc := 30) dX4_need_30 ?_
      refine z_if_eq C (pc := 31) (tgt := 39) dX4_need_31 (by decide) (fun c_5 => ?_) (fun c_5 => ?_)
      · rw [hz.i4] at c_5
        have hdd : ¬ deadv (nI xk) (nI (z.1 5)) ≠ 0 := fun e => e c_5
        refine z_aload_n C (pc := 39) dX4_need_39 rfl ?_
        refine z_iload_n C (pc := 40) dX4_need_40 rfl ?_
        refine z_iload_n C (pc := 41) dX4_need_41 rfl ?_
        refine z_aload_n C (pc := 42) dX4_need_42 rfl ?_
        refine z_get C (pc := 43) 0 rfl rfl wf_X4 9 (by decide) rfl wl_X4_16 (v := .ref (b 3)) rfl dX4_need_43 ?_
        refine z_calliF C (by exact fun _ => mW_ad) (runV C (wc := (mW cI b i r h)) (pc := 46) (rY' := rm 7 162) (nn := 3) (As := [.int (nI xk), .int (nI yk), .ref (b 3)]) (rest := []) (m_needOfF l D cI tt b i r h (z.2.1 1) (z.1 4) hv xk yk hx2 hy2 hy1 (z.2.1 2) hc) (full_hC _) (full_nd _) ⟨rfl, rfl, ⟨Nat.le_of_ble_eq_true rfl, Nat.le_of_ble_eq_true rfl⟩, Nat.le_of_ble_eq_true rfl, Nat.le_of_ble_eq_true rfl⟩ wl_X4_188 wm_X4_needOf we_X4_needOf wi_X4 wc_X4_needOf (by decide +kernel) rfl 0 rfl rfl rfl rfl (Nat.le_of_ble_eq_true rfl) dX4_need_46) (fun q_6 u_6 h_6 => ?_)
        obtain ⟨i6, r6⟩ := u_6
        try dsimp only at h_6
        obtain ⟨k0, k1, k2⟩ := h_6
        refine z_ws (st' := [.int q_6]) (ws' := (mW cI b i6 r6 h)) rfl rfl ?_
        refine z_iret C (pc := 49) (i6, r6) dX4_need_49 ?_ rfl
        rw [show needF z (nI xk) (nI yk) = needv (z.2.1 1) (z.1 4) xk yk (z.2.1 2) from (if_neg hbb).trans ((if_neg hdd).trans (by rw [htx, hty]))]
        exact ⟨k0, hz.sr k1 k2⟩
      · rw [hz.i4] at c_5
        have hdd : deadv (nI xk) (nI (z.1 5)) ≠ 0 := c_5
        refine z_bipush C (pc := 34) (v := (-103)) dX4_need_34 (by decide) ?_
        refine z_goto C (pc := 36) (tgt := 49) dX4_need_36 (by decide) ?_
        refine z_iret C (pc := 49) (i, r) dX4_need_49 ?_ rfl
        rw [show needF z (nI xk) (nI yk) = -103 from (if_neg hbb).trans (if_pos hdd)]
        exact ⟨rfl, hz⟩
    · rw [inb_stage] at c_4
      have hbb : noPeople (z.1 4) x = true ∨ noStage y = true := Or.inr (b2n_t c_4)
      refine z_bipush C (pc := 20) (v := (-102)) dX4_need_20 (by decide) ?_
      refine z_iret C (pc := 22) (i, r) dX4_need_22 ?_ rfl
      rw [show needF z x y = -102 from if_pos hbb]
      exact ⟨rfl, hz⟩

set_option maxHeartbeats 4000000 in
set_option maxRecDepth 100000 in
theorem m_far (l : Launch) (D : va_G) (cI : ClassId) (tt : Nat × Nat × Nat) (b : Nat → Nat) (i : Nat → Int32) (r : Nat → Nat → Int32) (h : Int64) (x : Int32) (z : SG) (hz : Mdl z i r) (vz : VS z) : MetI (S := ((Nat → Int32) × (Nat → Nat → Int32))) l yX4_far cX4_far 2 (some .int) (rm 9 211) D cI tt [.ref (b 0), .int x] (mW cI b i r h) (fun q u => q = farF z x ∧ Mdl z u.1 u.2) (fun u => mW cI b u.1 u.2 h) := by
  have hv := hz.pv vz
  have hc := hz.c vz
  have hh := hz.hv vz
  have hn6 := vz.2.2.2.1
  have hx6 := pow_le6 hn6
  have v3 := vz.2.2.1
  have v5 := vz.2.2.2.2.1
  have v8 := vz.2.2.2.2.2.1
  refine met_ofI (by decide) (Nat.le_of_ble_eq_true rfl) ?_
  intro pP eE sS mM aV bB mE cC AA C hin
  refine z_conv (lv' := [(0, .ref (b 0)), (1, .int x)]) ⟨rfl, rfl, trivial⟩ rfl rfl ?_
  refine z_aload_n C (pc := 0) dX4_far_0 rfl ?_
  refine z_iload_n C (pc := 1) dX4_far_1 rfl ?_
  refine z_calliF C (by exact fun _ => mW_ad) (runV C (wc := (mW cI b i r h)) (pc := 2) (rY' := rm 1 25) (nn := 1) (As := [.int x]) (rest := []) (m_areMembers l D cI tt b i r h x (z.1 4) hz.i3 hn6) (full_hC _) (full_nd _) ⟨rfl, rfl, ⟨Nat.le_of_ble_eq_true rfl, Nat.le_of_ble_eq_true rfl⟩, Nat.le_of_ble_eq_true rfl, Nat.le_of_ble_eq_true rfl⟩ wl_X4_163 wm_X4_areMembers we_X4_areMembers wi_X4 wc_X4_areMembers (by decide +kernel) rfl 0 rfl rfl rfl rfl (Nat.le_of_ble_eq_true rfl) dX4_far_2) (fun q_1 u_1 h_1 => ?_)
  subst h_1
  refine z_ws (st' := [.int (b2 (!noPeople (z.1 4) x))]) (ws' := (mW cI b i r h)) rfl rfl ?_
  refine z_if_ne C (pc := 5) (tgt := 11) dX4_far_5 (by decide) (fun c_2 => ?_) (fun c_2 => ?_)
  · have hb := b2n_f c_2
    obtain ⟨xk, hx1, hx2, hxx, htx⟩ := people_of hn6 hb
    subst hxx
    refine z_iload_n C (pc := 11) dX4_far_11 rfl ?_
    refine z_aload_n C (pc := 12) dX4_far_12 rfl ?_
    refine z_get C (pc := 13) 0 rfl rfl wf_X4 4 (by decide) rfl wl_X4_72 (v := .int (i 4)) rfl dX4_far_13 ?_
    refine z_iconst C (pc := 16) (v := (-1)) dX4_far_16 (by decide) ?_
    refine z_ixor C (pc := 17) dX4_far_17 ?_
    refine z_iand C (pc := 18) dX4_far_18 ?_
    refine z_if_eq C (pc := 19) (tgt := 27) dX4_far_19 (by decide) (fun c_3 => ?_) (fun c_3 => ?_)
    · rw [hz.i4] at c_3
      have hdd : ¬ deadv (nI xk) (nI (z.1 5)) ≠ 0 := fun e => e c_3
      refine z_aload_n C (pc := 27) dX4_far_27 rfl ?_
      refine z_iload_n C (pc := 28) dX4_far_28 rfl ?_
      refine z_aload_n C (pc := 29) dX4_far_29 rfl ?_
      refine z_get C (pc := 30) 0 rfl rfl wf_X4 9 (by decide) rfl wl_X4_16 (v := .ref (b 3)) rfl dX4_far_30 ?_
      refine z_calliF C (by exact fun _ => mW_ad) (runV C (wc := (mW cI b i r h)) (pc := 33) (rY' := rm 8 187) (nn := 2) (As := [.int (nI xk), .ref (b 3)]) (rest := []) (m_farOfF l D cI tt b i r h (z.2.1 1) (z.1 4) hv xk hx2 (by omega) (z.2.1 2) hc) (full_hC _) (full_nd _) ⟨rfl, rfl, ⟨Nat.le_of_ble_eq_true rfl, Nat.le_of_ble_eq_true rfl⟩, Nat.le_of_ble_eq_true rfl, Nat.le_of_ble_eq_true rfl⟩ wl_X4_192 wm_X4_farOf we_X4_farOf wi_X4 wc_X4_farOf (by decide +kernel) rfl 0 rfl rfl rfl rfl (Nat.le_of_ble_eq_true rfl) dX4_far_33) (fun q_4 u_4 h_4 => ?_)
      obtain ⟨i4, r4⟩ := u_4
      try dsimp only at h_4
      obtain ⟨k0, k1, k2⟩ := h_4
      refine z_ws (st' := [.int q_4]) (ws' := (mW cI b i4 r4 h)) rfl rfl ?_
      refine z_iret C (pc := 36) (i4, r4) dX4_far_36 ?_ rfl
      rw [show farF z (nI xk) = nI (farv (z.2.1 1) (z.1 4) xk (z.2.1 2)) from (if_neg (by rw [hb]; decide)).trans ((if_neg hdd).trans (by rw [htx]))]
      exact ⟨k0, hz.sr k1 k2⟩
    · rw [hz.i4] at c_3
      have hdd : deadv (nI xk) (nI (z.1 5)) ≠ 0 := c_3
      refine z_bipush C (pc := 22) (v := (-103)) dX4_far_22 (by decide) ?_
      refine z_goto C (pc := 24) (tgt := 36) dX4_far_24 (by decide) ?_
      refine z_iret C (pc := 36) (i, r) dX4_far_36 ?_ rfl
      rw [show farF z (nI xk) = -103 from (if_neg (by rw [hb]; decide)).trans (if_pos hdd)]
      exact ⟨rfl, hz⟩
  · have hb := b2n_t c_2
    refine z_bipush C (pc := 8) (v := (-102)) dX4_far_8 (by decide) ?_
    refine z_iret C (pc := 10) (i, r) dX4_far_10 ?_ rfl
    rw [show farF z x = -102 from if_pos hb]
    exact ⟨rfl, hz⟩

set_option maxHeartbeats 4000000 in
set_option maxRecDepth 100000 in
theorem m_team (l : Launch) (D : va_G) (cI : ClassId) (tt : Nat × Nat × Nat) (b : Nat → Nat) (i : Nat → Int32) (r : Nat → Nat → Int32) (h : Int64) (y : Int32) (z : SG) (hz : Mdl z i r) (vz : VS z) : MetI (S := ((Nat → Int32) × (Nat → Nat → Int32))) l yX4_team cX4_team 2 (some .int) (rm 9 211) D cI tt [.ref (b 0), .int y] (mW cI b i r h) (fun q u => q = (teamF z y).1 ∧ Mdl (teamF z y).2 u.1 u.2) (fun u => mW cI b u.1 u.2 h) := by
  have hv := hz.pv vz
  have hc := hz.c vz
  have hh := hz.hv vz
  have hn6 := vz.2.2.2.1
  have hx6 := pow_le6 hn6
  have v3 := vz.2.2.1
  have v5 := vz.2.2.2.2.1
  have v8 := vz.2.2.2.2.2.1
  refine met_ofI (by decide) (Nat.le_of_ble_eq_true rfl) ?_
  intro pP eE sS mM aV bB mE cC AA C hin
  refine z_conv (lv' := [(0, .ref (b 0)), (1, .int y)]) ⟨rfl, rfl, trivial⟩ rfl rfl ?_
  refine z_iload_n C (pc := 0) dX4_team_0 rfl ?_
  refine z_i2l C (pc := 1) dX4_team_1 ?_
  refine z_lconst C (pc := 2) (v := 1) dX4_team_2 (by decide) ?_
  refine z_ldc2 C (pc := 3) (v := 6) wl_X4_166 dX4_team_3 ?_
  refine z_calli C (isC := []) rfl (by exact fun _ => rfl) (runS C (wc := []) (pc := 6) (rY' := rm 0 0) (nn := 3) (As := [.long y.toInt64, .long 1, .long 6]) (rest := []) (m_in l D cI tt y.toInt64 1 6) rfl rfl ⟨rfl, rfl, ⟨Nat.le_of_ble_eq_true rfl, Nat.le_of_ble_eq_true rfl⟩, Nat.le_of_ble_eq_true rfl, Nat.le_of_ble_eq_true rfl⟩ wl_X4_43 ws_X4_in wi_X4 wc_X4_in (by decide +kernel) rfl rfl (Nat.le_of_ble_eq_true rfl) dX4_team_6) (fun r_1 u_1 h_1 => ?_)
  subst h_1
  refine z_ws (st' := [.int (b2 (inb y.toInt64 1 6))]) (ws' := (mW cI b i r h)) rfl rfl ?_
  refine z_if_ne C (pc := 9) (tgt := 15) dX4_team_9 (by decide) (fun c_2 => ?_) (fun c_2 => ?_)
  · rw [inb_stage] at c_2
    have hb := b2n_f c_2
    obtain ⟨yk, hy1, hy2, hyy, hty⟩ := stage_of hb
    subst hyy
    refine z_aload_n C (pc := 15) dX4_team_15 rfl ?_
    refine z_calliF C (by exact fun _ => mW_ad) (runV C (wc := (mW cI b i r h)) (pc := 16) (rY' := rm 0 0) (nn := 0) (As := []) (rest := []) (m_lacks l D cI tt b i r h (z.1 4) hz.i3 hn6) (full_hC _) (full_nd _) ⟨rfl, rfl, ⟨Nat.le_of_ble_eq_true rfl, Nat.le_of_ble_eq_true rfl⟩, Nat.le_of_ble_eq_true rfl, Nat.le_of_ble_eq_true rfl⟩ wl_X4_87 wm_X4_lacks we_X4_lacks wi_X4 wc_X4_lacks (by decide +kernel) rfl 0 rfl rfl rfl rfl (Nat.le_of_ble_eq_true rfl) dX4_team_16) (fun q_3 u_3 h_3 => ?_)
    subst h_3
    refine z_ws (st' := [.int (b2 (decide (z.1 4 = 0)))]) (ws' := (mW cI b i r h)) rfl rfl ?_
    refine z_if_ne C (pc := 19) (tgt := 31) dX4_team_19 (by decide) (fun c_4 => ?_) (fun c_4 => ?_)
    · have hs : z.1 4 = 0 ∨ 20 ≤ z.1 2 := Or.inl (of_decide_eq_true (b2_t c_4))
      refine z_bipush C (pc := 31) (v := (-103)) dX4_team_31 (by decide) ?_
      refine z_iret C (pc := 33) (i, r) dX4_team_33 ?_ rfl
      rw [show teamF z (nI yk) = (-103, z) from (if_neg (by rw [hb]; decide)).trans (if_pos hs)]
      exact ⟨rfl, hz⟩
    · have hn0 : z.1 4 ≠ 0 := of_decide_eq_false (b2_f c_4)
      refine z_aload_n C (pc := 22) dX4_team_22 rfl ?_
      refine z_get C (pc := 23) 0 rfl rfl wf_X4 14 (by decide) rfl wl_X4_199 (v := .int (i 14)) rfl dX4_team_23 ?_
      refine z_bipush C (pc := 26) (v := 20) dX4_team_26 (by decide) ?_
      refine z_icmp_ne C (pc := 28) (tgt := 34) dX4_team_28 (by decide) (fun c_5 => ?_) (fun c_5 => ?_)
      · rw [hz.i14] at c_5
        have h20 : z.1 2 ≠ 20 := fun e => c_5 (by rw [e]; rfl)
        have hs : ¬ (z.1 4 = 0 ∨ 20 ≤ z.1 2) := by
          have := vz.2.1
          omega
        refine z_aload_n C (pc := 34) dX4_team_34 rfl ?_
        refine z_dup C (pc := 35) dX4_team_35 rfl ?_
        refine z_get C (pc := 36) 0 rfl rfl wf_X4 14 (by decide) rfl wl_X4_199 (v := .int (i 14)) rfl dX4_team_36 ?_
        refine z_iconst C (pc := 39) (v := 1) dX4_team_39 (by decide) ?_
        refine z_iadd C (pc := 40) dX4_team_40 ?_
        refine z_put C (pc := 41) 0 rfl rfl wf_X4 14 (by decide) rfl tyX4 tyX4_ok nmX4 rfl rfl rfl (Nat.le_of_ble_eq_true rfl) (ws' := (mW cI b (upd i 14 ((i 14) + 1)) r h)) rfl wl_X4_199 dX4_team_41 ?_
        have vz' : VS (upG z.1 2 (z.1 2 + 1), z.2) := by
          have h1 := vs_team vz (nI yk)
          rw [(show teamF z (nI yk) = (teamv (z.2.1 1) (z.1 4) (z.1 5) yk (z.2.1 2), (upG z.1 2 (z.1 2 + 1), z.2)) from (if_neg (by rw [hb]; decide)).trans ((if_neg hs).trans (by rw [hty])))] at h1
          exact h1
        have hzt := ml_team hz
        refine z_aload_n C (pc := 44) dX4_team_44 rfl ?_
        refine z_iload_n C (pc := 45) dX4_team_45 rfl ?_
        refine z_calliF C (by exact fun _ => mW_ad) (runV C (wc := (mW cI b (upd i 14 ((i 14) + 1)) r h)) (pc := 46) (rY' := rm 8 187) (nn := 1) (As := [.int (nI yk)]) (rest := []) (m_teamOf l D cI tt b (upd i 14 ((i 14) + 1)) r h (z.2.1 1) (z.1 4) (hzt.pv vz') (z.1 5) yk hz.i4 hy2 hy1 (z.2.1 2) hc) (full_hC _) (full_nd _) ⟨rfl, rfl, ⟨Nat.le_of_ble_eq_true rfl, Nat.le_of_ble_eq_true rfl⟩, Nat.le_of_ble_eq_true rfl, Nat.le_of_ble_eq_true rfl⟩ wl_X4_202 wm_X4_teamOf we_X4_teamOf wi_X4 wc_X4_teamOf (by decide +kernel) rfl 0 rfl rfl rfl rfl (Nat.le_of_ble_eq_true rfl) dX4_team_46) (fun q_6 u_6 h_6 => ?_)
        obtain ⟨i6, r6⟩ := u_6
        try dsimp only at h_6
        obtain ⟨k0, k1, k2⟩ := h_6
        refine z_ws (st' := [.int q_6]) (ws' := (mW cI b i6 r6 h)) rfl rfl ?_
        refine z_iret C (pc := 49) (i6, r6) dX4_team_49 ?_ rfl
        rw [(show teamF z (nI yk) = (teamv (z.2.1 1) (z.1 4) (z.1 5) yk (z.2.1 2), (upG z.1 2 (z.1 2 + 1), z.2)) from (if_neg (by rw [hb]; decide)).trans ((if_neg hs).trans (by rw [hty])))]
        exact ⟨k0, hzt.sr k1 k2⟩
      · rw [hz.i14] at c_5
        have hs : z.1 4 = 0 ∨ 20 ≤ z.1 2 := Or.inr (by have := (nI_eq (b := 20) (by have := vz.2.1; omega) (by decide)).mp c_5; omega)
        refine z_bipush C (pc := 31) (v := (-103)) dX4_team_31 (by decide) ?_
        refine z_iret C (pc := 33) (i, r) dX4_team_33 ?_ rfl
        rw [show teamF z (nI yk) = (-103, z) from (if_neg (by rw [hb]; decide)).trans (if_pos hs)]
        exact ⟨rfl, hz⟩
  · rw [inb_stage] at c_2
    have hb := b2n_t c_2
    refine z_bipush C (pc := 12) (v := (-102)) dX4_team_12 (by decide) ?_
    refine z_iret C (pc := 14) (i, r) dX4_team_14 ?_ rfl
    rw [show teamF z y = (-102, z) from if_pos hb]
    exact ⟨rfl, hz⟩
