set_option maxHeartbeats 4000000 in
set_option maxRecDepth 100000 in
theorem c_march (l : Launch) (D : va_G) (cI : ClassId) (tt : Nat × Nat × Nat) (a : Nat → Nat) (i : Nat → Int32) (r : Nat → Nat → Int32) (x y f : Int32) (z : SG) (hz : Cls z i r) (vz : VS z) : MetI (S := ((Nat → Int32) × (Nat → Nat → Int32))) l yX3_march cX3_march 4 (some .int) (rm 4 92) D cI tt [.ref (a 0), .int x, .int y, .int f] (cW cI a i r) (fun q u => q = (marchF z x y f).1 ∧ Cls (marchF z x y f).2 u.1 u.2) (fun u => cW cI a u.1 u.2) := by
  have hv := hz.pv vz
  have hc := hz.c vz
  have hh := hz.hv vz
  have hn6 := vz.2.2.2.1
  have hx6 := pow_le6 hn6
  refine met_ofI (by decide) (Nat.le_of_ble_eq_true rfl) ?_
  intro pP eE sS mM aV bB mE cC AA C hin
  refine z_conv (lv' := [(0, .ref (a 0)), (1, .int x), (2, .int y), (3, .int f)]) ⟨rfl, rfl, rfl, rfl, trivial⟩ rfl rfl ?_
  refine z_aload_n C (pc := 0) dX3_march_0 rfl ?_
  refine z_iload_n C (pc := 1) dX3_march_1 rfl ?_
  refine z_iload_n C (pc := 2) dX3_march_2 rfl ?_
  refine z_iload_n C (pc := 3) dX3_march_3 rfl ?_
  refine z_calliF C (by exact fun _ => cW_ad) (runV C (wc := (cW cI a i r)) (pc := 4) (rY' := rm 2 41) (nn := 3) (As := [.int x, .int y, .int f]) (rest := []) (c_isNoMarch l D cI tt a i r x y f (z.1 4) hv.1 hn6) (full_hC _) (full_nd _) ⟨rfl, rfl, ⟨Nat.le_of_ble_eq_true rfl, Nat.le_of_ble_eq_true rfl⟩, Nat.le_of_ble_eq_true rfl, Nat.le_of_ble_eq_true rfl⟩ wl_X3_117 wm_X3_isNoMarch we_X3_isNoMarch wi_X3 wc_X3_isNoMarch (by decide +kernel) rfl 0 rfl rfl rfl rfl (Nat.le_of_ble_eq_true rfl) dX3_march_4) (fun q_1 u_1 h_1 => ?_)
  refine z_ws (st' := [.int q_1]) (ws' := (cW cI a i r)) rfl rfl ?_
  refine z_if_eq C (pc := 7) (tgt := 13) dX3_march_7 (by decide) (fun c_2 => ?_) (fun c_2 => ?_)
  · have hb := b2_f (h_1 ▸ c_2)
    obtain ⟨hb1, hb2, hb3⟩ := march_of hb
    obtain ⟨xk, hx1, hx2, hxx, htx⟩ := people_of hn6 hb1
    obtain ⟨yk, hy1, hy2, hyy, hty⟩ := stage_of hb2
    obtain ⟨fk, hf1, hff, htf⟩ := food_of hb3
    subst hxx hyy hff
    refine z_aload_n C (pc := 13) dX3_march_13 rfl ?_
    refine z_iload_n C (pc := 14) dX3_march_14 rfl ?_
    refine z_calliF C (by exact fun _ => cW_ad) (runV C (wc := (cW cI a i r)) (pc := 15) (rY' := rm 0 0) (nn := 1) (As := [.int (nI xk)]) (rest := []) (c_anyIsDead l D cI tt a i r (nI xk)) (full_hC _) (full_nd _) ⟨rfl, rfl, ⟨Nat.le_of_ble_eq_true rfl, Nat.le_of_ble_eq_true rfl⟩, Nat.le_of_ble_eq_true rfl, Nat.le_of_ble_eq_true rfl⟩ wl_X3_121 wm_X3_anyIsDead we_X3_anyIsDead wi_X3 wc_X3_anyIsDead (by decide +kernel) rfl 0 rfl rfl rfl rfl (Nat.le_of_ble_eq_true rfl) dX3_march_15) (fun q_3 u_3 h_3 => ?_)
    refine z_ws (st' := [.int q_3]) (ws' := (cW cI a i r)) rfl rfl ?_
    refine z_if_eq C (pc := 18) (tgt := 24) dX3_march_18 (by decide) (fun c_4 => ?_) (fun c_4 => ?_)
    · have hda := b2_f (h_3 ▸ c_4)
      rw [hz.1.2.2.2.2.2.1] at hda
      have hdd := of_decide_eq_false hda
      refine z_aload_n C (pc := 24) dX3_march_24 rfl ?_
      refine z_get C (pc := 25) 0 rfl rfl wf_X3 1 (by decide) rfl wl_X3_19 (v := .ref (a 3)) rfl dX3_march_25 ?_
      refine z_aload_n C (pc := 28) dX3_march_28 rfl ?_
      refine z_get C (pc := 29) 0 rfl rfl wf_X3 2 (by decide) rfl wl_X3_26 (v := .ref (a 6)) rfl dX3_march_29 ?_
      refine z_getN C (pc := 32) 6 rfl rfl wf_X2 1 (by decide) rfl wl_X3_77 (v := .ref (a 7)) rfl dX3_march_32 ?_
      refine z_callvF C (by exact fun _ => cW_ad) (runVN C (wc := (cW cI a i r)) (pc := 35) (rY' := rm 2 44) (nn := 1) (As := [.ref (a 7)]) (rest := []) (c_setCairnsN l D cI tt a i r) (full_hC _) (full_nd _) ⟨rfl, rfl, ⟨Nat.le_of_ble_eq_true rfl, Nat.le_of_ble_eq_true rfl⟩, Nat.le_of_ble_eq_true rfl, Nat.le_of_ble_eq_true rfl⟩ wl_X3_124 wm_X1_setCairns we_X1_setCairns wi_X1 wc_X1_setCairns (by decide +kernel) rfl 3 rfl rfl rfl rfl (Nat.le_of_ble_eq_true rfl) dX3_march_35) (fun u_5 h_5 => ?_)
      generalize u_5 = r5 at h_5 ⊢
      obtain ⟨g1, g2⟩ := h_5
      have hc2 : ∀ k, k < 5 → r5 2 k = nI (z.2.1 2 k) ∧ z.2.1 2 k ≤ 9 := fun k hk => ⟨(g2 k hk).trans (hc k hk).1, (hc k hk).2⟩
      refine z_ws (st' := []) (ws' := (cW cI a i r5)) rfl rfl ?_
      refine z_aload_n C (pc := 38) dX3_march_38 rfl ?_
      refine z_get C (pc := 39) 0 rfl rfl wf_X3 1 (by decide) rfl wl_X3_19 (v := .ref (a 3)) rfl dX3_march_39 ?_
      refine z_iload_n C (pc := 42) dX3_march_42 rfl ?_
      refine z_iload_n C (pc := 43) dX3_march_43 rfl ?_
      refine z_iload_n C (pc := 44) dX3_march_44 rfl ?_
      refine z_calliF C (by exact fun _ => cW_ad) (runVN C (wc := (cW cI a i r5)) (pc := 45) (rY' := rm 3 67) (nn := 3) (As := [.int (nI xk), .int (nI yk), .int (nI fk)]) (rest := []) (c_go l D cI tt a i r5 (z.2.1 1) (z.1 4) xk yk fk (hv.sp SP.rf g1) hx2 hy2 hf1 (z.2.1 2) hc2) (full_hC _) (full_nd _) ⟨rfl, rfl, ⟨Nat.le_of_ble_eq_true rfl, Nat.le_of_ble_eq_true rfl⟩, Nat.le_of_ble_eq_true rfl, Nat.le_of_ble_eq_true rfl⟩ wl_X3_128 wm_X1_go we_X1_go wi_X1 wc_X1_go (by decide +kernel) rfl 3 rfl rfl rfl rfl (Nat.le_of_ble_eq_true rfl) dX3_march_45) (fun q_6 u_6 h_6 => ?_)
      obtain ⟨i6, r6⟩ := u_6
      try dsimp only at h_6
      obtain ⟨m0, m1, m2, m5, m6, m9, mc⟩ := h_6
      have hzm := (hz.sp SP.rf g1).sp m1 m2
      refine z_ws (st' := [.int q_6]) (ws' := (cW cI a i6 r6)) rfl rfl ?_
      refine z_pop C (pc := 48) dX3_march_48 rfl ?_
      refine z_aload_n C (pc := 49) dX3_march_49 rfl ?_
      refine z_get C (pc := 50) 0 rfl rfl wf_X3 2 (by decide) rfl wl_X3_26 (v := .ref (a 6)) rfl dX3_march_50 ?_
      refine z_aload_n C (pc := 53) dX3_march_53 rfl ?_
      refine z_get C (pc := 54) 0 rfl rfl wf_X3 2 (by decide) rfl wl_X3_26 (v := .ref (a 6)) rfl dX3_march_54 ?_
      refine z_getN C (pc := 57) 6 rfl rfl wf_X2 0 (by decide) rfl wl_X3_100 (v := .int (i6 10)) rfl dX3_march_57 ?_
      refine z_iload_n C (pc := 60) dX3_march_60 rfl ?_
      refine z_iconst C (pc := 61) (v := (-1)) dX3_march_61 (by decide) ?_
      refine z_ixor C (pc := 62) dX3_march_62 ?_
      refine z_iand C (pc := 63) dX3_march_63 ?_
      refine z_aload_n C (pc := 64) dX3_march_64 rfl ?_
      refine z_get C (pc := 65) 0 rfl rfl wf_X3 1 (by decide) rfl wl_X3_19 (v := .ref (a 3)) rfl dX3_march_65 ?_
      refine z_getN C (pc := 68) 3 rfl rfl wf_X1 3 (by decide) rfl wl_X3_131 (v := .int (i6 5)) rfl dX3_march_68 ?_
      refine z_ior C (pc := 71) dX3_march_71 ?_
      refine z_putN C (pc := 72) 6 rfl rfl wf_X2 0 (by decide) rfl tyX2 tyX2_ok nmX2 rfl rfl rfl (Nat.le_of_ble_eq_true rfl) (ws' := (cW cI a (upd i6 10 (((i6 10) &&& ((nI xk) ^^^ (-1))) ||| (i6 5))) r6)) rfl wl_X3_100 dX3_march_72 ?_
      refine z_aload_n C (pc := 75) dX3_march_75 rfl ?_
      refine z_get C (pc := 76) 0 rfl rfl wf_X3 1 (by decide) rfl wl_X3_19 (v := .ref (a 3)) rfl dX3_march_76 ?_
      refine z_getN C (pc := 79) 3 rfl rfl wf_X1 2 (by decide) rfl wl_X3_132 (v := .ref (a 5)) rfl dX3_march_79 ?_
      refine z_aload_n C (pc := 82) dX3_march_82 rfl ?_
      refine z_get C (pc := 83) 0 rfl rfl wf_X3 2 (by decide) rfl wl_X3_26 (v := .ref (a 6)) rfl dX3_march_83 ?_
      refine z_getN C (pc := 86) 6 rfl rfl wf_X2 1 (by decide) rfl wl_X3_77 (v := .ref (a 7)) rfl dX3_march_86 ?_
      refine z_callv C (isC := [5, 7]) rfl (by exact fun _ => rfl) (runS C (wc := [(a 5, .inl (cI, 5, .inl (r6 2))), (a 7, .inl (cI, 5, .inl (r6 3)))]) (pc := 89) (rY' := rm 1 22) (nn := 2) (As := [.ref (a 5), .ref (a 7)]) (rest := []) (c_copy l D cI tt (a 5) 5 (a 7) 5 (r6 2) (r6 3) (by decide) (by decide)) rfl rfl ⟨rfl, rfl, ⟨Nat.le_of_ble_eq_true rfl, Nat.le_of_ble_eq_true rfl⟩, Nat.le_of_ble_eq_true rfl, Nat.le_of_ble_eq_true rfl⟩ wl_X3_133 ws_X3_copy wi_X3 wc_X3_copy (by decide +kernel) rfl rfl (Nat.le_of_ble_eq_true rfl) dX3_march_89) (fun u_7 h_7 => ?_)
      subst h_7
      refine z_ws (st' := []) (ws' := (cW cI a (upd i6 10 (((i6 10) &&& ((nI xk) ^^^ (-1))) ||| (i6 5))) (va_up r6 3 (cpv 5 (r6 2) 5 (r6 3) 5)))) rfl rfl ?_
      refine z_aload_n C (pc := 92) dX3_march_92 rfl ?_
      refine z_get C (pc := 93) 0 rfl rfl wf_X3 2 (by decide) rfl wl_X3_26 (v := .ref (a 6)) rfl dX3_march_93 ?_
      refine z_dup C (pc := 96) dX3_march_96 rfl ?_
      refine z_getN C (pc := 97) 6 rfl rfl wf_X2 2 (by decide) rfl wl_X3_137 (v := .int (i6 11)) rfl dX3_march_97 ?_
      refine z_iconst C (pc := 100) (v := 1) dX3_march_100 (by decide) ?_
      refine z_iadd C (pc := 101) dX3_march_101 ?_
      refine z_putN C (pc := 102) 6 rfl rfl wf_X2 2 (by decide) rfl tyX2 tyX2_ok nmX2 rfl rfl rfl (Nat.le_of_ble_eq_true rfl) (ws' := (cW cI a (upd (upd i6 10 (((i6 10) &&& ((nI xk) ^^^ (-1))) ||| (i6 5))) 11 ((i6 11) + 1)) (va_up r6 3 (cpv 5 (r6 2) 5 (r6 3) 5)))) rfl wl_X3_137 dX3_march_102 ?_
      refine z_aload_n C (pc := 105) dX3_march_105 rfl ?_
      refine z_get C (pc := 106) 0 rfl rfl wf_X3 1 (by decide) rfl wl_X3_19 (v := .ref (a 3)) rfl dX3_march_106 ?_
      refine z_getN C (pc := 109) 3 rfl rfl wf_X1 3 (by decide) rfl wl_X3_131 (v := .int (i6 5)) rfl dX3_march_109 ?_
      refine z_if_eq C (pc := 112) (tgt := 128) dX3_march_112 (by decide) (fun c_8 => ?_) (fun c_8 => ?_)
      · have hmz : (marS z xk yk fk).1 = 0 := nI_z (by have h1 : MOK (z.2.1 1) (z.1 4) (marS z xk yk fk) := mar_ok hn6 hx2 (fun k hk => (hc k hk).2); have := h1.1.1; omega) (m5 ▸ c_8)
        refine z_aload_n C (pc := 128) dX3_march_128 rfl ?_
        refine z_get C (pc := 129) 0 rfl rfl wf_X3 1 (by decide) rfl wl_X3_19 (v := .ref (a 3)) rfl dX3_march_129 ?_
        refine z_getN C (pc := 132) 3 rfl rfl wf_X1 3 (by decide) rfl wl_X3_131 (v := .int (i6 5)) rfl dX3_march_132 ?_
        refine z_iret C (pc := 135) ((upd (upd (upd i6 10 (((i6 10) &&& ((nI xk) ^^^ (-1))) ||| (i6 5))) 11 ((i6 11) + 1)) 12 (i6 12)), (va_up r6 3 (cpv 5 (r6 2) 5 (r6 3) 5))) dX3_march_135 ?_ rfl
        rw [show marchF z (nI xk) (nI yk) (nI fk) = (nI (marS z xk yk fk).1, (upG (upG (upG z.1 5 (alv (z.1 5) xk (marS z xk yk fk).1)) 6 (z.1 6 + 1)) 7 (z.1 7 + 0), va_up z.2.1 2 (marS z xk yk fk).2.2.1, z.2.2)) from (if_neg (by rw [hb]; decide)).trans ((if_neg hdd).trans (by rw [htx, hty, htf, if_pos hmz]))]
        have hmk : MOK (z.2.1 1) (z.1 4) (marS z xk yk fk) := mar_ok hn6 hx2 (fun k hk => (hc k hk).2)
        refine ⟨m5, cl_march hzm ?_ ?_ (fun k hk => (cpv_k (by decide) hk).trans (mc k hk))⟩
        · rw [hzm.1.2.2.2.2.2.1, m5]; exact march_al hn6 vz.2.2.2.2.1 hx2 hmk.1.1
        · rw [hzm.1.2.2.2.2.2.2.2.1, Nat.add_zero]
      · have hmz : (marS z xk yk fk).1 ≠ 0 := nI_nz (m5 ▸ c_8)
        refine z_aload_n C (pc := 115) dX3_march_115 rfl ?_
        refine z_get C (pc := 116) 0 rfl rfl wf_X3 2 (by decide) rfl wl_X3_26 (v := .ref (a 6)) rfl dX3_march_116 ?_
        refine z_dup C (pc := 119) dX3_march_119 rfl ?_
        refine z_getN C (pc := 120) 6 rfl rfl wf_X2 3 (by decide) rfl wl_X3_140 (v := .int (i6 12)) rfl dX3_march_120 ?_
        refine z_iconst C (pc := 123) (v := 1) dX3_march_123 (by decide) ?_
        refine z_iadd C (pc := 124) dX3_march_124 ?_
        refine z_putN C (pc := 125) 6 rfl rfl wf_X2 3 (by decide) rfl tyX2 tyX2_ok nmX2 rfl rfl rfl (Nat.le_of_ble_eq_true rfl) (ws' := (cW cI a (upd (upd (upd i6 10 (((i6 10) &&& ((nI xk) ^^^ (-1))) ||| (i6 5))) 11 ((i6 11) + 1)) 12 ((i6 12) + 1)) (va_up r6 3 (cpv 5 (r6 2) 5 (r6 3) 5)))) rfl wl_X3_140 dX3_march_125 ?_
        refine z_aload_n C (pc := 128) dX3_march_128 rfl ?_
        refine z_get C (pc := 129) 0 rfl rfl wf_X3 1 (by decide) rfl wl_X3_19 (v := .ref (a 3)) rfl dX3_march_129 ?_
        refine z_getN C (pc := 132) 3 rfl rfl wf_X1 3 (by decide) rfl wl_X3_131 (v := .int (i6 5)) rfl dX3_march_132 ?_
        refine z_iret C (pc := 135) ((upd (upd (upd i6 10 (((i6 10) &&& ((nI xk) ^^^ (-1))) ||| (i6 5))) 11 ((i6 11) + 1)) 12 ((i6 12) + 1)), (va_up r6 3 (cpv 5 (r6 2) 5 (r6 3) 5))) dX3_march_135 ?_ rfl
        rw [show marchF z (nI xk) (nI yk) (nI fk) = (nI (marS z xk yk fk).1, (upG (upG (upG z.1 5 (alv (z.1 5) xk (marS z xk yk fk).1)) 6 (z.1 6 + 1)) 7 (z.1 7 + 1), va_up z.2.1 2 (marS z xk yk fk).2.2.1, z.2.2)) from (if_neg (by rw [hb]; decide)).trans ((if_neg hdd).trans (by rw [htx, hty, htf, if_neg hmz]))]
        have hmk : MOK (z.2.1 1) (z.1 4) (marS z xk yk fk) := mar_ok hn6 hx2 (fun k hk => (hc k hk).2)
        refine ⟨m5, cl_march hzm ?_ ?_ (fun k hk => (cpv_k (by decide) hk).trans (mc k hk))⟩
        · rw [hzm.1.2.2.2.2.2.1, m5]; exact march_al hn6 vz.2.2.2.2.1 hx2 hmk.1.1
        · rw [hzm.1.2.2.2.2.2.2.2.1]; exact nI_1 _
    · have hda := b2_t (h_3 ▸ c_4)
      rw [hz.1.2.2.2.2.2.1] at hda
      have hdd := of_decide_eq_true hda
      refine z_bipush C (pc := 21) (v := (-103)) dX3_march_21 (by decide) ?_
      refine z_iret C (pc := 23) (i, r) dX3_march_23 ?_ rfl
      rw [show marchF z (nI xk) (nI yk) (nI fk) = (-103, z) from (if_neg (by rw [hb]; decide)).trans (if_pos hdd)]
      exact ⟨rfl, hz⟩
  · have hb := b2_t (h_1 ▸ c_2)
    refine z_bipush C (pc := 10) (v := (-102)) dX3_march_10 (by decide) ?_
    refine z_iret C (pc := 12) (i, r) dX3_march_12 ?_ rfl
    rw [show marchF z x y f = (-102, z) from if_pos hb]
    exact ⟨rfl, hz⟩

set_option maxHeartbeats 4000000 in
set_option maxRecDepth 100000 in
theorem c_would (l : Launch) (D : va_G) (cI : ClassId) (tt : Nat × Nat × Nat) (a : Nat → Nat) (i : Nat → Int32) (r : Nat → Nat → Int32) (x y f what : Int32) (z : SG) (hz : Cls z i r) (vz : VS z) : MetI (S := ((Nat → Int32) × (Nat → Nat → Int32))) l yX3_would cX3_would 5 (some .int) (rm 4 92) D cI tt [.ref (a 0), .int x, .int y, .int f, .int what] (cW cI a i r) (fun q u => q = wouldF z x y f what ∧ Cls z u.1 u.2) (fun u => cW cI a u.1 u.2) := by
  have hv := hz.pv vz
  have hc := hz.c vz
  have hh := hz.hv vz
  have hn6 := vz.2.2.2.1
  have hx6 := pow_le6 hn6
  refine met_ofI (by decide) (Nat.le_of_ble_eq_true rfl) ?_
  intro pP eE sS mM aV bB mE cC AA C hin
  refine z_conv (lv' := [(0, .ref (a 0)), (1, .int x), (2, .int y), (3, .int f), (4, .int what)]) ⟨rfl, rfl, rfl, rfl, rfl, trivial⟩ rfl rfl ?_
  refine z_aload_n C (pc := 0) dX3_would_0 rfl ?_
  refine z_iload_n C (pc := 1) dX3_would_1 rfl ?_
  refine z_iload_n C (pc := 2) dX3_would_2 rfl ?_
  refine z_iload_n C (pc := 3) dX3_would_3 rfl ?_
  refine z_calliF C (by exact fun _ => cW_ad) (runV C (wc := (cW cI a i r)) (pc := 4) (rY' := rm 2 41) (nn := 3) (As := [.int x, .int y, .int f]) (rest := []) (c_isNoMarch l D cI tt a i r x y f (z.1 4) hv.1 hn6) (full_hC _) (full_nd _) ⟨rfl, rfl, ⟨Nat.le_of_ble_eq_true rfl, Nat.le_of_ble_eq_true rfl⟩, Nat.le_of_ble_eq_true rfl, Nat.le_of_ble_eq_true rfl⟩ wl_X3_117 wm_X3_isNoMarch we_X3_isNoMarch wi_X3 wc_X3_isNoMarch (by decide +kernel) rfl 0 rfl rfl rfl rfl (Nat.le_of_ble_eq_true rfl) dX3_would_4) (fun q_1 u_1 h_1 => ?_)
  refine z_ws (st' := [.int q_1]) (ws' := (cW cI a i r)) rfl rfl ?_
  refine z_if_ne C (pc := 7) (tgt := 21) dX3_would_7 (by decide) (fun c_2 => ?_) (fun c_2 => ?_)
  · have hb := b2_t (h_1 ▸ c_2)
    have hbb : noMarch (z.1 4) x y f = true ∨ what < 0 ∨ ¬ what ≤ 3 := Or.inl hb
    refine z_bipush C (pc := 21) (v := (-102)) dX3_would_21 (by decide) ?_
    refine z_iret C (pc := 23) (i, r) dX3_would_23 ?_ rfl
    rw [show wouldF z x y f what = -102 from if_pos hbb]
    exact ⟨rfl, hz⟩
  · have hb := b2_f (h_1 ▸ c_2)
    obtain ⟨hb1, hb2, hb3⟩ := march_of hb
    obtain ⟨xk, hx1, hx2, hxx, htx⟩ := people_of hn6 hb1
    obtain ⟨yk, hy1, hy2, hyy, hty⟩ := stage_of hb2
    obtain ⟨fk, hf1, hff, htf⟩ := food_of hb3
    subst hxx hyy hff
    refine z_iload C (pc := 10) dX3_would_10 rfl ?_
    refine z_if_lt C (pc := 12) (tgt := 21) dX3_would_12 (by decide) (fun c_3 => ?_) (fun c_3 => ?_)
    · have hbb : noMarch (z.1 4) (nI xk) (nI yk) (nI fk) = true ∨ what < 0 ∨ ¬ what ≤ 3 := Or.inr (Or.inl c_3)
      refine z_bipush C (pc := 21) (v := (-102)) dX3_would_21 (by decide) ?_
      refine z_iret C (pc := 23) (i, r) dX3_would_23 ?_ rfl
      rw [show wouldF z (nI xk) (nI yk) (nI fk) what = -102 from if_pos hbb]
      exact ⟨rfl, hz⟩
    · refine z_iload C (pc := 15) dX3_would_15 rfl ?_
      refine z_iconst C (pc := 17) (v := 3) dX3_would_17 (by decide) ?_
      refine z_icmp_le C (pc := 18) (tgt := 24) dX3_would_18 (by decide) (fun c_4 => ?_) (fun c_4 => ?_)
      · have hbb : ¬ (noMarch (z.1 4) (nI xk) (nI yk) (nI fk) = true ∨ what < 0 ∨ ¬ what ≤ 3) := fun h => h.elim (fun h => by rw [hb] at h; exact absurd h (by decide)) (fun h => h.elim (fun h => c_3 h) (fun h => h c_4))
        refine z_aload_n C (pc := 24) dX3_would_24 rfl ?_
        refine z_iload_n C (pc := 25) dX3_would_25 rfl ?_
        refine z_calliF C (by exact fun _ => cW_ad) (runV C (wc := (cW cI a i r)) (pc := 26) (rY' := rm 0 0) (nn := 1) (As := [.int (nI xk)]) (rest := []) (c_anyIsDead l D cI tt a i r (nI xk)) (full_hC _) (full_nd _) ⟨rfl, rfl, ⟨Nat.le_of_ble_eq_true rfl, Nat.le_of_ble_eq_true rfl⟩, Nat.le_of_ble_eq_true rfl, Nat.le_of_ble_eq_true rfl⟩ wl_X3_121 wm_X3_anyIsDead we_X3_anyIsDead wi_X3 wc_X3_anyIsDead (by decide +kernel) rfl 0 rfl rfl rfl rfl (Nat.le_of_ble_eq_true rfl) dX3_would_26) (fun q_5 u_5 h_5 => ?_)
        refine z_ws (st' := [.int q_5]) (ws' := (cW cI a i r)) rfl rfl ?_
        refine z_if_eq C (pc := 29) (tgt := 35) dX3_would_29 (by decide) (fun c_6 => ?_) (fun c_6 => ?_)
        · have hda := b2_f (h_5 ▸ c_6)
          rw [hz.1.2.2.2.2.2.1] at hda
          have hdd := of_decide_eq_false hda
          refine z_aload_n C (pc := 35) dX3_would_35 rfl ?_
          refine z_get C (pc := 36) 0 rfl rfl wf_X3 1 (by decide) rfl wl_X3_19 (v := .ref (a 3)) rfl dX3_would_36 ?_
          refine z_aload_n C (pc := 39) dX3_would_39 rfl ?_
          refine z_get C (pc := 40) 0 rfl rfl wf_X3 2 (by decide) rfl wl_X3_26 (v := .ref (a 6)) rfl dX3_would_40 ?_
          refine z_getN C (pc := 43) 6 rfl rfl wf_X2 1 (by decide) rfl wl_X3_77 (v := .ref (a 7)) rfl dX3_would_43 ?_
          refine z_callvF C (by exact fun _ => cW_ad) (runVN C (wc := (cW cI a i r)) (pc := 46) (rY' := rm 2 44) (nn := 1) (As := [.ref (a 7)]) (rest := []) (c_setCairnsN l D cI tt a i r) (full_hC _) (full_nd _) ⟨rfl, rfl, ⟨Nat.le_of_ble_eq_true rfl, Nat.le_of_ble_eq_true rfl⟩, Nat.le_of_ble_eq_true rfl, Nat.le_of_ble_eq_true rfl⟩ wl_X3_124 wm_X1_setCairns we_X1_setCairns wi_X1 wc_X1_setCairns (by decide +kernel) rfl 3 rfl rfl rfl rfl (Nat.le_of_ble_eq_true rfl) dX3_would_46) (fun u_7 h_7 => ?_)
          generalize u_7 = r7 at h_7 ⊢
          obtain ⟨g1, g2⟩ := h_7
          have hc2 : ∀ k, k < 5 → r7 2 k = nI (z.2.1 2 k) ∧ z.2.1 2 k ≤ 9 := fun k hk => ⟨(g2 k hk).trans (hc k hk).1, (hc k hk).2⟩
          refine z_ws (st' := []) (ws' := (cW cI a i r7)) rfl rfl ?_
          refine z_aload_n C (pc := 49) dX3_would_49 rfl ?_
          refine z_get C (pc := 50) 0 rfl rfl wf_X3 1 (by decide) rfl wl_X3_19 (v := .ref (a 3)) rfl dX3_would_50 ?_
          refine z_iload_n C (pc := 53) dX3_would_53 rfl ?_
          refine z_iload_n C (pc := 54) dX3_would_54 rfl ?_
          refine z_iload_n C (pc := 55) dX3_would_55 rfl ?_
          refine z_calliF C (by exact fun _ => cW_ad) (runVN C (wc := (cW cI a i r7)) (pc := 56) (rY' := rm 3 67) (nn := 3) (As := [.int (nI xk), .int (nI yk), .int (nI fk)]) (rest := []) (c_go l D cI tt a i r7 (z.2.1 1) (z.1 4) xk yk fk (hv.sp SP.rf g1) hx2 hy2 hf1 (z.2.1 2) hc2) (full_hC _) (full_nd _) ⟨rfl, rfl, ⟨Nat.le_of_ble_eq_true rfl, Nat.le_of_ble_eq_true rfl⟩, Nat.le_of_ble_eq_true rfl, Nat.le_of_ble_eq_true rfl⟩ wl_X3_128 wm_X1_go we_X1_go wi_X1 wc_X1_go (by decide +kernel) rfl 3 rfl rfl rfl rfl (Nat.le_of_ble_eq_true rfl) dX3_would_56) (fun q_8 u_8 h_8 => ?_)
          obtain ⟨i8, r8⟩ := u_8
          try dsimp only at h_8
          obtain ⟨m0, m1, m2, m5, m6, m9, mc⟩ := h_8
          have hzm := (hz.sp SP.rf g1).sp m1 m2
          refine z_ws (st' := [.int q_8]) (ws' := (cW cI a i8 r8)) rfl rfl ?_
          refine z_pop C (pc := 59) dX3_would_59 rfl ?_
          refine z_iload C (pc := 60) dX3_would_60 rfl ?_
          by_cases c_9 : what = 0
          · refine z_tableIn C (pc := 62) (tgt := 88) (off := 26) dX3_would_62 (by rw [c_9]; decide) (by rw [c_9]; decide) (by rw [c_9]; rfl) (by decide) ?_
            refine z_aload_n C (pc := 88) dX3_would_88 rfl ?_
            refine z_get C (pc := 89) 0 rfl rfl wf_X3 1 (by decide) rfl wl_X3_19 (v := .ref (a 3)) rfl dX3_would_89 ?_
            refine z_getN C (pc := 92) 3 rfl rfl wf_X1 3 (by decide) rfl wl_X3_131 (v := .int (i8 5)) rfl dX3_would_92 ?_
            refine z_iret C (pc := 95) (i8, r8) dX3_would_95 ?_ rfl
            rw [show wouldF z (nI xk) (nI yk) (nI fk) what = tellM (marS z xk yk fk) what from (if_neg hbb).trans ((if_neg hdd).trans (by rw [htx, hty, htf]))]
            refine ⟨?_, hzm⟩
            unfold tellM
            rw [if_pos c_9]; exact m5
          by_cases c_10 : what = 1
          · refine z_tableIn C (pc := 62) (tgt := 96) (off := 34) dX3_would_62 (by rw [c_10]; decide) (by rw [c_10]; decide) (by rw [c_10]; rfl) (by decide) ?_
            refine z_aload_n C (pc := 96) dX3_would_96 rfl ?_
            refine z_get C (pc := 97) 0 rfl rfl wf_X3 1 (by decide) rfl wl_X3_19 (v := .ref (a 3)) rfl dX3_would_97 ?_
            refine z_getN C (pc := 100) 3 rfl rfl wf_X1 4 (by decide) rfl wl_X3_143 (v := .int (i8 6)) rfl dX3_would_100 ?_
            refine z_iret C (pc := 103) (i8, r8) dX3_would_103 ?_ rfl
            rw [show wouldF z (nI xk) (nI yk) (nI fk) what = tellM (marS z xk yk fk) what from (if_neg hbb).trans ((if_neg hdd).trans (by rw [htx, hty, htf]))]
            refine ⟨?_, hzm⟩
            unfold tellM
            rw [if_neg c_9, if_pos c_10]; exact m6
          by_cases c_11 : what = 2
          · refine z_tableIn C (pc := 62) (tgt := 104) (off := 42) dX3_would_62 (by rw [c_11]; decide) (by rw [c_11]; decide) (by rw [c_11]; rfl) (by decide) ?_
            refine z_aload_n C (pc := 104) dX3_would_104 rfl ?_
            refine z_get C (pc := 105) 0 rfl rfl wf_X3 1 (by decide) rfl wl_X3_19 (v := .ref (a 3)) rfl dX3_would_105 ?_
            refine z_getN C (pc := 108) 3 rfl rfl wf_X1 2 (by decide) rfl wl_X3_132 (v := .ref (a 5)) rfl dX3_would_108 ?_
            refine z_calli C (isC := [5]) rfl (by exact fun _ => rfl) (runS C (wc := [(a 5, .inl (cI, 5, .inl (r8 2)))]) (pc := 111) (rY' := rm 0 0) (nn := 1) (As := [.ref (a 5)]) (rest := []) (c_sum l D cI tt (a 5) 5 (r8 2) (by decide)) rfl rfl ⟨rfl, rfl, ⟨Nat.le_of_ble_eq_true rfl, Nat.le_of_ble_eq_true rfl⟩, Nat.le_of_ble_eq_true rfl, Nat.le_of_ble_eq_true rfl⟩ wl_X3_146 ws_X3_sum wi_X3 wc_X3_sum (by decide +kernel) rfl rfl (Nat.le_of_ble_eq_true rfl) dX3_would_111) (fun r_12 u_12 h_12 => ?_)
            subst h_12
            refine z_ws (st' := [.int (sumv (r8 2) 5)]) (ws' := (cW cI a i8 r8)) rfl rfl ?_
            refine z_iret C (pc := 114) (i8, r8) dX3_would_114 ?_ rfl
            rw [show wouldF z (nI xk) (nI yk) (nI fk) what = tellM (marS z xk yk fk) what from (if_neg hbb).trans ((if_neg hdd).trans (by rw [htx, hty, htf]))]
            refine ⟨?_, hzm⟩
            unfold tellM
            rw [if_neg c_9, if_neg c_10, if_pos c_11]; exact sum_nI mc
          refine z_tableOut C (pc := 62) (tgt := 115) dX3_would_62 (by have q0 := lv_neT c_9 (a := 0) rfl; have q1 := lv_neT c_10 (a := 1) rfl; have q2 := lv_neT c_11 (a := 2) rfl; omega) (by decide) ?_
          refine z_aload_n C (pc := 115) dX3_would_115 rfl ?_
          refine z_get C (pc := 116) 0 rfl rfl wf_X3 1 (by decide) rfl wl_X3_19 (v := .ref (a 3)) rfl dX3_would_116 ?_
          refine z_getN C (pc := 119) 3 rfl rfl wf_X1 7 (by decide) rfl wl_X3_150 (v := .int (i8 9)) rfl dX3_would_119 ?_
          refine z_iret C (pc := 122) (i8, r8) dX3_would_122 ?_ rfl
          rw [show wouldF z (nI xk) (nI yk) (nI fk) what = tellM (marS z xk yk fk) what from (if_neg hbb).trans ((if_neg hdd).trans (by rw [htx, hty, htf]))]
          refine ⟨?_, hzm⟩
          unfold tellM
          rw [if_neg c_9, if_neg c_10, if_neg c_11]; exact m9
        · have hda := b2_t (h_5 ▸ c_6)
          rw [hz.1.2.2.2.2.2.1] at hda
          have hdd := of_decide_eq_true hda
          refine z_bipush C (pc := 32) (v := (-103)) dX3_would_32 (by decide) ?_
          refine z_iret C (pc := 34) (i, r) dX3_would_34 ?_ rfl
          rw [show wouldF z (nI xk) (nI yk) (nI fk) what = -103 from (if_neg hbb).trans (if_pos hdd)]
          exact ⟨rfl, hz⟩
      · have hbb : noMarch (z.1 4) (nI xk) (nI yk) (nI fk) = true ∨ what < 0 ∨ ¬ what ≤ 3 := Or.inr (Or.inr c_4)
        refine z_bipush C (pc := 21) (v := (-102)) dX3_would_21 (by decide) ?_
        refine z_iret C (pc := 23) (i, r) dX3_would_23 ?_ rfl
        rw [show wouldF z (nI xk) (nI yk) (nI fk) what = -102 from if_pos hbb]
        exact ⟨rfl, hz⟩



