set_option maxHeartbeats 4000000 in
set_option maxRecDepth 100000 in
theorem m_countOf (l : Launch) (D : va_G) (cI : ClassId) (tt : Nat × Nat × Nat) (b : Nat → Nat) (i : Nat → Int32) (r : Nat → Nat → Int32) (h : Int64) (what : Int32) (z : SG) (hz : Mdl z i r) (vz : VS z) : MetI (S := Unit) l yX4_countOf cX4_countOf 2 (some .int) (rm 2 44) D cI tt [.ref (b 0), .int what] (mW cI b i r h) (fun q _ => q = countF z what) (fun _ => mW cI b i r h) := by
  have hv := hz.pv vz
  have hc := hz.c vz
  have hh := hz.hv vz
  have hn6 := vz.2.2.2.1
  have hx6 := pow_le6 hn6
  have v3 := vz.2.2.1
  have v5 := vz.2.2.2.2.1
  have v8 := vz.2.2.2.2.2.1
  refine met_ofI (by decide) (Nat.le_of_ble_eq_true rfl) ?_
  intro pP eE sS mM aV bB mE cC AA C hin
  refine z_conv (lv' := [(0, .ref (b 0)), (1, .int what)]) ⟨rfl, rfl, trivial⟩ rfl rfl ?_
  refine z_iload_n C (pc := 0) dX4_countOf_0 rfl ?_
  by_cases c_1 : what = 0
  · refine z_tableIn C (pc := 1) (tgt := 60) (off := 59) dX4_countOf_1 (by rw [c_1]; decide) (by rw [c_1]; decide) (by rw [c_1]; rfl) (by decide) ?_
    refine z_aload_n C (pc := 60) dX4_countOf_60 rfl ?_
    refine z_get C (pc := 61) 0 rfl rfl wf_X4 3 (by decide) rfl wl_X4_69 (v := .int (i 3)) rfl dX4_countOf_61 ?_
    refine z_iret C (pc := 64) () dX4_countOf_64 ?_ rfl
    subst c_1
    rw [show countF z 0 = nI (countN z 0) from if_neg (by decide)]
    exact hz.i3
  by_cases c_2 : what = 1
  · refine z_tableIn C (pc := 1) (tgt := 65) (off := 64) dX4_countOf_1 (by rw [c_2]; decide) (by rw [c_2]; decide) (by rw [c_2]; rfl) (by decide) ?_
    refine z_aload_n C (pc := 65) dX4_countOf_65 rfl ?_
    refine z_get C (pc := 66) 0 rfl rfl wf_X4 4 (by decide) rfl wl_X4_72 (v := .int (i 4)) rfl dX4_countOf_66 ?_
    refine z_seti (y := nI (z.1 5)) (hz.i4) ?_
    refine z_calli C (isC := []) rfl (by exact fun _ => rfl) (runS C (wc := []) (pc := 69) (rY' := rm 0 0) (nn := 1) (As := [.int (nI (z.1 5))]) (rest := []) (m_ones l D cI tt (z.1 5) (by omega)) rfl rfl ⟨rfl, rfl, ⟨Nat.le_of_ble_eq_true rfl, Nat.le_of_ble_eq_true rfl⟩, Nat.le_of_ble_eq_true rfl, Nat.le_of_ble_eq_true rfl⟩ wl_X4_196 ws_X4_ones wi_X4 wc_X4_ones (by decide +kernel) rfl rfl (Nat.le_of_ble_eq_true rfl) dX4_countOf_69) (fun r_3 u_3 h_3 => ?_)
    have h_3 : r_3 = nI (pcn (z.1 5)) := h_3.trans (by rw [ones_pcn _ (by omega)])
    refine z_ws (st' := [.int r_3]) (ws' := (mW cI b i r h)) rfl rfl ?_
    refine z_seti (y := (nI (pcn (z.1 5)))) h_3 ?_
    refine z_iret C (pc := 72) () dX4_countOf_72 ?_ rfl
    subst c_2
    rw [show countF z 1 = nI (countN z 1) from if_neg (by decide)]
    exact rfl
  by_cases c_4 : what = 2
  · refine z_tableIn C (pc := 1) (tgt := 73) (off := 72) dX4_countOf_1 (by rw [c_4]; decide) (by rw [c_4]; decide) (by rw [c_4]; rfl) (by decide) ?_
    refine z_aload_n C (pc := 73) dX4_countOf_73 rfl ?_
    refine z_get C (pc := 74) 0 rfl rfl wf_X4 9 (by decide) rfl wl_X4_16 (v := .ref (b 3)) rfl dX4_countOf_74 ?_
    refine z_calli C (isC := [3]) rfl (by exact fun _ => rfl) (runS C (wc := [(b 3, .inl (cI, 7, .inl (r 2)))]) (pc := 77) (rY' := rm 0 0) (nn := 1) (As := [.ref (b 3)]) (rest := []) (m_sumOf l D cI tt (b 3) (r 2)) rfl rfl ⟨rfl, rfl, ⟨Nat.le_of_ble_eq_true rfl, Nat.le_of_ble_eq_true rfl⟩, Nat.le_of_ble_eq_true rfl, Nat.le_of_ble_eq_true rfl⟩ wl_X4_174 ws_X4_sumOf wi_X4 wc_X4_sumOf (by decide +kernel) rfl rfl (Nat.le_of_ble_eq_true rfl) dX4_countOf_77) (fun r_5 u_5 h_5 => ?_)
    have h_5 : r_5 = nI (sumN (z.2.1 2)) := h_5.trans (sumw_nI hz.2.1.2.2.1)
    refine z_ws (st' := [.int r_5]) (ws' := (mW cI b i r h)) rfl rfl ?_
    refine z_seti (y := (nI (sumN (z.2.1 2)))) h_5 ?_
    refine z_iret C (pc := 80) () dX4_countOf_80 ?_ rfl
    subst c_4
    rw [show countF z 2 = nI (countN z 2) from if_neg (by decide)]
    exact rfl
  by_cases c_6 : what = 3
  · refine z_tableIn C (pc := 1) (tgt := 81) (off := 80) dX4_countOf_1 (by rw [c_6]; decide) (by rw [c_6]; decide) (by rw [c_6]; rfl) (by decide) ?_
    refine z_aload_n C (pc := 81) dX4_countOf_81 rfl ?_
    refine z_get C (pc := 82) 0 rfl rfl wf_X4 5 (by decide) rfl wl_X4_75 (v := .int (i 5)) rfl dX4_countOf_82 ?_
    refine z_iret C (pc := 85) () dX4_countOf_85 ?_ rfl
    subst c_6
    rw [show countF z 3 = nI (countN z 3) from if_neg (by decide)]
    exact hz.i5
  by_cases c_7 : what = 4
  · refine z_tableIn C (pc := 1) (tgt := 86) (off := 85) dX4_countOf_1 (by rw [c_7]; decide) (by rw [c_7]; decide) (by rw [c_7]; rfl) (by decide) ?_
    refine z_aload_n C (pc := 86) dX4_countOf_86 rfl ?_
    refine z_get C (pc := 87) 0 rfl rfl wf_X4 6 (by decide) rfl wl_X4_78 (v := .int (i 6)) rfl dX4_countOf_87 ?_
    refine z_iret C (pc := 90) () dX4_countOf_90 ?_ rfl
    subst c_7
    rw [show countF z 4 = nI (countN z 4) from if_neg (by decide)]
    exact hz.i6
  by_cases c_8 : what = 5
  · refine z_tableIn C (pc := 1) (tgt := 91) (off := 90) dX4_countOf_1 (by rw [c_8]; decide) (by rw [c_8]; decide) (by rw [c_8]; rfl) (by decide) ?_
    refine z_aload_n C (pc := 91) dX4_countOf_91 rfl ?_
    refine z_aload_n C (pc := 92) dX4_countOf_92 rfl ?_
    refine z_get C (pc := 93) 0 rfl rfl wf_X4 4 (by decide) rfl wl_X4_72 (v := .int (i 4)) rfl dX4_countOf_93 ?_
    refine z_seti (y := nI (z.1 5)) (hz.i4) ?_
    refine z_calliF C (by exact fun _ => mW_ad) (runV C (wc := (mW cI b i r h)) (pc := 96) (rY' := rm 1 21) (nn := 1) (As := [.int (nI (z.1 5))]) (rest := []) (m_pullOf l D cI tt b i r h (z.2.1 1) (z.1 4) hv (z.1 5) (by omega)) (full_hC _) (full_nd _) ⟨rfl, rfl, ⟨Nat.le_of_ble_eq_true rfl, Nat.le_of_ble_eq_true rfl⟩, Nat.le_of_ble_eq_true rfl, Nat.le_of_ble_eq_true rfl⟩ wl_X4_134 wm_X4_pullOf we_X4_pullOf wi_X4 wc_X4_pullOf (by decide +kernel) rfl 0 rfl rfl rfl rfl (Nat.le_of_ble_eq_true rfl) dX4_countOf_96) (fun q_9 u_9 h_9 => ?_)
    subst h_9
    refine z_ws (st' := [.int (nI (sumk pls (z.2.1 1) (z.1 5) (z.1 4)))]) (ws' := (mW cI b i r h)) rfl rfl ?_
    refine z_iret C (pc := 99) () dX4_countOf_99 ?_ rfl
    subst c_8
    rw [show countF z 5 = nI (countN z 5) from if_neg (by decide)]
    exact rfl
  by_cases c_10 : what = 6
  · refine z_tableIn C (pc := 1) (tgt := 100) (off := 99) dX4_countOf_1 (by rw [c_10]; decide) (by rw [c_10]; decide) (by rw [c_10]; rfl) (by decide) ?_
    refine z_aload_n C (pc := 100) dX4_countOf_100 rfl ?_
    refine z_aload_n C (pc := 101) dX4_countOf_101 rfl ?_
    refine z_get C (pc := 102) 0 rfl rfl wf_X4 4 (by decide) rfl wl_X4_72 (v := .int (i 4)) rfl dX4_countOf_102 ?_
    refine z_seti (y := nI (z.1 5)) (hz.i4) ?_
    refine z_calliF C (by exact fun _ => mW_ad) (runV C (wc := (mW cI b i r h)) (pc := 105) (rY' := rm 1 21) (nn := 1) (As := [.int (nI (z.1 5))]) (rest := []) (m_eatOf l D cI tt b i r h (z.2.1 1) (z.1 4) hv (z.1 5) (by omega)) (full_hC _) (full_nd _) ⟨rfl, rfl, ⟨Nat.le_of_ble_eq_true rfl, Nat.le_of_ble_eq_true rfl⟩, Nat.le_of_ble_eq_true rfl, Nat.le_of_ble_eq_true rfl⟩ wl_X4_145 wm_X4_eatOf we_X4_eatOf wi_X4 wc_X4_eatOf (by decide +kernel) rfl 0 rfl rfl rfl rfl (Nat.le_of_ble_eq_true rfl) dX4_countOf_105) (fun q_11 u_11 h_11 => ?_)
    subst h_11
    refine z_ws (st' := [.int (nI (sumk ets (z.2.1 1) (z.1 5) (z.1 4)))]) (ws' := (mW cI b i r h)) rfl rfl ?_
    refine z_iret C (pc := 108) () dX4_countOf_108 ?_ rfl
    subst c_10
    rw [show countF z 6 = nI (countN z 6) from if_neg (by decide)]
    exact rfl
  by_cases c_12 : what = 7
  · refine z_tableIn C (pc := 1) (tgt := 109) (off := 108) dX4_countOf_1 (by rw [c_12]; decide) (by rw [c_12]; decide) (by rw [c_12]; rfl) (by decide) ?_
    refine z_aload_n C (pc := 109) dX4_countOf_109 rfl ?_
    refine z_get C (pc := 110) 0 rfl rfl wf_X4 15 (by decide) rfl wl_X4_81 (v := .int (i 15)) rfl dX4_countOf_110 ?_
    refine z_iret C (pc := 113) () dX4_countOf_113 ?_ rfl
    subst c_12
    rw [show countF z 7 = nI (countN z 7) from if_neg (by decide)]
    exact hz.i15
  by_cases c_13 : what = 8
  · refine z_tableIn C (pc := 1) (tgt := 114) (off := 113) dX4_countOf_1 (by rw [c_13]; decide) (by rw [c_13]; decide) (by rw [c_13]; rfl) (by decide) ?_
    refine z_aload_n C (pc := 114) dX4_countOf_114 rfl ?_
    refine z_get C (pc := 115) 0 rfl rfl wf_X4 1 (by decide) rfl wl_X4_47 (v := .int (i 1)) rfl dX4_countOf_115 ?_
    refine z_iret C (pc := 118) () dX4_countOf_118 ?_ rfl
    subst c_13
    rw [show countF z 8 = nI (countN z 8) from if_neg (by decide)]
    exact hz.i1
  by_cases c_14 : what = 9
  · refine z_tableIn C (pc := 1) (tgt := 119) (off := 118) dX4_countOf_1 (by rw [c_14]; decide) (by rw [c_14]; decide) (by rw [c_14]; rfl) (by decide) ?_
    refine z_aload_n C (pc := 119) dX4_countOf_119 rfl ?_
    refine z_get C (pc := 120) 0 rfl rfl wf_X4 7 (by decide) rfl wl_X4_84 (v := .int (i 7)) rfl dX4_countOf_120 ?_
    refine z_iret C (pc := 123) () dX4_countOf_123 ?_ rfl
    subst c_14
    rw [show countF z 9 = nI (countN z 9) from if_neg (by decide)]
    exact hz.i7
  by_cases c_15 : what = 10
  · refine z_tableIn C (pc := 1) (tgt := 124) (off := 123) dX4_countOf_1 (by rw [c_15]; decide) (by rw [c_15]; decide) (by rw [c_15]; rfl) (by decide) ?_
    refine z_aload_n C (pc := 124) dX4_countOf_124 rfl ?_
    refine z_get C (pc := 125) 0 rfl rfl wf_X4 14 (by decide) rfl wl_X4_199 (v := .int (i 14)) rfl dX4_countOf_125 ?_
    refine z_iret C (pc := 128) () dX4_countOf_128 ?_ rfl
    subst c_15
    rw [show countF z 10 = nI (countN z 10) from if_neg (by decide)]
    exact hz.i14
  refine z_tableOut C (pc := 1) (tgt := 129) dX4_countOf_1 (by have q0 := lv_neT c_1 (a := 0) rfl; have q1 := lv_neT c_2 (a := 1) rfl; have q2 := lv_neT c_4 (a := 2) rfl; have q3 := lv_neT c_6 (a := 3) rfl; have q4 := lv_neT c_7 (a := 4) rfl; have q5 := lv_neT c_8 (a := 5) rfl; have q6 := lv_neT c_10 (a := 6) rfl; have q7 := lv_neT c_12 (a := 7) rfl; have q8 := lv_neT c_13 (a := 8) rfl; have q9 := lv_neT c_14 (a := 9) rfl; have q10 := lv_neT c_15 (a := 10) rfl; omega) (by decide) ?_
  refine z_bipush C (pc := 129) (v := (-102)) dX4_countOf_129 (by decide) ?_
  refine z_iret C (pc := 131) () dX4_countOf_131 ?_ rfl
  have hbb : what < 0 ∨ ¬ what ≤ 10 := by
    have q0 := lv_neT c_1 (a := 0) rfl
    have q1 := lv_neT c_2 (a := 1) rfl
    have q2 := lv_neT c_4 (a := 2) rfl
    have q3 := lv_neT c_6 (a := 3) rfl
    have q4 := lv_neT c_7 (a := 4) rfl
    have q5 := lv_neT c_8 (a := 5) rfl
    have q6 := lv_neT c_10 (a := 6) rfl
    have q7 := lv_neT c_12 (a := 7) rfl
    have q8 := lv_neT c_13 (a := 8) rfl
    have q9 := lv_neT c_14 (a := 9) rfl
    have q10 := lv_neT c_15 (a := 10) rfl
    simp only [Int32.lt_iff_toInt_lt, Int32.le_iff_toInt_le]
    have a0 : (0 : Int32).toInt = 0 := rfl
    have a10 : (10 : Int32).toInt = 10 := rfl
    omega
  rw [show countF z what = -102 from if_pos hbb]

set_option maxHeartbeats 4000000 in
set_option maxRecDepth 100000 in
theorem m_count (l : Launch) (D : va_G) (cI : ClassId) (tt : Nat × Nat × Nat) (b : Nat → Nat) (i : Nat → Int32) (r : Nat → Nat → Int32) (h : Int64) (what : Int32) (z : SG) (hz : Mdl z i r) (vz : VS z) : MetI (S := ((Nat → Int32) × (Nat → Nat → Int32))) l yX4_count cX4_count 2 (some .int) (rm 3 65) D cI tt [.ref (b 0), .int what] (mW cI b i r h) (fun q u => q = countF z what ∧ Mdl z u.1 u.2) (fun u => mW cI b u.1 u.2 h) := by
  have hv := hz.pv vz
  have hc := hz.c vz
  have hh := hz.hv vz
  have hn6 := vz.2.2.2.1
  have hx6 := pow_le6 hn6
  have v3 := vz.2.2.1
  have v5 := vz.2.2.2.2.1
  have v8 := vz.2.2.2.2.2.1
  refine met_ofI (by decide) (Nat.le_of_ble_eq_true rfl) ?_
  intro pP eE sS mM aV bB mE cC AA C hin
  refine z_conv (lv' := [(0, .ref (b 0)), (1, .int what)]) ⟨rfl, rfl, trivial⟩ rfl rfl ?_
  refine z_aload_n C (pc := 0) dX4_count_0 rfl ?_
  refine z_iload_n C (pc := 1) dX4_count_1 rfl ?_
  refine z_calliF C (by exact fun _ => mW_ad) (runV C (wc := (mW cI b i r h)) (pc := 2) (rY' := rm 2 44) (nn := 1) (As := [.int what]) (rest := []) (m_countOf l D cI tt b i r h what z hz vz) (full_hC _) (full_nd _) ⟨rfl, rfl, ⟨Nat.le_of_ble_eq_true rfl, Nat.le_of_ble_eq_true rfl⟩, Nat.le_of_ble_eq_true rfl, Nat.le_of_ble_eq_true rfl⟩ wl_X4_234 wm_X4_countOf we_X4_countOf wi_X4 wc_X4_countOf (by decide +kernel) rfl 0 rfl rfl rfl rfl (Nat.le_of_ble_eq_true rfl) dX4_count_2) (fun q_1 u_1 h_1 => ?_)
  refine z_ws (st' := [.int q_1]) (ws' := (mW cI b i r h)) rfl rfl ?_
  refine z_seti (y := (countF z what)) h_1 ?_
  refine z_iret C (pc := 5) (i, r) dX4_count_5 ?_ rfl
  exact ⟨rfl, hz⟩
