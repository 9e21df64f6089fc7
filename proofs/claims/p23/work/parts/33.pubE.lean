set_option maxHeartbeats 4000000 in
set_option maxRecDepth 100000 in
theorem c_count (l : Launch) (D : va_G) (cI : ClassId) (tt : Nat × Nat × Nat) (a : Nat → Nat) (i : Nat → Int32) (r : Nat → Nat → Int32) (what : Int32) (z : SG) (hz : Cls z i r) (vz : VS z) : MetI (S := ((Nat → Int32) × (Nat → Nat → Int32))) l yX3_count cX3_count 2 (some .int) (rm 2 45) D cI tt [.ref (a 0), .int what] (cW cI a i r) (fun q u => q = countF z what ∧ Cls z u.1 u.2) (fun u => cW cI a u.1 u.2) := by
  have hv := hz.pv vz
  have hc := hz.c vz
  have hh := hz.hv vz
  have hn6 := vz.2.2.2.1
  have hx6 := pow_le6 hn6
  refine met_ofI (by decide) (Nat.le_of_ble_eq_true rfl) ?_
  intro pP eE sS mM aV bB mE cC AA C hin
  refine z_conv (lv' := [(0, .ref (a 0)), (1, .int what)]) ⟨rfl, rfl, trivial⟩ rfl rfl ?_
  refine z_iload_n C (pc := 0) dX3_count_0 rfl ?_
  by_cases c_1 : what = 0
  · refine z_tableIn C (pc := 1) (tgt := 60) (off := 59) dX3_count_1 (by rw [c_1]; decide) (by rw [c_1]; decide) (by rw [c_1]; rfl) (by decide) ?_
    refine z_aload_n C (pc := 60) dX3_count_60 rfl ?_
    refine z_get C (pc := 61) 0 rfl rfl wf_X3 1 (by decide) rfl wl_X3_19 (v := .ref (a 3)) rfl dX3_count_61 ?_
    refine z_getN C (pc := 64) 3 rfl rfl wf_X1 1 (by decide) rfl wl_X3_53 (v := .int (i 4)) rfl dX3_count_64 ?_
    refine z_iret C (pc := 67) (i, r) dX3_count_67 ?_ rfl
    subst c_1
    rw [show countF z 0 = nI (countN z 0) from if_neg (by decide)]
    exact ⟨hz.1.2.2.2.2.1, hz⟩
  by_cases c_2 : what = 1
  · refine z_tableIn C (pc := 1) (tgt := 68) (off := 67) dX3_count_1 (by rw [c_2]; decide) (by rw [c_2]; decide) (by rw [c_2]; rfl) (by decide) ?_
    refine z_aload_n C (pc := 68) dX3_count_68 rfl ?_
    refine z_get C (pc := 69) 0 rfl rfl wf_X3 2 (by decide) rfl wl_X3_26 (v := .ref (a 6)) rfl dX3_count_69 ?_
    refine z_getN C (pc := 72) 6 rfl rfl wf_X2 0 (by decide) rfl wl_X3_100 (v := .int (i 10)) rfl dX3_count_72 ?_
    refine z_calli C (isC := []) rfl (by exact fun _ => rfl) (runS C (wc := []) (pc := 75) (rY' := rm 0 0) (nn := 1) (As := [.int (i 10)]) (rest := []) (c_bitCount l D cI tt (i 10)) rfl rfl ⟨rfl, rfl, ⟨Nat.le_of_ble_eq_true rfl, Nat.le_of_ble_eq_true rfl⟩, Nat.le_of_ble_eq_true rfl, Nat.le_of_ble_eq_true rfl⟩ wl_X3_187 ws_J6_bitCount_0f7a4 wi_J6 wc_J6_bitCount_0f7a4 (by decide +kernel) rfl rfl (Nat.le_of_ble_eq_true rfl) dX3_count_75) (fun r_3 u_3 h_3 => ?_)
    rw [hz.1.2.2.2.2.2.1] at h_3
    have h_3 : r_3 = nI (pcn (z.1 5)) := h_3.trans (bc_pcn _ (by have := vz.2.2.2.2.1; omega))
    subst h_3
    refine z_ws (st' := [.int (nI (pcn (z.1 5)))]) (ws' := (cW cI a i r)) rfl rfl ?_
    refine z_iret C (pc := 78) (i, r) dX3_count_78 ?_ rfl
    subst c_2
    rw [show countF z 1 = nI (countN z 1) from if_neg (by decide)]
    exact ⟨rfl, hz⟩
  by_cases c_4 : what = 2
  · refine z_tableIn C (pc := 1) (tgt := 79) (off := 78) dX3_count_1 (by rw [c_4]; decide) (by rw [c_4]; decide) (by rw [c_4]; rfl) (by decide) ?_
    refine z_aload_n C (pc := 79) dX3_count_79 rfl ?_
    refine z_get C (pc := 80) 0 rfl rfl wf_X3 2 (by decide) rfl wl_X3_26 (v := .ref (a 6)) rfl dX3_count_80 ?_
    refine z_getN C (pc := 83) 6 rfl rfl wf_X2 1 (by decide) rfl wl_X3_77 (v := .ref (a 7)) rfl dX3_count_83 ?_
    refine z_calli C (isC := [7]) rfl (by exact fun _ => rfl) (runS C (wc := [(a 7, .inl (cI, 5, .inl (r 3)))]) (pc := 86) (rY' := rm 0 0) (nn := 1) (As := [.ref (a 7)]) (rest := []) (c_sum l D cI tt (a 7) 5 (r 3) (by decide)) rfl rfl ⟨rfl, rfl, ⟨Nat.le_of_ble_eq_true rfl, Nat.le_of_ble_eq_true rfl⟩, Nat.le_of_ble_eq_true rfl, Nat.le_of_ble_eq_true rfl⟩ wl_X3_146 ws_X3_sum wi_X3 wc_X3_sum (by decide +kernel) rfl rfl (Nat.le_of_ble_eq_true rfl) dX3_count_86) (fun r_5 u_5 h_5 => ?_)
    subst h_5
    refine z_ws (st' := [.int (sumv (r 3) 5)]) (ws' := (cW cI a i r)) rfl rfl ?_
    refine z_iret C (pc := 89) (i, r) dX3_count_89 ?_ rfl
    subst c_4
    rw [show countF z 2 = nI (countN z 2) from if_neg (by decide)]
    exact ⟨sum_nI hz.2.1.2.2.1, hz⟩
  by_cases c_6 : what = 3
  · refine z_tableIn C (pc := 1) (tgt := 90) (off := 89) dX3_count_1 (by rw [c_6]; decide) (by rw [c_6]; decide) (by rw [c_6]; rfl) (by decide) ?_
    refine z_aload_n C (pc := 90) dX3_count_90 rfl ?_
    refine z_get C (pc := 91) 0 rfl rfl wf_X3 2 (by decide) rfl wl_X3_26 (v := .ref (a 6)) rfl dX3_count_91 ?_
    refine z_getN C (pc := 94) 6 rfl rfl wf_X2 2 (by decide) rfl wl_X3_137 (v := .int (i 11)) rfl dX3_count_94 ?_
    refine z_iret C (pc := 97) (i, r) dX3_count_97 ?_ rfl
    subst c_6
    rw [show countF z 3 = nI (countN z 3) from if_neg (by decide)]
    exact ⟨hz.1.2.2.2.2.2.2.1, hz⟩
  by_cases c_7 : what = 4
  · refine z_tableIn C (pc := 1) (tgt := 98) (off := 97) dX3_count_1 (by rw [c_7]; decide) (by rw [c_7]; decide) (by rw [c_7]; rfl) (by decide) ?_
    refine z_aload_n C (pc := 98) dX3_count_98 rfl ?_
    refine z_get C (pc := 99) 0 rfl rfl wf_X3 2 (by decide) rfl wl_X3_26 (v := .ref (a 6)) rfl dX3_count_99 ?_
    refine z_getN C (pc := 102) 6 rfl rfl wf_X2 3 (by decide) rfl wl_X3_140 (v := .int (i 12)) rfl dX3_count_102 ?_
    refine z_iret C (pc := 105) (i, r) dX3_count_105 ?_ rfl
    subst c_7
    rw [show countF z 4 = nI (countN z 4) from if_neg (by decide)]
    exact ⟨hz.1.2.2.2.2.2.2.2.1, hz⟩
  by_cases c_8 : what = 5
  · refine z_tableIn C (pc := 1) (tgt := 106) (off := 105) dX3_count_1 (by rw [c_8]; decide) (by rw [c_8]; decide) (by rw [c_8]; rfl) (by decide) ?_
    refine z_aload_n C (pc := 106) dX3_count_106 rfl ?_
    refine z_get C (pc := 107) 0 rfl rfl wf_X3 1 (by decide) rfl wl_X3_19 (v := .ref (a 3)) rfl dX3_count_107 ?_
    refine z_aload_n C (pc := 110) dX3_count_110 rfl ?_
    refine z_get C (pc := 111) 0 rfl rfl wf_X3 2 (by decide) rfl wl_X3_26 (v := .ref (a 6)) rfl dX3_count_111 ?_
    refine z_getN C (pc := 114) 6 rfl rfl wf_X2 0 (by decide) rfl wl_X3_100 (v := .int (i 10)) rfl dX3_count_114 ?_
    refine z_gets C (pc := 117) C.2.2.2.2.2.2.2.1.1.1 wl_X3_91 dX3_count_117 ?_
    refine z_ws (st' := [.ref tt.1, .int (nI (z.1 5)), .ref (a 3)]) rfl (by rw [hz.1.2.2.2.2.2.1]) ?_
    refine z_calliF C (by exact fun _ => cW_ad) (runVN C (wc := (cW cI a i r)) (pc := 120) (rY' := rm 1 21) (nn := 2) (As := [.int (nI (z.1 5)), .ref tt.1]) (rest := []) (c_togetherP l D cI tt a i r (z.2.1 1) (z.1 4) (z.1 5) hv (by have := vz.2.2.2.2.1; omega)) (full_hC _) (full_nd _) ⟨rfl, rfl, ⟨Nat.le_of_ble_eq_true rfl, Nat.le_of_ble_eq_true rfl⟩, Nat.le_of_ble_eq_true rfl, Nat.le_of_ble_eq_true rfl⟩ wl_X3_192 wm_X1_together we_X1_together wi_X1 wc_X1_together (by decide +kernel) rfl 3 rfl rfl rfl rfl (Nat.le_of_ble_eq_true rfl) dX3_count_120) (fun q_9 u_9 h_9 => ?_)
    subst h_9
    refine z_ws (st' := [.int (nI (sumk pls (z.2.1 1) (z.1 5) (z.1 4)))]) (ws' := (cW cI a i r)) rfl rfl ?_
    refine z_iret C (pc := 123) (i, r) dX3_count_123 ?_ rfl
    subst c_8
    rw [show countF z 5 = nI (countN z 5) from if_neg (by decide)]
    exact ⟨rfl, hz⟩
  by_cases c_10 : what = 6
  · refine z_tableIn C (pc := 1) (tgt := 124) (off := 123) dX3_count_1 (by rw [c_10]; decide) (by rw [c_10]; decide) (by rw [c_10]; rfl) (by decide) ?_
    refine z_aload_n C (pc := 124) dX3_count_124 rfl ?_
    refine z_get C (pc := 125) 0 rfl rfl wf_X3 1 (by decide) rfl wl_X3_19 (v := .ref (a 3)) rfl dX3_count_125 ?_
    refine z_aload_n C (pc := 128) dX3_count_128 rfl ?_
    refine z_get C (pc := 129) 0 rfl rfl wf_X3 2 (by decide) rfl wl_X3_26 (v := .ref (a 6)) rfl dX3_count_129 ?_
    refine z_getN C (pc := 132) 6 rfl rfl wf_X2 0 (by decide) rfl wl_X3_100 (v := .int (i 10)) rfl dX3_count_132 ?_
    refine z_gets C (pc := 135) C.2.2.2.2.2.2.2.1.2.1.1 wl_X3_94 dX3_count_135 ?_
    refine z_ws (st' := [.ref tt.2.1, .int (nI (z.1 5)), .ref (a 3)]) rfl (by rw [hz.1.2.2.2.2.2.1]) ?_
    refine z_calliF C (by exact fun _ => cW_ad) (runVN C (wc := (cW cI a i r)) (pc := 138) (rY' := rm 1 21) (nn := 2) (As := [.int (nI (z.1 5)), .ref tt.2.1]) (rest := []) (c_togetherE l D cI tt a i r (z.2.1 1) (z.1 4) (z.1 5) hv (by have := vz.2.2.2.2.1; omega)) (full_hC _) (full_nd _) ⟨rfl, rfl, ⟨Nat.le_of_ble_eq_true rfl, Nat.le_of_ble_eq_true rfl⟩, Nat.le_of_ble_eq_true rfl, Nat.le_of_ble_eq_true rfl⟩ wl_X3_192 wm_X1_together we_X1_together wi_X1 wc_X1_together (by decide +kernel) rfl 3 rfl rfl rfl rfl (Nat.le_of_ble_eq_true rfl) dX3_count_138) (fun q_11 u_11 h_11 => ?_)
    subst h_11
    refine z_ws (st' := [.int (nI (sumk ets (z.2.1 1) (z.1 5) (z.1 4)))]) (ws' := (cW cI a i r)) rfl rfl ?_
    refine z_iret C (pc := 141) (i, r) dX3_count_141 ?_ rfl
    subst c_10
    rw [show countF z 6 = nI (countN z 6) from if_neg (by decide)]
    exact ⟨rfl, hz⟩
  by_cases c_12 : what = 7
  · refine z_tableIn C (pc := 1) (tgt := 142) (off := 141) dX3_count_1 (by rw [c_12]; decide) (by rw [c_12]; decide) (by rw [c_12]; rfl) (by decide) ?_
    refine z_aload_n C (pc := 142) dX3_count_142 rfl ?_
    refine z_get C (pc := 143) 0 rfl rfl wf_X3 2 (by decide) rfl wl_X3_26 (v := .ref (a 6)) rfl dX3_count_143 ?_
    refine z_getN C (pc := 146) 6 rfl rfl wf_X2 4 (by decide) rfl wl_X3_173 (v := .int (i 13)) rfl dX3_count_146 ?_
    refine z_iret C (pc := 149) (i, r) dX3_count_149 ?_ rfl
    subst c_12
    rw [show countF z 7 = nI (countN z 7) from if_neg (by decide)]
    exact ⟨hz.1.2.2.2.2.2.2.2.2, hz⟩
  by_cases c_13 : what = 8
  · refine z_tableIn C (pc := 1) (tgt := 150) (off := 149) dX3_count_1 (by rw [c_13]; decide) (by rw [c_13]; decide) (by rw [c_13]; rfl) (by decide) ?_
    refine z_aload_n C (pc := 150) dX3_count_150 rfl ?_
    refine z_get C (pc := 151) 0 rfl rfl wf_X3 0 (by decide) rfl wl_X3_10 (v := .ref (a 1)) rfl dX3_count_151 ?_
    refine z_getN C (pc := 154) 1 rfl rfl wf_X0 1 (by decide) rfl wl_X3_41 (v := .int (i 3)) rfl dX3_count_154 ?_
    refine z_iret C (pc := 157) (i, r) dX3_count_157 ?_ rfl
    subst c_13
    rw [show countF z 8 = nI (countN z 8) from if_neg (by decide)]
    exact ⟨hz.1.2.2.2.1, hz⟩
  by_cases c_14 : what = 9
  · refine z_tableIn C (pc := 1) (tgt := 158) (off := 157) dX3_count_1 (by rw [c_14]; decide) (by rw [c_14]; decide) (by rw [c_14]; rfl) (by decide) ?_
    refine z_aload_n C (pc := 158) dX3_count_158 rfl ?_
    refine z_get C (pc := 159) 0 rfl rfl wf_X3 6 (by decide) rfl wl_X3_84 (v := .int (i 1)) rfl dX3_count_159 ?_
    refine z_iret C (pc := 162) (i, r) dX3_count_162 ?_ rfl
    subst c_14
    rw [show countF z 9 = nI (countN z 9) from if_neg (by decide)]
    exact ⟨hz.1.2.1, hz⟩
  by_cases c_15 : what = 10
  · refine z_tableIn C (pc := 1) (tgt := 163) (off := 162) dX3_count_1 (by rw [c_15]; decide) (by rw [c_15]; decide) (by rw [c_15]; rfl) (by decide) ?_
    refine z_aload_n C (pc := 163) dX3_count_163 rfl ?_
    refine z_get C (pc := 164) 0 rfl rfl wf_X3 7 (by decide) rfl wl_X3_167 (v := .int (i 2)) rfl dX3_count_164 ?_
    refine z_iret C (pc := 167) (i, r) dX3_count_167 ?_ rfl
    subst c_15
    rw [show countF z 10 = nI (countN z 10) from if_neg (by decide)]
    exact ⟨hz.1.2.2.1, hz⟩
  refine z_tableOut C (pc := 1) (tgt := 168) dX3_count_1 (by have q0 := lv_neT c_1 (a := 0) rfl; have q1 := lv_neT c_2 (a := 1) rfl; have q2 := lv_neT c_4 (a := 2) rfl; have q3 := lv_neT c_6 (a := 3) rfl; have q4 := lv_neT c_7 (a := 4) rfl; have q5 := lv_neT c_8 (a := 5) rfl; have q6 := lv_neT c_10 (a := 6) rfl; have q7 := lv_neT c_12 (a := 7) rfl; have q8 := lv_neT c_13 (a := 8) rfl; have q9 := lv_neT c_14 (a := 9) rfl; have q10 := lv_neT c_15 (a := 10) rfl; omega) (by decide) ?_
  refine z_bipush C (pc := 168) (v := (-102)) dX3_count_168 (by decide) ?_
  refine z_iret C (pc := 170) (i, r) dX3_count_170 ?_ rfl
  have hbb : what < 0 ∨ ¬ what ≤ 10 := by
    have q0 := lv_neT c_1 (a := 0) rfl
    have q1 := lv_neT c_2 (a := 1) rfl
    have q2 := lv_neT c_4 (a := 2) rfl
    have q3 := lv_neT c_6 (a := 3) rfl
    have q4 := lv_neT c_7 (a := 4) rfl
    have q5 := lv_neT c_8 (a := 5) rfl
    have q6 := lv_neT c_10 (a := 6) rfl
    have q7 := lv_neT c_12 (a := 7) rfl
    have q8 := lv_neT c_13 (a := 8) rfl
    have q9 := lv_neT c_14 (a := 9) rfl
    have q10 := lv_neT c_15 (a := 10) rfl
    simp only [Int32.lt_iff_toInt_lt, Int32.le_iff_toInt_le]
    have a0 : (0 : Int32).toInt = 0 := rfl
    have a10 : (10 : Int32).toInt = 10 := rfl
    omega
  rw [show countF z what = -102 from if_pos hbb]
  exact ⟨rfl, hz⟩
