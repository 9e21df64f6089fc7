set_option maxHeartbeats 4000000 in
set_option maxRecDepth 100000 in
theorem c_kindOf (l : Launch) (D : va_G) (cI : ClassId) (tt : Nat × Nat × Nat) (x : Int32) : MetI (S := Unit) l yX3_kindOf cX3_kindOf 1 (some .int) (rm 0 0) D cI tt [.int x] [] (fun r _ => r = kindOfv x) (fun _ => []) := by
  refine met_ofI (by decide) (Nat.le_of_ble_eq_true rfl) ?_
  intro pP eE sS mM aV bB mE cC AA C hin
  refine z_conv (lv' := [(0, .int x)]) ⟨rfl, trivial⟩ rfl rfl ?_
  refine z_iload_n C (pc := 0) dX3_kindOf_0 rfl ?_
  by_cases c_1 : x = 98
  · refine z_tableIn C (pc := 1) (tgt := 82) (off := 81) dX3_kindOf_1 (by rw [c_1]; decide) (by rw [c_1]; decide) (by rw [c_1]; rfl) (by decide) ?_
    refine z_iconst C (pc := 82) (v := 3) dX3_kindOf_82 (by decide) ?_
    refine z_iret C (pc := 83) () dX3_kindOf_83 ?_ rfl
    first | (simp_all [kindOfv]; done) | (rw [c_1]; rfl)
  by_cases c_2 : x = 99
  · refine z_tableIn C (pc := 1) (tgt := 86) (off := 85) dX3_kindOf_1 (by rw [c_2]; decide) (by rw [c_2]; decide) (by rw [c_2]; rfl) (by decide) ?_
    refine z_iconst C (pc := 86) (v := (-1)) dX3_kindOf_86 (by decide) ?_
    refine z_iret C (pc := 87) () dX3_kindOf_87 ?_ rfl
    first | (simp_all [kindOfv]; done) | (rw [c_2]; rfl)
  by_cases c_3 : x = 100
  · refine z_tableIn C (pc := 1) (tgt := 80) (off := 79) dX3_kindOf_1 (by rw [c_3]; decide) (by rw [c_3]; decide) (by rw [c_3]; rfl) (by decide) ?_
    refine z_iconst C (pc := 80) (v := 2) dX3_kindOf_80 (by decide) ?_
    refine z_iret C (pc := 81) () dX3_kindOf_81 ?_ rfl
    first | (simp_all [kindOfv]; done) | (rw [c_3]; rfl)
  by_cases c_4 : x = 101
  · refine z_tableIn C (pc := 1) (tgt := 86) (off := 85) dX3_kindOf_1 (by rw [c_4]; decide) (by rw [c_4]; decide) (by rw [c_4]; rfl) (by decide) ?_
    refine z_iconst C (pc := 86) (v := (-1)) dX3_kindOf_86 (by decide) ?_
    refine z_iret C (pc := 87) () dX3_kindOf_87 ?_ rfl
    first | (simp_all [kindOfv]; done) | (rw [c_4]; rfl)
  by_cases c_5 : x = 102
  · refine z_tableIn C (pc := 1) (tgt := 86) (off := 85) dX3_kindOf_1 (by rw [c_5]; decide) (by rw [c_5]; decide) (by rw [c_5]; rfl) (by decide) ?_
    refine z_iconst C (pc := 86) (v := (-1)) dX3_kindOf_86 (by decide) ?_
    refine z_iret C (pc := 87) () dX3_kindOf_87 ?_ rfl
    first | (simp_all [kindOfv]; done) | (rw [c_5]; rfl)
  by_cases c_6 : x = 103
  · refine z_tableIn C (pc := 1) (tgt := 86) (off := 85) dX3_kindOf_1 (by rw [c_6]; decide) (by rw [c_6]; decide) (by rw [c_6]; rfl) (by decide) ?_
    refine z_iconst C (pc := 86) (v := (-1)) dX3_kindOf_86 (by decide) ?_
    refine z_iret C (pc := 87) () dX3_kindOf_87 ?_ rfl
    first | (simp_all [kindOfv]; done) | (rw [c_6]; rfl)
  by_cases c_7 : x = 104
  · refine z_tableIn C (pc := 1) (tgt := 84) (off := 83) dX3_kindOf_1 (by rw [c_7]; decide) (by rw [c_7]; decide) (by rw [c_7]; rfl) (by decide) ?_
    refine z_iconst C (pc := 84) (v := 4) dX3_kindOf_84 (by decide) ?_
    refine z_iret C (pc := 85) () dX3_kindOf_85 ?_ rfl
    first | (simp_all [kindOfv]; done) | (rw [c_7]; rfl)
  by_cases c_8 : x = 105
  · refine z_tableIn C (pc := 1) (tgt := 86) (off := 85) dX3_kindOf_1 (by rw [c_8]; decide) (by rw [c_8]; decide) (by rw [c_8]; rfl) (by decide) ?_
    refine z_iconst C (pc := 86) (v := (-1)) dX3_kindOf_86 (by decide) ?_
    refine z_iret C (pc := 87) () dX3_kindOf_87 ?_ rfl
    first | (simp_all [kindOfv]; done) | (rw [c_8]; rfl)
  by_cases c_9 : x = 106
  · refine z_tableIn C (pc := 1) (tgt := 86) (off := 85) dX3_kindOf_1 (by rw [c_9]; decide) (by rw [c_9]; decide) (by rw [c_9]; rfl) (by decide) ?_
    refine z_iconst C (pc := 86) (v := (-1)) dX3_kindOf_86 (by decide) ?_
    refine z_iret C (pc := 87) () dX3_kindOf_87 ?_ rfl
    first | (simp_all [kindOfv]; done) | (rw [c_9]; rfl)
  by_cases c_10 : x = 107
  · refine z_tableIn C (pc := 1) (tgt := 86) (off := 85) dX3_kindOf_1 (by rw [c_10]; decide) (by rw [c_10]; decide) (by rw [c_10]; rfl) (by decide) ?_
    refine z_iconst C (pc := 86) (v := (-1)) dX3_kindOf_86 (by decide) ?_
    refine z_iret C (pc := 87) () dX3_kindOf_87 ?_ rfl
    first | (simp_all [kindOfv]; done) | (rw [c_10]; rfl)
  by_cases c_11 : x = 108
  · refine z_tableIn C (pc := 1) (tgt := 86) (off := 85) dX3_kindOf_1 (by rw [c_11]; decide) (by rw [c_11]; decide) (by rw [c_11]; rfl) (by decide) ?_
    refine z_iconst C (pc := 86) (v := (-1)) dX3_kindOf_86 (by decide) ?_
    refine z_iret C (pc := 87) () dX3_kindOf_87 ?_ rfl
    first | (simp_all [kindOfv]; done) | (rw [c_11]; rfl)
  by_cases c_12 : x = 109
  · refine z_tableIn C (pc := 1) (tgt := 76) (off := 75) dX3_kindOf_1 (by rw [c_12]; decide) (by rw [c_12]; decide) (by rw [c_12]; rfl) (by decide) ?_
    refine z_iconst C (pc := 76) (v := 0) dX3_kindOf_76 (by decide) ?_
    refine z_iret C (pc := 77) () dX3_kindOf_77 ?_ rfl
    first | (simp_all [kindOfv]; done) | (rw [c_12]; rfl)
  by_cases c_13 : x = 110
  · refine z_tableIn C (pc := 1) (tgt := 86) (off := 85) dX3_kindOf_1 (by rw [c_13]; decide) (by rw [c_13]; decide) (by rw [c_13]; rfl) (by decide) ?_
    refine z_iconst C (pc := 86) (v := (-1)) dX3_kindOf_86 (by decide) ?_
    refine z_iret C (pc := 87) () dX3_kindOf_87 ?_ rfl
    first | (simp_all [kindOfv]; done) | (rw [c_13]; rfl)
  by_cases c_14 : x = 111
  · refine z_tableIn C (pc := 1) (tgt := 86) (off := 85) dX3_kindOf_1 (by rw [c_14]; decide) (by rw [c_14]; decide) (by rw [c_14]; rfl) (by decide) ?_
    refine z_iconst C (pc := 86) (v := (-1)) dX3_kindOf_86 (by decide) ?_
    refine z_iret C (pc := 87) () dX3_kindOf_87 ?_ rfl
    first | (simp_all [kindOfv]; done) | (rw [c_14]; rfl)
  by_cases c_15 : x = 112
  · refine z_tableIn C (pc := 1) (tgt := 78) (off := 77) dX3_kindOf_1 (by rw [c_15]; decide) (by rw [c_15]; decide) (by rw [c_15]; rfl) (by decide) ?_
    refine z_iconst C (pc := 78) (v := 1) dX3_kindOf_78 (by decide) ?_
    refine z_iret C (pc := 79) () dX3_kindOf_79 ?_ rfl
    first | (simp_all [kindOfv]; done) | (rw [c_15]; rfl)
  refine z_tableOut C (pc := 1) (tgt := 86) dX3_kindOf_1 (by have q0 := lv_neT c_1 (a := 98) rfl; have q1 := lv_neT c_2 (a := 99) rfl; have q2 := lv_neT c_3 (a := 100) rfl; have q3 := lv_neT c_4 (a := 101) rfl; have q4 := lv_neT c_5 (a := 102) rfl; have q5 := lv_neT c_6 (a := 103) rfl; have q6 := lv_neT c_7 (a := 104) rfl; have q7 := lv_neT c_8 (a := 105) rfl; have q8 := lv_neT c_9 (a := 106) rfl; have q9 := lv_neT c_10 (a := 107) rfl; have q10 := lv_neT c_11 (a := 108) rfl; have q11 := lv_neT c_12 (a := 109) rfl; have q12 := lv_neT c_13 (a := 110) rfl; have q13 := lv_neT c_14 (a := 111) rfl; have q14 := lv_neT c_15 (a := 112) rfl; omega) (by decide) ?_
  refine z_iconst C (pc := 86) (v := (-1)) dX3_kindOf_86 (by decide) ?_
  refine z_iret C (pc := 87) () dX3_kindOf_87 ?_ rfl
  first | (simp_all [kindOfv]; done) | (rw [c_15]; rfl)

set_option maxHeartbeats 4000000 in
set_option maxRecDepth 100000 in
theorem c_bitCount (l : Launch) (D : va_G) (cI : ClassId) (tt : Nat × Nat × Nat) (x : Int32) : MetI (S := Unit) l yJ6_bitCount_0f7a4 cJ6_bitCount_0f7a4 1 (some .int) (rm 0 0) D cI tt [.int x] [] (fun r _ => r = bcv x) (fun _ => []) := by
  refine met_ofI (by decide) (Nat.le_of_ble_eq_true rfl) ?_
  intro pP eE sS mM aV bB mE cC AA C hin
  refine z_conv (lv' := [(0, .int x)]) ⟨rfl, trivial⟩ rfl rfl ?_
  refine z_iload_n C (pc := 0) dJ6_bitCount_0f7a4_0 rfl ?_
  refine z_iload_n C (pc := 1) dJ6_bitCount_0f7a4_1 rfl ?_
  refine z_iconst C (pc := 2) (v := 1) dJ6_bitCount_0f7a4_2 (by decide) ?_
  refine z_iushr C (pc := 3) (v := ((x).toUInt32 >>> ((1 : Int32).toUInt32 &&& Int32.toUInt32 31)).toInt32) dJ6_bitCount_0f7a4_3 rfl ?_
  refine z_ldcw C (pc := 4) (v := 1431655765) wl_J6_265 dJ6_bitCount_0f7a4_4 ?_
  refine z_iand C (pc := 7) dJ6_bitCount_0f7a4_7 ?_
  refine z_isub C (pc := 8) dJ6_bitCount_0f7a4_8 ?_
  refine z_topi (fun t_1 et_1 => ?_)
  refine z_istore_n C (pc := 9) (lv' := [(0, .int t_1)]) dJ6_bitCount_0f7a4_9 (Nat.le_of_ble_eq_true rfl) rfl rfl ?_
  refine z_iload_n C (pc := 10) dJ6_bitCount_0f7a4_10 rfl ?_
  refine z_ldcw C (pc := 11) (v := 858993459) wl_J6_266 dJ6_bitCount_0f7a4_11 ?_
  refine z_iand C (pc := 14) dJ6_bitCount_0f7a4_14 ?_
  refine z_iload_n C (pc := 15) dJ6_bitCount_0f7a4_15 rfl ?_
  refine z_iconst C (pc := 16) (v := 2) dJ6_bitCount_0f7a4_16 (by decide) ?_
  refine z_iushr C (pc := 17) (v := ((t_1).toUInt32 >>> ((2 : Int32).toUInt32 &&& Int32.toUInt32 31)).toInt32) dJ6_bitCount_0f7a4_17 rfl ?_
  refine z_ldcw C (pc := 18) (v := 858993459) wl_J6_266 dJ6_bitCount_0f7a4_18 ?_
  refine z_iand C (pc := 21) dJ6_bitCount_0f7a4_21 ?_
  refine z_iadd C (pc := 22) dJ6_bitCount_0f7a4_22 ?_
  refine z_topi (fun t_2 et_2 => ?_)
  refine z_istore_n C (pc := 23) (lv' := [(0, .int t_2)]) dJ6_bitCount_0f7a4_23 (Nat.le_of_ble_eq_true rfl) rfl rfl ?_
  refine z_iload_n C (pc := 24) dJ6_bitCount_0f7a4_24 rfl ?_
  refine z_iload_n C (pc := 25) dJ6_bitCount_0f7a4_25 rfl ?_
  refine z_iconst C (pc := 26) (v := 4) dJ6_bitCount_0f7a4_26 (by decide) ?_
  refine z_iushr C (pc := 27) (v := ((t_2).toUInt32 >>> ((4 : Int32).toUInt32 &&& Int32.toUInt32 31)).toInt32) dJ6_bitCount_0f7a4_27 rfl ?_
  refine z_iadd C (pc := 28) dJ6_bitCount_0f7a4_28 ?_
  refine z_ldcw C (pc := 29) (v := 252645135) wl_J6_267 dJ6_bitCount_0f7a4_29 ?_
  refine z_iand C (pc := 32) dJ6_bitCount_0f7a4_32 ?_
  refine z_topi (fun t_3 et_3 => ?_)
  refine z_istore_n C (pc := 33) (lv' := [(0, .int t_3)]) dJ6_bitCount_0f7a4_33 (Nat.le_of_ble_eq_true rfl) rfl rfl ?_
  refine z_iload_n C (pc := 34) dJ6_bitCount_0f7a4_34 rfl ?_
  refine z_iload_n C (pc := 35) dJ6_bitCount_0f7a4_35 rfl ?_
  refine z_bipush C (pc := 36) (v := 8) dJ6_bitCount_0f7a4_36 (by decide) ?_
  refine z_iushr C (pc := 38) (v := ((t_3).toUInt32 >>> ((8 : Int32).toUInt32 &&& Int32.toUInt32 31)).toInt32) dJ6_bitCount_0f7a4_38 rfl ?_
  refine z_iadd C (pc := 39) dJ6_bitCount_0f7a4_39 ?_
  refine z_topi (fun t_4 et_4 => ?_)
  refine z_istore_n C (pc := 40) (lv' := [(0, .int t_4)]) dJ6_bitCount_0f7a4_40 (Nat.le_of_ble_eq_true rfl) rfl rfl ?_
  refine z_iload_n C (pc := 41) dJ6_bitCount_0f7a4_41 rfl ?_
  refine z_iload_n C (pc := 42) dJ6_bitCount_0f7a4_42 rfl ?_
  refine z_bipush C (pc := 43) (v := 16) dJ6_bitCount_0f7a4_43 (by decide) ?_
  refine z_iushr C (pc := 45) (v := ((t_4).toUInt32 >>> ((16 : Int32).toUInt32 &&& Int32.toUInt32 31)).toInt32) dJ6_bitCount_0f7a4_45 rfl ?_
  refine z_iadd C (pc := 46) dJ6_bitCount_0f7a4_46 ?_
  refine z_topi (fun t_5 et_5 => ?_)
  refine z_istore_n C (pc := 47) (lv' := [(0, .int t_5)]) dJ6_bitCount_0f7a4_47 (Nat.le_of_ble_eq_true rfl) rfl rfl ?_
  refine z_iload_n C (pc := 48) dJ6_bitCount_0f7a4_48 rfl ?_
  refine z_bipush C (pc := 49) (v := 63) dJ6_bitCount_0f7a4_49 (by decide) ?_
  refine z_iand C (pc := 51) dJ6_bitCount_0f7a4_51 ?_
  refine z_iret C (pc := 52) () dJ6_bitCount_0f7a4_52 ?_ rfl
  subst_vars; rfl

set_option maxHeartbeats 4000000 in
set_option maxRecDepth 100000 in
theorem c_copy (l : Launch) (D : va_G) (cI : ClassId) (tt : Nat × Nat × Nat) (b1 n1 b2 n2 : Nat) (f1 f2 : Nat → Int32) (h1 : n1 < 2 ^ 31) (h2 : n2 < 2 ^ 31) : MetV (S := (Nat → Int32)) l yX3_copy cX3_copy 3 none (rm 1 22) D cI tt [.ref b1, .ref b2] [(b1, .inl (cI, n1, .inl f1)), (b2, .inl (cI, n2, .inl f2))] (fun g => g = cpv n1 f1 n2 f2 n2) (fun g => [(b1, .inl (cI, n1, .inl f1)), (b2, .inl (cI, n2, .inl g))]) := by
  refine met_ofV (by decide) (Nat.le_of_ble_eq_true rfl) ?_
  intro pP eE sS mM aV bB mE cC AA C hin
  refine z_conv (lv' := [(0, .ref b1), (1, .ref b2)]) ⟨rfl, rfl, trivial⟩ rfl rfl ?_
  refine z_iconst C (pc := 0) (v := 0) dX3_copy_0 (by decide) ?_
  refine z_istore_n C (pc := 1) (lv' := [(0, .ref b1), (1, .ref b2), (2, .int 0)]) dX3_copy_1 (Nat.le_of_ble_eq_true rfl) rfl rfl ?_
  have key : ∀ (fu j : Nat), j ≤ n2 → n2 < j + fu → Z pP l eE (rm 1 22) sS mM aV bB mE cC D AA 3 0 0 (MQ bB (va_Qv (S := (Nat → Int32)) (fun g => g = cpv n1 f1 n2 f2 n2) (fun u t => va_P D vwCl ((fun g => [(b1, .inl (cI, n1, .inl f1)), (b2, .inl (cI, n2, .inl g))]) u) t.heap) AA) aV sS 0 0 AA) 2 [(0, .ref b1), (1, .ref b2), (2, .int (nI j))] [] [(b1, .inl (cI, n1, .inl f1)), (b2, .inl (cI, n2, .inl (cpv n1 f1 n2 f2 j)))] := by
    intro fu
    induction fu with
    | zero => intro j h1 h2; exact absurd h2 (by omega)
    | succ fu ih =>
      intro j g1 g2
      refine z_aload_n C (pc := 2) dX3_copy_2 rfl ?_
      refine z_ifnull C (pc := 3) dX3_copy_3 ?_
      refine z_iload_n C (pc := 6) dX3_copy_6 rfl ?_
      refine z_aload_n C (pc := 7) dX3_copy_7 rfl ?_
      refine z_alen C (pc := 8) 1 rfl (v := (nI n2)) rfl dX3_copy_8 ?_
      refine z_icmp_ge C (pc := 9) (tgt := 28) dX3_copy_9 (by decide) (fun c_1 => ?_) (fun c_1 => ?_)
      · refine z_vret C (pc := 28) (cpv n1 f1 n2 f2 j) dX3_copy_28 ?_ rfl
        have : j = n2 := by
          rcases Nat.lt_or_ge j n2 with q | q
          · exact absurd c_1 (nI_ge q h2)
          · omega
        subst this; rfl
      · have hj : j < n2 := by
          rcases Nat.lt_or_ge j n2 with q | q
          · exact q
          · exact absurd (nI_le q (by omega)) c_1
        refine z_aload_n C (pc := 12) dX3_copy_12 rfl ?_
        refine z_iload_n C (pc := 13) dX3_copy_13 rfl ?_
        refine z_aload_n C (pc := 14) dX3_copy_14 rfl ?_
        refine z_iload_n C (pc := 15) dX3_copy_15 rfl ?_
        refine z_calli C (isC := [0]) rfl (by exact fun _ => rfl) (runS C (wc := [(b1, .inl (cI, n1, .inl f1))]) (pc := 16) (rY' := rm 0 0) (nn := 2) (As := [.ref b1, .int (nI j)]) (rest := [.int (nI j), .ref b2]) (c_at l D cI tt b1 n1 f1 (nI j) h1) rfl rfl ⟨rfl, rfl, ⟨Nat.le_of_ble_eq_true rfl, Nat.le_of_ble_eq_true rfl⟩, Nat.le_of_ble_eq_true rfl, Nat.le_of_ble_eq_true rfl⟩ wl_X3_87 ws_X3_at wi_X3 wc_X3_at (by decide +kernel) rfl rfl (Nat.le_of_ble_eq_true rfl) dX3_copy_16) (fun r_2 u_2 h_2 => ?_)
        refine z_ws (st' := [.int r_2, .int (nI j), .ref b2]) (ws' := [(b1, .inl (cI, n1, .inl f1)), (b2, .inl (cI, n2, .inl (cpv n1 f1 n2 f2 j)))]) rfl rfl ?_
        refine z_callv C (isC := [1]) rfl (by exact fun _ => rfl) (runS C (wc := [(b2, .inl (cI, n2, .inl (cpv n1 f1 n2 f2 j)))]) (pc := 19) (rY' := rm 0 0) (nn := 3) (As := [.ref b2, .int (nI j), .int r_2]) (rest := []) (c_put l D cI tt b2 n2 (cpv n1 f1 n2 f2 j) (nI j) r_2 h2) rfl rfl ⟨rfl, rfl, ⟨Nat.le_of_ble_eq_true rfl, Nat.le_of_ble_eq_true rfl⟩, Nat.le_of_ble_eq_true rfl, Nat.le_of_ble_eq_true rfl⟩ wl_X3_66 ws_X3_put wi_X3 wc_X3_put (by decide +kernel) rfl rfl (Nat.le_of_ble_eq_true rfl) dX3_copy_19) (fun u_3 h_3 => ?_)
        subst h_3
        subst h_2
        refine z_ws (st' := []) (ws' := [(b1, .inl (cI, n1, .inl f1)), (b2, .inl (cI, n2, .inl (putv n2 (cpv n1 f1 n2 f2 j) (nI j) (atv n1 f1 (nI j)))))]) rfl rfl ?_
        refine z_iinc C (pc := 22) (v := ((nI j) + 1)) (lv' := [(0, .ref b1), (1, .ref b2), (2, .int ((nI j) + 1))]) dX3_copy_22 rfl rfl (Nat.le_of_ble_eq_true rfl) rfl rfl ?_
        refine z_goto C (pc := 25) (tgt := 2) dX3_copy_25 (by decide) ?_
        refine z_ws (st' := []) (ws' := [(b1, .inl (cI, n1, .inl f1)), (b2, .inl (cI, n2, .inl (cpv n1 f1 n2 f2 (j + 1))))]) rfl rfl ?_
        refine z_lv (lv' := [(0, .ref b1), (1, .ref b2), (2, .int (nI (j + 1)))]) ⟨rfl, rfl, by rw [nI_succ]; rfl, trivial⟩ ?_
        exact ih (j + 1) (by omega) (by omega)
  exact z_lv (lv' := [(0, .ref b1), (1, .ref b2), (2, .int (nI 0))]) ⟨rfl, rfl, rfl, trivial⟩ (key (n2 + 1) 0 (Nat.zero_le _) (by omega))
