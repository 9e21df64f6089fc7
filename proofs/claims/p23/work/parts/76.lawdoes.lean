/-! what the law does -/
theorem and_nI : ∀ x, x < 64 → ∀ y, y < 64 → nI x &&& nI y = nI (x &&& y) := by decide +kernel
theorem lay_in {z : SG} {k v : Nat} (hn : z.1 4 ≠ 0) (hk : k < 5) (hv : v < 10) : layF z (nI (1 + k)) (nI v) = (nI (z.2.1 2 k), (z.1, va_up z.2.1 2 (upN (z.2.1 2) k v), z.2.2)) := by
  have e1 : ¬ (nI v < 0 ∨ ¬ nI v ≤ 9) := fun h => h.elim (nI_pos (by omega)) (fun h => h (nI_le (b := 9) (by omega) (by decide)))
  unfold layF
  rw [noC_in hn (by omega) (by omega), if_neg (by decide), if_neg e1, tn_nI (by omega), tn_nI (by omega), show 1 + k - 1 = k by omega]
theorem li_lay {z : SG} {fb fd : Nat → Int32} {k v : Nat} (hl : LI z fb fd) (hk : k < 5) : LI (z.1, va_up z.2.1 2 (upN (z.2.1 2) k v), z.2.2) fb (upd fd (1 + k) (nI v)) := by
  obtain ⟨l0, l1, l2, l3, l4, l5, l6⟩ := hl
  refine ⟨l0, l1, fun j hj => ?_, (upd_n (by omega)).trans l3, (upd_n (by omega)).trans l4, (upd_n (by omega)).trans l5, l6⟩
  show upd fd (1 + k) (nI v) (j + 1) = nI (upN (z.2.1 2) k v j)
  unfold upd upN
  by_cases e : j = k
  · rw [if_pos (by omega), if_pos e]
  · rw [if_neg (by omega), if_neg e]; exact l2 j hj
theorem li_march {z : SG} {fb fd fd2 : Nat → Int32} {al mm hh : Nat} {c : Nat → Nat} (hl : LI z fb fd) (h5 : ∀ k, k < 5 → fd2 (k + 1) = nI (c k)) (h6 : fd2 6 = nI al) (h7 : fd2 7 = nI mm) (h8 : fd2 8 = nI hh) : LI (upG (upG (upG z.1 5 al) 6 mm) 7 hh, va_up z.2.1 2 c, z.2.2) fb fd2 := by
  obtain ⟨l0, l1, l2, l3, l4, l5, l6⟩ := hl
  exact ⟨l0, l1, h5, h6, h7, h8, l6⟩
theorem march_in {z : SG} {x st f : Nat} (h6 : z.1 4 ≤ 6) (h1 : 1 ≤ x) (hx : x < 2 ^ z.1 4) (s1 : 1 ≤ st) (s6 : st ≤ 6) (hf : f ≤ 40) (hd : deadv (nI x) (nI (z.1 5)) = 0) :
    marchF z (nI x) (nI st) (nI f) = (nI (marS z x st f).1, (upG (upG (upG z.1 5 (alv (z.1 5) x (marS z x st f).1)) 6 (z.1 6 + 1)) 7 (z.1 7 + (if (marS z x st f).1 = 0 then 0 else 1)), va_up z.2.1 2 (marS z x st f).2.2.1, z.2.2)) := by
  have hp := pow_le6 h6
  unfold marchF
  rw [noM_in h6 h1 hx s1 s6 hf, if_neg (by decide), if_neg (fun h => h hd), tn_nI (by omega), tn_nI (by omega), tn_nI (by omega)]
theorem march_out {z : SG} {x st f : Nat} (h6 : z.1 4 ≤ 6) (h1 : 1 ≤ x) (hx : x < 2 ^ z.1 4) (s1 : 1 ≤ st) (s6 : st ≤ 6) (hf : f ≤ 40) (hd : ¬ deadv (nI x) (nI (z.1 5)) = 0) : marchF z (nI x) (nI st) (nI f) = (-103, z) := by
  unfold marchF
  rw [noM_in h6 h1 hx s1 s6 hf, if_neg (by decide), if_pos hd]
set_option maxHeartbeats 4000000 in
set_option maxRecDepth 100000 in
theorem g_does (l : Launch) (D : va_G) (cI : ClassId) (tt : Nat × Nat × Nat) (a : Nat → Nat) (i : Nat → Int32) (r : Nat → Nat → Int32) (ab ad ar : Nat) (fb fd fr : Nat → Int32) (x : Int32) (z : SG) (hz : Cls z i r) (vz : VS z) (hl : LI z fb fd) : MetI (S := ((Nat → Int32) × (Nat → Nat → Int32) × (Nat → Int32) × (Nat → Int32))) l yL_does cL_does 8 (some .boolean) (rm 5 115) D cI tt [.ref (a 0), .ref ab, .ref ad, .ref ar, .int x] ((cW cI a i r) ++ [(ab, .inl (cI, 7, .inl fb)), (ad, .inl (cI, 9, .inl fd)), (ar, .inl (cI, 3, .inl fr))]) (fun q u => q = 1 ∧ ∃ z', Cls z' u.1 u.2.1 ∧ VS z' ∧ LI z' fb u.2.2.1) (fun u => ((cW cI a u.1 u.2.1) ++ [(ab, .inl (cI, 7, .inl fb)), (ad, .inl (cI, 9, .inl u.2.2.1)), (ar, .inl (cI, 3, .inl u.2.2.2))])) := by
  have v4 : z.1 4 ≤ 6 := vz.2.2.2.1
  have v5 : z.1 5 < 2 ^ z.1 4 := vz.2.2.2.2.1
  have hx6 := pow_le6 v4
  obtain ⟨li0, li1, li2, li3, li4, li5, li6⟩ := id hl
  have hbv := hl.bv vz
  have hdv := hl.dv vz
  have hp4 : 4 ≤ 2 ^ z.1 4 := Nat.pow_le_pow_right (n := 2) (by decide) li6
  have hn0 : z.1 4 ≠ 0 := by omega
  refine met_ofI (by decide) (Nat.le_of_ble_eq_true rfl) ?_
  intro pP eE sS mM aV bB mE cC AA C hin
  refine z_conv (lv' := [(0, .ref (a 0)), (1, .ref ab), (2, .ref ad), (3, .ref ar), (4, .int x)]) ⟨rfl, rfl, rfl, rfl, rfl, trivial⟩ rfl rfl ?_
  refine z_iload C (pc := 0) dL_does_0 rfl ?_
  refine z_iconst C (pc := 2) (v := nI 4) dL_does_2 (by decide) ?_
  refine z_calli C (isC := []) rfl (by exact fun _ => rfl) (runS C (wc := []) (pc := 3) (rY' := rm 0 0) (nn := 2) (As := [.int x, .int (nI 4)]) (rest := []) (g_at l D cI tt x 4 (by omega) (by omega)) rfl rfl ⟨rfl, rfl, ⟨Nat.le_of_ble_eq_true rfl, Nat.le_of_ble_eq_true rfl⟩, Nat.le_of_ble_eq_true rfl, Nat.le_of_ble_eq_true rfl⟩ wl_L_8 ws_L_at wi_L wc_L_at (by decide +kernel) rfl rfl (Nat.le_of_ble_eq_true rfl) dL_does_3) (fun r_1 u_1 h_1 => ?_)
  obtain ⟨k1, hk1, ek1⟩ := h_1
  subst ek1
  refine z_ws (st' := [.int (nI k1)]) (ws' := ((cW cI a i r) ++ [(ab, .inl (cI, 7, .inl fb)), (ad, .inl (cI, 9, .inl fd)), (ar, .inl (cI, 3, .inl fr))])) rfl rfl ?_
  refine z_if_gt C (pc := 6) (tgt := 16) dL_does_6 (by decide) (fun c_2 => ?_) (fun c_2 => ?_)
  · refine z_iconst C (pc := 16) (v := nI 1) dL_does_16 (by decide) ?_
    refine z_iload C (pc := 17) dL_does_17 rfl ?_
    refine z_iconst C (pc := 19) (v := nI 2) dL_does_19 (by decide) ?_
    refine z_ishr C (pc := 20) dL_does_20 ?_
    refine z_iconst C (pc := 21) (v := nI 5) dL_does_21 (by decide) ?_
    refine z_calli C (isC := []) rfl (by exact fun _ => rfl) (runS C (wc := []) (pc := 22) (rY' := rm 0 0) (nn := 2) (As := [.int (x >>> ((nI 2) &&& 31)), .int (nI 5)]) (rest := [.int (nI 1)]) (g_at l D cI tt (x >>> ((nI 2) &&& 31)) 5 (by omega) (by omega)) rfl rfl ⟨rfl, rfl, ⟨Nat.le_of_ble_eq_true rfl, Nat.le_of_ble_eq_true rfl⟩, Nat.le_of_ble_eq_true rfl, Nat.le_of_ble_eq_true rfl⟩ wl_L_8 ws_L_at wi_L wc_L_at (by decide +kernel) rfl rfl (Nat.le_of_ble_eq_true rfl) dL_does_22) (fun r_3 u_3 h_3 => ?_)
    obtain ⟨k2, hk2, ek2⟩ := h_3
    subst ek2
    refine z_ws (st' := [.int (nI k2), .int (nI 1)]) (ws' := ((cW cI a i r) ++ [(ab, .inl (cI, 7, .inl fb)), (ad, .inl (cI, 9, .inl fd)), (ar, .inl (cI, 3, .inl fr))])) rfl rfl ?_
    refine z_iadd C (pc := 25) dL_does_25 ?_
    refine z_seti (y := nI (1 + k2)) (nI_add _ _) ?_
    refine z_istore C (pc := 26) (lv' := [(0, .ref (a 0)), (1, .ref ab), (2, .ref ad), (3, .ref ar), (4, .int x), (5, .int (nI (1 + k2)))]) dL_does_26 (Nat.le_of_ble_eq_true rfl) rfl rfl ?_
    refine z_aload_n C (pc := 28) dL_does_28 rfl ?_
    refine z_iload C (pc := 29) dL_does_29 rfl ?_
    have h_4 : vp_in (nI (1 + k2)) 9 := by exact vp_in_nI (by omega) (by decide)
    refine z_iald C (pc := 31) 20 rfl h_4 dL_does_31 ?_
    refine z_seti (y := (fd (1 + k2))) (by rw [nI_clamp (by omega)]) ?_
    refine z_seti (y := nI (z.2.1 2 k2)) (by rw [Nat.add_comm]; exact li2 k2 hk2) ?_
    refine z_istore C (pc := 32) (lv' := [(0, .ref (a 0)), (1, .ref ab), (2, .ref ad), (3, .ref ar), (4, .int x), (5, .int (nI (1 + k2))), (6, .int (nI (z.2.1 2 k2)))]) dL_does_32 (Nat.le_of_ble_eq_true rfl) rfl rfl ?_
    refine z_aload_n C (pc := 34) dL_does_34 rfl ?_
    refine z_iload C (pc := 35) dL_does_35 rfl ?_
    refine z_iload C (pc := 37) dL_does_37 rfl ?_
    refine z_iconst C (pc := 39) (v := nI 5) dL_does_39 (by decide) ?_
    refine z_ishr C (pc := 40) dL_does_40 ?_
    refine z_bipush C (pc := 41) (v := nI 10) dL_does_41 (by decide) ?_
    refine z_calli C (isC := []) rfl (by exact fun _ => rfl) (runS C (wc := []) (pc := 43) (rY' := rm 0 0) (nn := 2) (As := [.int (x >>> ((nI 5) &&& 31)), .int (nI 10)]) (rest := [.int (nI (1 + k2)), .ref ad]) (g_at l D cI tt (x >>> ((nI 5) &&& 31)) 10 (by omega) (by omega)) rfl rfl ⟨rfl, rfl, ⟨Nat.le_of_ble_eq_true rfl, Nat.le_of_ble_eq_true rfl⟩, Nat.le_of_ble_eq_true rfl, Nat.le_of_ble_eq_true rfl⟩ wl_L_8 ws_L_at wi_L wc_L_at (by decide +kernel) rfl rfl (Nat.le_of_ble_eq_true rfl) dL_does_43) (fun r_5 u_5 h_5 => ?_)
    obtain ⟨vv, hvv, evv⟩ := h_5
    subst evv
    refine z_ws (st' := [.int (nI vv), .int (nI (1 + k2)), .ref ad]) (ws' := ((cW cI a i r) ++ [(ab, .inl (cI, 7, .inl fb)), (ad, .inl (cI, 9, .inl fd)), (ar, .inl (cI, 3, .inl fr))])) rfl rfl ?_
    have h_6 : vp_in (nI (1 + k2)) 9 := by exact vp_in_nI (by omega) (by decide)
    refine z_iast C (pc := 46) 20 rfl h_6 (ws' := ((cW cI a i r) ++ [(ab, .inl (cI, 7, .inl fb)), (ad, .inl (cI, 9, .inl (upd fd (1 + k2) (nI vv)))), (ar, .inl (cI, 3, .inl fr))])) (by rw [nI_clamp (by omega)]; rfl) dL_does_46 ?_
    refine z_aload_n C (pc := 47) dL_does_47 rfl ?_
    refine z_iload C (pc := 48) dL_does_48 rfl ?_
    refine z_aload_n C (pc := 50) dL_does_50 rfl ?_
    refine z_iload C (pc := 51) dL_does_51 rfl ?_
    have h_7 : vp_in (nI (1 + k2)) 9 := by exact vp_in_nI (by omega) (by decide)
    refine z_iald C (pc := 53) 20 rfl h_7 dL_does_53 ?_
    refine z_seti (y := ((upd fd (1 + k2) (nI vv)) (1 + k2))) (by rw [nI_clamp (by omega)]) ?_
    refine z_seti (y := nI vv) upd_s ?_
    refine z_calliL C (by exact fun _ => cW_ad) (runV C (wc := (cW cI a i r)) (pc := 54) (rY' := rm 1 22) (nn := 2) (As := [.int (nI (1 + k2)), .int (nI vv)]) (rest := []) (c_lay l D cI tt a i r (nI (1 + k2)) (nI vv) z hz vz) (apL_hC _ _) (full_nd _) ⟨rfl, rfl, ⟨Nat.le_of_ble_eq_true rfl, Nat.le_of_ble_eq_true rfl⟩, Nat.le_of_ble_eq_true rfl, Nat.le_of_ble_eq_true rfl⟩ wl_L_66 wm_X3_lay we_X3_lay wi_X3 wc_X3_lay (by decide +kernel) rfl 0 rfl rfl rfl rfl (Nat.le_of_ble_eq_true rfl) dL_does_54) (fun q_8 u_8 h_8 => ?_)
    obtain ⟨i8, r8⟩ := u_8
    try dsimp only at h_8
    obtain ⟨k0, hzl⟩ := h_8
    have hly := lay_in (v := vv) hn0 hk2 hvv
    have hvl := vs_lay vz (nI (1 + k2)) (nI vv)
    rw [hly] at k0 hzl hvl
    refine z_ws (st' := [.int q_8]) (ws' := ((cW cI a i8 r8) ++ [(ab, .inl (cI, 7, .inl fb)), (ad, .inl (cI, 9, .inl (upd fd (1 + k2) (nI vv)))), (ar, .inl (cI, 3, .inl fr))])) rfl rfl ?_
    refine z_seti (y := (nI (z.2.1 2 k2))) k0 ?_
    refine z_iload C (pc := 57) dL_does_57 rfl ?_
    refine z_icmp_ne C (pc := 59) (tgt := 66) dL_does_59 (by decide) (fun c_9 => ?_) (fun c_9 => ?_)
    · exact absurd rfl c_9
    · refine z_iconst C (pc := 62) (v := nI 1) dL_does_62 (by decide) ?_
      refine z_goto C (pc := 63) (tgt := 67) dL_does_63 (by decide) ?_
      refine z_zret C (pc := 67) (i8, r8, (upd fd (1 + k2) (nI vv)), fr) dL_does_67 rfl ?_ rfl
      exact ⟨rfl, _, hzl, hvl, li_lay hl hk2⟩
  · refine z_aload_n C (pc := 9) dL_does_9 rfl ?_
    refine z_bipush C (pc := 10) (v := nI 6) dL_does_10 (by decide) ?_
    have h_10 : vp_in (nI 6) 9 := by exact vp_in_nI (by omega) (by decide)
    refine z_iald C (pc := 12) 20 rfl h_10 dL_does_12 ?_
    refine z_seti (y := (fd 6)) (by rw [nI_clamp (by omega)]) ?_
    refine z_seti (y := nI (z.1 5)) li3 ?_
    refine z_if_ne C (pc := 13) (tgt := 68) dL_does_13 (by decide) (fun c_11 => ?_) (fun c_11 => ?_)
    · have join117 : ∀ (sx : Nat), (1 ≤ sx) → (sx < 2 ^ z.1 4) → Z pP l eE (rm 5 115) sS mM aV bB mE cC D AA 8 0 0 (MQ bB (va_Qi (S := ((Nat → Int32) × (Nat → Nat → Int32) × (Nat → Int32) × (Nat → Int32))) (fun q u => q = 1 ∧ ∃ z', Cls z' u.1 u.2.1 ∧ VS z' ∧ LI z' fb u.2.2.1) (fun u t => va_P D vwCl ((fun u => ((cW cI a u.1 u.2.1) ++ [(ab, .inl (cI, 7, .inl fb)), (ad, .inl (cI, 9, .inl u.2.2.1)), (ar, .inl (cI, 3, .inl u.2.2.2))])) u) t.heap) AA) aV sS 0 0 AA) 117 [(0, .ref (a 0)), (1, .ref ab), (2, .ref ad), (3, .ref ar), (4, .int x), (5, .int (nI sx))] [] ((cW cI a i r) ++ [(ab, .inl (cI, 7, .inl fb)), (ad, .inl (cI, 9, .inl fd)), (ar, .inl (cI, 3, .inl fr))]) := by
        intro sx hs1 hs2
        refine z_iconst C (pc := 117) (v := nI 1) dL_does_117 (by decide) ?_
        refine z_iload C (pc := 118) dL_does_118 rfl ?_
        refine z_bipush C (pc := 120) (v := nI 10) dL_does_120 (by decide) ?_
        refine z_ishr C (pc := 122) dL_does_122 ?_
        refine z_bipush C (pc := 123) (v := nI 6) dL_does_123 (by decide) ?_
        refine z_calli C (isC := []) rfl (by exact fun _ => rfl) (runS C (wc := []) (pc := 125) (rY' := rm 0 0) (nn := 2) (As := [.int (x >>> ((nI 10) &&& 31)), .int (nI 6)]) (rest := [.int (nI 1)]) (g_at l D cI tt (x >>> ((nI 10) &&& 31)) 6 (by omega) (by omega)) rfl rfl ⟨rfl, rfl, ⟨Nat.le_of_ble_eq_true rfl, Nat.le_of_ble_eq_true rfl⟩, Nat.le_of_ble_eq_true rfl, Nat.le_of_ble_eq_true rfl⟩ wl_L_8 ws_L_at wi_L wc_L_at (by decide +kernel) rfl rfl (Nat.le_of_ble_eq_true rfl) dL_does_125) (fun r_12 u_12 h_12 => ?_)
        obtain ⟨k5, hk5, ek5⟩ := h_12
        subst ek5
        refine z_ws (st' := [.int (nI k5), .int (nI 1)]) (ws' := ((cW cI a i r) ++ [(ab, .inl (cI, 7, .inl fb)), (ad, .inl (cI, 9, .inl fd)), (ar, .inl (cI, 3, .inl fr))])) rfl rfl ?_
        refine z_iadd C (pc := 128) dL_does_128 ?_
        refine z_seti (y := nI (1 + k5)) (nI_add _ _) ?_
        refine z_istore C (pc := 129) (lv' := [(0, .ref (a 0)), (1, .ref ab), (2, .ref ad), (3, .ref ar), (4, .int x), (5, .int (nI sx)), (6, .int (nI (1 + k5)))]) dL_does_129 (Nat.le_of_ble_eq_true rfl) rfl rfl ?_
        have join160 : ∀ (fo : Nat), (fo ≤ 40) → Z pP l eE (rm 5 115) sS mM aV bB mE cC D AA 8 0 0 (MQ bB (va_Qi (S := ((Nat → Int32) × (Nat → Nat → Int32) × (Nat → Int32) × (Nat → Int32))) (fun q u => q = 1 ∧ ∃ z', Cls z' u.1 u.2.1 ∧ VS z' ∧ LI z' fb u.2.2.1) (fun u t => va_P D vwCl ((fun u => ((cW cI a u.1 u.2.1) ++ [(ab, .inl (cI, 7, .inl fb)), (ad, .inl (cI, 9, .inl u.2.2.1)), (ar, .inl (cI, 3, .inl u.2.2.2))])) u) t.heap) AA) aV sS 0 0 AA) 160 [(0, .ref (a 0)), (1, .ref ab), (2, .ref ad), (3, .ref ar), (4, .int x), (5, .int (nI sx)), (6, .int (nI (1 + k5))), (7, .int (nI fo))] [] ((cW cI a i r) ++ [(ab, .inl (cI, 7, .inl fb)), (ad, .inl (cI, 9, .inl fd)), (ar, .inl (cI, 3, .inl fr))]) := by
          intro fo hfo
          refine z_iload C (pc := 160) dL_does_160 rfl ?_
          refine z_aload_n C (pc := 162) dL_does_162 rfl ?_
          refine z_bipush C (pc := 163) (v := nI 6) dL_does_163 (by decide) ?_
          have h_13 : vp_in (nI 6) 9 := by exact vp_in_nI (by omega) (by decide)
          refine z_iald C (pc := 165) 20 rfl h_13 dL_does_165 ?_
          refine z_seti (y := (fd 6)) (by rw [nI_clamp (by omega)]) ?_
          refine z_seti (y := nI (z.1 5)) li3 ?_
          refine z_iconst C (pc := 166) (v := (-1)) dL_does_166 (by decide) ?_
          refine z_ixor C (pc := 167) dL_does_167 ?_
          refine z_iand C (pc := 168) dL_does_168 ?_
          refine z_if_eq C (pc := 169) (tgt := 193) dL_does_169 (by decide) (fun c_14 => ?_) (fun c_14 => ?_)
          · have hdz : deadv (nI sx) (nI (z.1 5)) = 0 := c_14
            refine z_aload_n C (pc := 193) dL_does_193 rfl ?_
            refine z_aload_n C (pc := 194) dL_does_194 rfl ?_
            refine z_aload_n C (pc := 195) dL_does_195 rfl ?_
            refine z_iload C (pc := 196) dL_does_196 rfl ?_
            refine z_iload C (pc := 198) dL_does_198 rfl ?_
            refine z_iload C (pc := 200) dL_does_200 rfl ?_
            refine z_callv C (isC := [19, 20, 21]) rfl (by exact fun _ => rfl) (runS C (wc := [(ab, .inl (cI, 7, .inl fb)), (ad, .inl (cI, 9, .inl fd)), (ar, .inl (cI, 3, .inl fr))]) (pc := 202) (rY' := rm 2 45) (nn := 6) (As := [.ref ab, .ref ad, .ref ar, .int (nI sx), .int (nI (1 + k5)), .int (nI fo)]) (rest := []) (g_march l D cI tt ab ad ar fb fd fr (z.2.1 1) (z.1 4) hbv (z.2.1 2) hdv sx (1 + k5) fo hs2 (by omega) hfo) rfl rfl ⟨rfl, rfl, ⟨Nat.le_of_ble_eq_true rfl, Nat.le_of_ble_eq_true rfl⟩, Nat.le_of_ble_eq_true rfl, Nat.le_of_ble_eq_true rfl⟩ wl_L_38 ws_L_march wi_L wc_L_march (by decide +kernel) rfl rfl (Nat.le_of_ble_eq_true rfl) dL_does_202) (fun u_15 h_15 => ?_)
            obtain ⟨fd3, fr3⟩ := u_15
            try dsimp only at h_15
            have hm : LM fd fd3 fr3 (marS z sx (1 + k5) fo) := h_15
            have hmk : MOK (z.2.1 1) (z.1 4) (marS z sx (1 + k5) fo) := mar_ok v4 hs2 (fun k hk => (hdv k hk).2)
            refine z_ws (st' := []) (ws' := ((cW cI a i r) ++ [(ab, .inl (cI, 7, .inl fb)), (ad, .inl (cI, 9, .inl fd3)), (ar, .inl (cI, 3, .inl fr3))])) rfl rfl ?_
            refine z_aload_n C (pc := 205) dL_does_205 rfl ?_
            refine z_bipush C (pc := 206) (v := nI 6) dL_does_206 (by decide) ?_
            refine z_aload_n C (pc := 208) dL_does_208 rfl ?_
            refine z_bipush C (pc := 209) (v := nI 6) dL_does_209 (by decide) ?_
            have h_16 : vp_in (nI 6) 9 := by exact vp_in_nI (by omega) (by decide)
            refine z_iald C (pc := 211) 20 rfl h_16 dL_does_211 ?_
            refine z_seti (y := (fd3 6)) (by rw [nI_clamp (by omega)]) ?_
            refine z_seti (y := nI (z.1 5)) ((hm.2.2.2.2 6 (by omega)).trans li3) ?_
            refine z_iload C (pc := 212) dL_does_212 rfl ?_
            refine z_iconst C (pc := 214) (v := (-1)) dL_does_214 (by decide) ?_
            refine z_ixor C (pc := 215) dL_does_215 ?_
            refine z_iand C (pc := 216) dL_does_216 ?_
            refine z_aload_n C (pc := 217) dL_does_217 rfl ?_
            refine z_iconst C (pc := 218) (v := nI 0) dL_does_218 (by decide) ?_
            have h_17 : vp_in (nI 0) 3 := by exact vp_in_nI (by omega) (by decide)
            refine z_iald C (pc := 219) 21 rfl h_17 dL_does_219 ?_
            refine z_seti (y := (fr3 0)) (by rw [nI_clamp (by omega)]) ?_
            refine z_seti (y := nI (marS z sx (1 + k5) fo).1) hm.1 ?_
            refine z_ior C (pc := 220) dL_does_220 ?_
            refine z_seti (y := nI (alv (z.1 5) sx (marS z sx (1 + k5) fo).1)) (march_al v4 v5 hs2 hmk.1.1) ?_
            have h_18 : vp_in (nI 6) 9 := by exact vp_in_nI (by omega) (by decide)
            refine z_iast C (pc := 221) 20 rfl h_18 (ws' := ((cW cI a i r) ++ [(ab, .inl (cI, 7, .inl fb)), (ad, .inl (cI, 9, .inl (upd fd3 6 (nI (alv (z.1 5) sx (marS z sx (1 + k5) fo).1))))), (ar, .inl (cI, 3, .inl fr3))])) (by rw [nI_clamp (by omega)]; rfl) dL_does_221 ?_
            refine z_aload_n C (pc := 222) dL_does_222 rfl ?_
            refine z_bipush C (pc := 223) (v := nI 7) dL_does_223 (by decide) ?_
            refine z_dup2 C (pc := 225) dL_does_225 rfl rfl ?_
            have h_19 : vp_in (nI 7) 9 := by exact vp_in_nI (by omega) (by decide)
            refine z_iald C (pc := 226) 20 rfl h_19 dL_does_226 ?_
            refine z_seti (y := ((upd fd3 6 (nI (alv (z.1 5) sx (marS z sx (1 + k5) fo).1))) 7)) (by rw [nI_clamp (by omega)]) ?_
            refine z_seti (y := nI (z.1 6)) ((upd_n (by decide)).trans ((hm.2.2.2.2 7 (by omega)).trans li4)) ?_
            refine z_iconst C (pc := 227) (v := nI 1) dL_does_227 (by decide) ?_
            refine z_iadd C (pc := 228) dL_does_228 ?_
            refine z_seti (y := nI ((z.1 6) + 1)) (nI_add _ _) ?_
            have h_20 : vp_in (nI 7) 9 := by exact vp_in_nI (by omega) (by decide)
            refine z_iast C (pc := 229) 20 rfl h_20 (ws' := ((cW cI a i r) ++ [(ab, .inl (cI, 7, .inl fb)), (ad, .inl (cI, 9, .inl (upd (upd fd3 6 (nI (alv (z.1 5) sx (marS z sx (1 + k5) fo).1))) 7 (nI ((z.1 6) + 1))))), (ar, .inl (cI, 3, .inl fr3))])) (by rw [nI_clamp (by omega)]; rfl) dL_does_229 ?_
            refine z_aload_n C (pc := 230) dL_does_230 rfl ?_
            refine z_iconst C (pc := 231) (v := nI 0) dL_does_231 (by decide) ?_
            have h_21 : vp_in (nI 0) 3 := by exact vp_in_nI (by omega) (by decide)
            refine z_iald C (pc := 232) 21 rfl h_21 dL_does_232 ?_
            refine z_seti (y := (fr3 0)) (by rw [nI_clamp (by omega)]) ?_
            refine z_seti (y := nI (marS z sx (1 + k5) fo).1) hm.1 ?_
            refine z_if_le C (pc := 233) (tgt := 244) dL_does_233 (by decide) (fun c_22 => ?_) (fun c_22 => ?_)
            · have hh0 : (marS z sx (1 + k5) fo).1 = 0 := by
                have := hmk.1.1
                have := (nI_leI (b := 0) (by omega) (by decide)).mp c_22
                omega
              refine z_aload_n C (pc := 244) dL_does_244 rfl ?_
              refine z_iload C (pc := 245) dL_does_245 rfl ?_
              refine z_iload C (pc := 247) dL_does_247 rfl ?_
              refine z_iload C (pc := 249) dL_does_249 rfl ?_
              refine z_calliL C (by exact fun _ => cW_ad) (runV C (wc := (cW cI a i r)) (pc := 251) (rY' := rm 4 92) (nn := 3) (As := [.int (nI sx), .int (nI (1 + k5)), .int (nI fo)]) (rest := []) (c_march l D cI tt a i r (nI sx) (nI (1 + k5)) (nI fo) z hz vz) (apL_hC _ _) (full_nd _) ⟨rfl, rfl, ⟨Nat.le_of_ble_eq_true rfl, Nat.le_of_ble_eq_true rfl⟩, Nat.le_of_ble_eq_true rfl, Nat.le_of_ble_eq_true rfl⟩ wl_L_69 wm_X3_march we_X3_march wi_X3 wc_X3_march (by decide +kernel) rfl 0 rfl rfl rfl rfl (Nat.le_of_ble_eq_true rfl) dL_does_251) (fun q_23 u_23 h_23 => ?_)
              obtain ⟨i23, r23⟩ := u_23
              try dsimp only at h_23
              obtain ⟨k0, hzl⟩ := h_23
              have hmi := march_in v4 hs1 hs2 (show 1 ≤ 1 + k5 by omega) (show 1 + k5 ≤ 6 by omega) hfo hdz
              have hvl := vs_march vz (nI sx) (nI (1 + k5)) (nI fo)
              rw [hmi] at k0 hzl hvl
              refine z_ws (st' := [.int q_23]) (ws' := ((cW cI a i23 r23) ++ [(ab, .inl (cI, 7, .inl fb)), (ad, .inl (cI, 9, .inl (upd (upd fd3 6 (nI (alv (z.1 5) sx (marS z sx (1 + k5) fo).1))) 7 (nI ((z.1 6) + 1))))), (ar, .inl (cI, 3, .inl fr3))])) rfl rfl ?_
              refine z_seti (y := (nI (marS z sx (1 + k5) fo).1)) k0 ?_
              refine z_aload_n C (pc := 254) dL_does_254 rfl ?_
              refine z_iconst C (pc := 255) (v := nI 0) dL_does_255 (by decide) ?_
              have h_24 : vp_in (nI 0) 3 := by exact vp_in_nI (by omega) (by decide)
              refine z_iald C (pc := 256) 21 rfl h_24 dL_does_256 ?_
              refine z_seti (y := (fr3 0)) (by rw [nI_clamp (by omega)]) ?_
              refine z_seti (y := nI (marS z sx (1 + k5) fo).1) hm.1 ?_
              refine z_icmp_ne C (pc := 257) (tgt := 264) dL_does_257 (by decide) (fun c_25 => ?_) (fun c_25 => ?_)
              · exact absurd rfl c_25
              · refine z_iconst C (pc := 260) (v := nI 1) dL_does_260 (by decide) ?_
                refine z_goto C (pc := 261) (tgt := 265) dL_does_261 (by decide) ?_
                refine z_zret C (pc := 265) (i23, r23, (upd (upd fd3 6 (nI (alv (z.1 5) sx (marS z sx (1 + k5) fo).1))) 7 (nI ((z.1 6) + 1))), fr3) dL_does_265 rfl ?_ rfl
                refine ⟨rfl, _, hzl, hvl, li_march hl (fun k hk => ?_) ?_ ?_ ?_⟩
                · exact (upd_n (by omega)).trans ((upd_n (by omega)).trans ((hm.2.2.2.1 k hk).1))
                · show (upd (upd fd3 6 (nI (alv (z.1 5) sx (marS z sx (1 + k5) fo).1))) 7 (nI ((z.1 6) + 1))) 6 = _
                  exact (upd_n (by decide)).trans (upd_s)
                · show (upd (upd fd3 6 (nI (alv (z.1 5) sx (marS z sx (1 + k5) fo).1))) 7 (nI ((z.1 6) + 1))) 7 = _
                  exact upd_s
                · rw [if_pos hh0, Nat.add_zero]
                  show (upd (upd fd3 6 (nI (alv (z.1 5) sx (marS z sx (1 + k5) fo).1))) 7 (nI ((z.1 6) + 1))) 8 = _
                  exact (upd_n (by decide)).trans ((upd_n (by decide)).trans ((hm.2.2.2.2 8 (by omega)).trans li5))
            · have hh0 : ¬ (marS z sx (1 + k5) fo).1 = 0 := fun e => c_22 (by rw [e]; decide)
              refine z_aload_n C (pc := 236) dL_does_236 rfl ?_
              refine z_bipush C (pc := 237) (v := nI 8) dL_does_237 (by decide) ?_
              refine z_dup2 C (pc := 239) dL_does_239 rfl rfl ?_
              have h_26 : vp_in (nI 8) 9 := by exact vp_in_nI (by omega) (by decide)
              refine z_iald C (pc := 240) 20 rfl h_26 dL_does_240 ?_
              refine z_seti (y := ((upd (upd fd3 6 (nI (alv (z.1 5) sx (marS z sx (1 + k5) fo).1))) 7 (nI ((z.1 6) + 1))) 8)) (by rw [nI_clamp (by omega)]) ?_
              refine z_seti (y := nI (z.1 7)) ((upd_n (by decide)).trans ((upd_n (by decide)).trans ((hm.2.2.2.2 8 (by omega)).trans li5))) ?_
              refine z_iconst C (pc := 241) (v := nI 1) dL_does_241 (by decide) ?_
              refine z_iadd C (pc := 242) dL_does_242 ?_
              refine z_seti (y := nI ((z.1 7) + 1)) (nI_add _ _) ?_
              have h_27 : vp_in (nI 8) 9 := by exact vp_in_nI (by omega) (by decide)
              refine z_iast C (pc := 243) 20 rfl h_27 (ws' := ((cW cI a i r) ++ [(ab, .inl (cI, 7, .inl fb)), (ad, .inl (cI, 9, .inl (upd (upd (upd fd3 6 (nI (alv (z.1 5) sx (marS z sx (1 + k5) fo).1))) 7 (nI ((z.1 6) + 1))) 8 (nI ((z.1 7) + 1))))), (ar, .inl (cI, 3, .inl fr3))])) (by rw [nI_clamp (by omega)]; rfl) dL_does_243 ?_
              refine z_aload_n C (pc := 244) dL_does_244 rfl ?_
              refine z_iload C (pc := 245) dL_does_245 rfl ?_
              refine z_iload C (pc := 247) dL_does_247 rfl ?_
              refine z_iload C (pc := 249) dL_does_249 rfl ?_
              refine z_calliL C (by exact fun _ => cW_ad) (runV C (wc := (cW cI a i r)) (pc := 251) (rY' := rm 4 92) (nn := 3) (As := [.int (nI sx), .int (nI (1 + k5)), .int (nI fo)]) (rest := []) (c_march l D cI tt a i r (nI sx) (nI (1 + k5)) (nI fo) z hz vz) (apL_hC _ _) (full_nd _) ⟨rfl, rfl, ⟨Nat.le_of_ble_eq_true rfl, Nat.le_of_ble_eq_true rfl⟩, Nat.le_of_ble_eq_true rfl, Nat.le_of_ble_eq_true rfl⟩ wl_L_69 wm_X3_march we_X3_march wi_X3 wc_X3_march (by decide +kernel) rfl 0 rfl rfl rfl rfl (Nat.le_of_ble_eq_true rfl) dL_does_251) (fun q_28 u_28 h_28 => ?_)
              obtain ⟨i28, r28⟩ := u_28
              try dsimp only at h_28
              obtain ⟨k0, hzl⟩ := h_28
              have hmi := march_in v4 hs1 hs2 (show 1 ≤ 1 + k5 by omega) (show 1 + k5 ≤ 6 by omega) hfo hdz
              have hvl := vs_march vz (nI sx) (nI (1 + k5)) (nI fo)
              rw [hmi] at k0 hzl hvl
              refine z_ws (st' := [.int q_28]) (ws' := ((cW cI a i28 r28) ++ [(ab, .inl (cI, 7, .inl fb)), (ad, .inl (cI, 9, .inl (upd (upd (upd fd3 6 (nI (alv (z.1 5) sx (marS z sx (1 + k5) fo).1))) 7 (nI ((z.1 6) + 1))) 8 (nI ((z.1 7) + 1))))), (ar, .inl (cI, 3, .inl fr3))])) rfl rfl ?_
              refine z_seti (y := (nI (marS z sx (1 + k5) fo).1)) k0 ?_
              refine z_aload_n C (pc := 254) dL_does_254 rfl ?_
              refine z_iconst C (pc := 255) (v := nI 0) dL_does_255 (by decide) ?_
              have h_29 : vp_in (nI 0) 3 := by exact vp_in_nI (by omega) (by decide)
              refine z_iald C (pc := 256) 21 rfl h_29 dL_does_256 ?_
              refine z_seti (y := (fr3 0)) (by rw [nI_clamp (by omega)]) ?_
              refine z_seti (y := nI (marS z sx (1 + k5) fo).1) hm.1 ?_
              refine z_icmp_ne C (pc := 257) (tgt := 264) dL_does_257 (by decide) (fun c_30 => ?_) (fun c_30 => ?_)
              · exact absurd rfl c_30
              · refine z_iconst C (pc := 260) (v := nI 1) dL_does_260 (by decide) ?_
                refine z_goto C (pc := 261) (tgt := 265) dL_does_261 (by decide) ?_
                refine z_zret C (pc := 265) (i28, r28, (upd (upd (upd fd3 6 (nI (alv (z.1 5) sx (marS z sx (1 + k5) fo).1))) 7 (nI ((z.1 6) + 1))) 8 (nI ((z.1 7) + 1))), fr3) dL_does_265 rfl ?_ rfl
                refine ⟨rfl, _, hzl, hvl, li_march hl (fun k hk => ?_) ?_ ?_ ?_⟩
                · exact (upd_n (by omega)).trans ((upd_n (by omega)).trans ((upd_n (by omega)).trans ((hm.2.2.2.1 k hk).1)))
                · show (upd (upd (upd fd3 6 (nI (alv (z.1 5) sx (marS z sx (1 + k5) fo).1))) 7 (nI ((z.1 6) + 1))) 8 (nI ((z.1 7) + 1))) 6 = _
                  exact (upd_n (by decide)).trans ((upd_n (by decide)).trans (upd_s))
                · show (upd (upd (upd fd3 6 (nI (alv (z.1 5) sx (marS z sx (1 + k5) fo).1))) 7 (nI ((z.1 6) + 1))) 8 (nI ((z.1 7) + 1))) 7 = _
                  exact (upd_n (by decide)).trans (upd_s)
                · rw [if_neg hh0]
                  show (upd (upd (upd fd3 6 (nI (alv (z.1 5) sx (marS z sx (1 + k5) fo).1))) 7 (nI ((z.1 6) + 1))) 8 (nI ((z.1 7) + 1))) 8 = _
                  exact upd_s
          · have hdn : ¬ deadv (nI sx) (nI (z.1 5)) = 0 := c_14
            refine z_aload_n C (pc := 172) dL_does_172 rfl ?_
            refine z_iload C (pc := 173) dL_does_173 rfl ?_
            refine z_iload C (pc := 175) dL_does_175 rfl ?_
            refine z_iload C (pc := 177) dL_does_177 rfl ?_
            refine z_calliL C (by exact fun _ => cW_ad) (runV C (wc := (cW cI a i r)) (pc := 179) (rY' := rm 4 92) (nn := 3) (As := [.int (nI sx), .int (nI (1 + k5)), .int (nI fo)]) (rest := []) (c_march l D cI tt a i r (nI sx) (nI (1 + k5)) (nI fo) z hz vz) (apL_hC _ _) (full_nd _) ⟨rfl, rfl, ⟨Nat.le_of_ble_eq_true rfl, Nat.le_of_ble_eq_true rfl⟩, Nat.le_of_ble_eq_true rfl, Nat.le_of_ble_eq_true rfl⟩ wl_L_69 wm_X3_march we_X3_march wi_X3 wc_X3_march (by decide +kernel) rfl 0 rfl rfl rfl rfl (Nat.le_of_ble_eq_true rfl) dL_does_179) (fun q_31 u_31 h_31 => ?_)
            obtain ⟨i31, r31⟩ := u_31
            try dsimp only at h_31
            obtain ⟨k0, hzl⟩ := h_31
            have hmo := march_out v4 hs1 hs2 (show 1 ≤ 1 + k5 by omega) (show 1 + k5 ≤ 6 by omega) hfo hdn
            rw [hmo] at k0 hzl
            refine z_ws (st' := [.int q_31]) (ws' := ((cW cI a i31 r31) ++ [(ab, .inl (cI, 7, .inl fb)), (ad, .inl (cI, 9, .inl fd)), (ar, .inl (cI, 3, .inl fr))])) rfl rfl ?_
            refine z_seti (y := (-103)) k0 ?_
            refine z_bipush C (pc := 182) (v := (-103)) dL_does_182 (by decide) ?_
            refine z_icmp_ne C (pc := 184) (tgt := 191) dL_does_184 (by decide) (fun c_32 => ?_) (fun c_32 => ?_)
            · exact absurd c_32 (by decide)
            · refine z_iconst C (pc := 187) (v := nI 1) dL_does_187 (by decide) ?_
              refine z_goto C (pc := 188) (tgt := 192) dL_does_188 (by decide) ?_
              refine z_zret C (pc := 192) (i31, r31, fd, fr) dL_does_192 rfl ?_ rfl
              exact ⟨rfl, z, hzl, vz, hl⟩
        refine z_iload C (pc := 131) dL_does_131 rfl ?_
        refine z_bipush C (pc := 133) (v := nI 13) dL_does_133 (by decide) ?_
        refine z_ishr C (pc := 135) dL_does_135 ?_
        refine z_iload C (pc := 136) dL_does_136 rfl ?_
        refine z_bipush C (pc := 138) (v := nI 19) dL_does_138 (by decide) ?_
        refine z_ishr C (pc := 140) dL_does_140 ?_
        refine z_iconst C (pc := 141) (v := nI 2) dL_does_141 (by decide) ?_
        refine z_calli C (isC := []) rfl (by exact fun _ => rfl) (runS C (wc := []) (pc := 142) (rY' := rm 0 0) (nn := 2) (As := [.int (x >>> ((nI 19) &&& 31)), .int (nI 2)]) (rest := [.int (x >>> ((nI 13) &&& 31))]) (g_at l D cI tt (x >>> ((nI 19) &&& 31)) 2 (by omega) (by omega)) rfl rfl ⟨rfl, rfl, ⟨Nat.le_of_ble_eq_true rfl, Nat.le_of_ble_eq_true rfl⟩, Nat.le_of_ble_eq_true rfl, Nat.le_of_ble_eq_true rfl⟩ wl_L_8 ws_L_at wi_L wc_L_at (by decide +kernel) rfl rfl (Nat.le_of_ble_eq_true rfl) dL_does_142) (fun r_33 u_33 h_33 => ?_)
        obtain ⟨k6, hk6, ek6⟩ := h_33
        subst ek6
        refine z_ws (st' := [.int (nI k6), .int (x >>> ((nI 13) &&& 31))]) (ws' := ((cW cI a i r) ++ [(ab, .inl (cI, 7, .inl fb)), (ad, .inl (cI, 9, .inl fd)), (ar, .inl (cI, 3, .inl fr))])) rfl rfl ?_
        refine z_if_ne C (pc := 145) (tgt := 153) dL_does_145 (by decide) (fun c_34 => ?_) (fun c_34 => ?_)
        · refine z_bipush C (pc := 153) (v := nI 21) dL_does_153 (by decide) ?_
          refine z_calli C (isC := []) rfl (by exact fun _ => rfl) (runS C (wc := []) (pc := 155) (rY' := rm 0 0) (nn := 2) (As := [.int (x >>> ((nI 13) &&& 31)), .int (nI 21)]) (rest := []) (g_at l D cI tt (x >>> ((nI 13) &&& 31)) 21 (by omega) (by omega)) rfl rfl ⟨rfl, rfl, ⟨Nat.le_of_ble_eq_true rfl, Nat.le_of_ble_eq_true rfl⟩, Nat.le_of_ble_eq_true rfl, Nat.le_of_ble_eq_true rfl⟩ wl_L_8 ws_L_at wi_L wc_L_at (by decide +kernel) rfl rfl (Nat.le_of_ble_eq_true rfl) dL_does_155) (fun r_35 u_35 h_35 => ?_)
          obtain ⟨k7, hk7, ek7⟩ := h_35
          subst ek7
          refine z_ws (st' := [.int (nI k7)]) (ws' := ((cW cI a i r) ++ [(ab, .inl (cI, 7, .inl fb)), (ad, .inl (cI, 9, .inl fd)), (ar, .inl (cI, 3, .inl fr))])) rfl rfl ?_
          refine z_istore C (pc := 158) (lv' := [(0, .ref (a 0)), (1, .ref ab), (2, .ref ad), (3, .ref ar), (4, .int x), (5, .int (nI sx)), (6, .int (nI (1 + k5))), (7, .int (nI k7))]) dL_does_158 (Nat.le_of_ble_eq_true rfl) rfl rfl ?_
          refine z_lv (lv' := [(0, .ref (a 0)), (1, .ref ab), (2, .ref ad), (3, .ref ar), (4, .int x), (5, .int (nI sx)), (6, .int (nI (1 + k5))), (7, .int (nI k7))]) ⟨rfl, rfl, rfl, rfl, rfl, rfl, rfl, rfl, trivial⟩ ?_
          exact join160 k7 (by omega)
        · refine z_bipush C (pc := 148) (v := nI 41) dL_does_148 (by decide) ?_
          refine z_goto C (pc := 150) (tgt := 155) dL_does_150 (by decide) ?_
          refine z_calli C (isC := []) rfl (by exact fun _ => rfl) (runS C (wc := []) (pc := 155) (rY' := rm 0 0) (nn := 2) (As := [.int (x >>> ((nI 13) &&& 31)), .int (nI 41)]) (rest := []) (g_at l D cI tt (x >>> ((nI 13) &&& 31)) 41 (by omega) (by omega)) rfl rfl ⟨rfl, rfl, ⟨Nat.le_of_ble_eq_true rfl, Nat.le_of_ble_eq_true rfl⟩, Nat.le_of_ble_eq_true rfl, Nat.le_of_ble_eq_true rfl⟩ wl_L_8 ws_L_at wi_L wc_L_at (by decide +kernel) rfl rfl (Nat.le_of_ble_eq_true rfl) dL_does_155) (fun r_36 u_36 h_36 => ?_)
          obtain ⟨k7, hk7, ek7⟩ := h_36
          subst ek7
          refine z_ws (st' := [.int (nI k7)]) (ws' := ((cW cI a i r) ++ [(ab, .inl (cI, 7, .inl fb)), (ad, .inl (cI, 9, .inl fd)), (ar, .inl (cI, 3, .inl fr))])) rfl rfl ?_
          refine z_istore C (pc := 158) (lv' := [(0, .ref (a 0)), (1, .ref ab), (2, .ref ad), (3, .ref ar), (4, .int x), (5, .int (nI sx)), (6, .int (nI (1 + k5))), (7, .int (nI k7))]) dL_does_158 (Nat.le_of_ble_eq_true rfl) rfl rfl ?_
          refine z_lv (lv' := [(0, .ref (a 0)), (1, .ref ab), (2, .ref ad), (3, .ref ar), (4, .int x), (5, .int (nI sx)), (6, .int (nI (1 + k5))), (7, .int (nI k7))]) ⟨rfl, rfl, rfl, rfl, rfl, rfl, rfl, rfl, trivial⟩ ?_
          exact join160 k7 (by omega)
      refine z_iconst C (pc := 68) (v := nI 1) dL_does_68 (by decide) ?_
      refine z_iload C (pc := 69) dL_does_69 rfl ?_
      refine z_iconst C (pc := 71) (v := nI 2) dL_does_71 (by decide) ?_
      refine z_ishr C (pc := 72) dL_does_72 ?_
      refine z_iconst C (pc := 73) (v := nI 1) dL_does_73 (by decide) ?_
      refine z_aload_n C (pc := 74) dL_does_74 rfl ?_
      refine z_iconst C (pc := 75) (v := nI 0) dL_does_75 (by decide) ?_
      have h_37 : vp_in (nI 0) 7 := by exact vp_in_nI (by omega) (by decide)
      refine z_iald C (pc := 76) 19 rfl h_37 dL_does_76 ?_
      refine z_seti (y := (fb 0)) (by rw [nI_clamp (by omega)]) ?_
      refine z_seti (y := nI (z.1 4)) li0 ?_
      refine z_ishl C (pc := 77) dL_does_77 ?_
      refine z_iconst C (pc := 78) (v := nI 1) dL_does_78 (by decide) ?_
      refine z_isub C (pc := 79) dL_does_79 ?_
      refine z_seti (y := nI (2 ^ z.1 4 - 1)) (one_shl (z.1 4) v4) ?_
      refine z_calli C (isC := []) rfl (by exact fun _ => rfl) (runS C (wc := []) (pc := 80) (rY' := rm 0 0) (nn := 2) (As := [.int (x >>> ((nI 2) &&& 31)), .int (nI (2 ^ z.1 4 - 1))]) (rest := [.int (nI 1)]) (g_at l D cI tt (x >>> ((nI 2) &&& 31)) (2 ^ z.1 4 - 1) (by omega) (by omega)) rfl rfl ⟨rfl, rfl, ⟨Nat.le_of_ble_eq_true rfl, Nat.le_of_ble_eq_true rfl⟩, Nat.le_of_ble_eq_true rfl, Nat.le_of_ble_eq_true rfl⟩ wl_L_8 ws_L_at wi_L wc_L_at (by decide +kernel) rfl rfl (Nat.le_of_ble_eq_true rfl) dL_does_80) (fun r_38 u_38 h_38 => ?_)
      obtain ⟨k3, hk3, ek3⟩ := h_38
      subst ek3
      refine z_ws (st' := [.int (nI k3), .int (nI 1)]) (ws' := ((cW cI a i r) ++ [(ab, .inl (cI, 7, .inl fb)), (ad, .inl (cI, 9, .inl fd)), (ar, .inl (cI, 3, .inl fr))])) rfl rfl ?_
      refine z_iadd C (pc := 83) dL_does_83 ?_
      refine z_seti (y := nI (1 + k3)) (nI_add _ _) ?_
      refine z_istore C (pc := 84) (lv' := [(0, .ref (a 0)), (1, .ref ab), (2, .ref ad), (3, .ref ar), (4, .int x), (5, .int (nI (1 + k3)))]) dL_does_84 (Nat.le_of_ble_eq_true rfl) rfl rfl ?_
      refine z_iload C (pc := 86) dL_does_86 rfl ?_
      refine z_bipush C (pc := 88) (v := nI 8) dL_does_88 (by decide) ?_
      refine z_ishr C (pc := 90) dL_does_90 ?_
      refine z_iconst C (pc := 91) (v := nI 3) dL_does_91 (by decide) ?_
      refine z_calli C (isC := []) rfl (by exact fun _ => rfl) (runS C (wc := []) (pc := 92) (rY' := rm 0 0) (nn := 2) (As := [.int (x >>> ((nI 8) &&& 31)), .int (nI 3)]) (rest := []) (g_at l D cI tt (x >>> ((nI 8) &&& 31)) 3 (by omega) (by omega)) rfl rfl ⟨rfl, rfl, ⟨Nat.le_of_ble_eq_true rfl, Nat.le_of_ble_eq_true rfl⟩, Nat.le_of_ble_eq_true rfl, Nat.le_of_ble_eq_true rfl⟩ wl_L_8 ws_L_at wi_L wc_L_at (by decide +kernel) rfl rfl (Nat.le_of_ble_eq_true rfl) dL_does_92) (fun r_39 u_39 h_39 => ?_)
      obtain ⟨k4, hk4, ek4⟩ := h_39
      subst ek4
      refine z_ws (st' := [.int (nI k4)]) (ws' := ((cW cI a i r) ++ [(ab, .inl (cI, 7, .inl fb)), (ad, .inl (cI, 9, .inl fd)), (ar, .inl (cI, 3, .inl fr))])) rfl rfl ?_
      refine z_if_le C (pc := 95) (tgt := 117) dL_does_95 (by decide) (fun c_40 => ?_) (fun c_40 => ?_)
      · refine z_lv (lv' := [(0, .ref (a 0)), (1, .ref ab), (2, .ref ad), (3, .ref ar), (4, .int x), (5, .int (nI (1 + k3)))]) ⟨rfl, rfl, rfl, rfl, rfl, rfl, trivial⟩ ?_
        exact join117 (1 + k3) (by omega) (by omega)
      · refine z_iload C (pc := 98) dL_does_98 rfl ?_
        refine z_aload_n C (pc := 100) dL_does_100 rfl ?_
        refine z_bipush C (pc := 101) (v := nI 6) dL_does_101 (by decide) ?_
        have h_41 : vp_in (nI 6) 9 := by exact vp_in_nI (by omega) (by decide)
        refine z_iald C (pc := 103) 20 rfl h_41 dL_does_103 ?_
        refine z_seti (y := (fd 6)) (by rw [nI_clamp (by omega)]) ?_
        refine z_seti (y := nI (z.1 5)) li3 ?_
        refine z_iand C (pc := 104) dL_does_104 ?_
        refine z_seti (y := nI ((1 + k3) &&& z.1 5)) (and_nI _ (by omega) _ (by omega)) ?_
        refine z_if_le C (pc := 105) (tgt := 117) dL_does_105 (by decide) (fun c_42 => ?_) (fun c_42 => ?_)
        · refine z_lv (lv' := [(0, .ref (a 0)), (1, .ref ab), (2, .ref ad), (3, .ref ar), (4, .int x), (5, .int (nI (1 + k3)))]) ⟨rfl, rfl, rfl, rfl, rfl, rfl, trivial⟩ ?_
          exact join117 (1 + k3) (by omega) (by omega)
        · have hsa : 1 ≤ ((1 + k3) &&& z.1 5) := Nat.pos_of_ne_zero (fun e => c_42 (by rw [e]; decide))
          refine z_iload C (pc := 108) dL_does_108 rfl ?_
          refine z_aload_n C (pc := 110) dL_does_110 rfl ?_
          refine z_bipush C (pc := 111) (v := nI 6) dL_does_111 (by decide) ?_
          have h_43 : vp_in (nI 6) 9 := by exact vp_in_nI (by omega) (by decide)
          refine z_iald C (pc := 113) 20 rfl h_43 dL_does_113 ?_
          refine z_seti (y := (fd 6)) (by rw [nI_clamp (by omega)]) ?_
          refine z_seti (y := nI (z.1 5)) li3 ?_
          refine z_iand C (pc := 114) dL_does_114 ?_
          refine z_seti (y := nI ((1 + k3) &&& z.1 5)) (and_nI _ (by omega) _ (by omega)) ?_
          refine z_istore C (pc := 115) (lv' := [(0, .ref (a 0)), (1, .ref ab), (2, .ref ad), (3, .ref ar), (4, .int x), (5, .int (nI ((1 + k3) &&& z.1 5)))]) dL_does_115 (Nat.le_of_ble_eq_true rfl) rfl rfl ?_
          refine z_lv (lv' := [(0, .ref (a 0)), (1, .ref ab), (2, .ref ad), (3, .ref ar), (4, .int x), (5, .int (nI ((1 + k3) &&& z.1 5)))]) ⟨rfl, rfl, rfl, rfl, rfl, rfl, trivial⟩ ?_
          exact join117 ((1 + k3) &&& z.1 5) hsa (Nat.lt_of_le_of_lt Nat.and_le_left (by omega))
    · refine z_iconst C (pc := 16) (v := nI 1) dL_does_16 (by decide) ?_
      refine z_iload C (pc := 17) dL_does_17 rfl ?_
      refine z_iconst C (pc := 19) (v := nI 2) dL_does_19 (by decide) ?_
      refine z_ishr C (pc := 20) dL_does_20 ?_
      refine z_iconst C (pc := 21) (v := nI 5) dL_does_21 (by decide) ?_
      refine z_calli C (isC := []) rfl (by exact fun _ => rfl) (runS C (wc := []) (pc := 22) (rY' := rm 0 0) (nn := 2) (As := [.int (x >>> ((nI 2) &&& 31)), .int (nI 5)]) (rest := [.int (nI 1)]) (g_at l D cI tt (x >>> ((nI 2) &&& 31)) 5 (by omega) (by omega)) rfl rfl ⟨rfl, rfl, ⟨Nat.le_of_ble_eq_true rfl, Nat.le_of_ble_eq_true rfl⟩, Nat.le_of_ble_eq_true rfl, Nat.le_of_ble_eq_true rfl⟩ wl_L_8 ws_L_at wi_L wc_L_at (by decide +kernel) rfl rfl (Nat.le_of_ble_eq_true rfl) dL_does_22) (fun r_44 u_44 h_44 => ?_)
      obtain ⟨k2, hk2, ek2⟩ := h_44
      subst ek2
      refine z_ws (st' := [.int (nI k2), .int (nI 1)]) (ws' := ((cW cI a i r) ++ [(ab, .inl (cI, 7, .inl fb)), (ad, .inl (cI, 9, .inl fd)), (ar, .inl (cI, 3, .inl fr))])) rfl rfl ?_
      refine z_iadd C (pc := 25) dL_does_25 ?_
      refine z_seti (y := nI (1 + k2)) (nI_add _ _) ?_
      refine z_istore C (pc := 26) (lv' := [(0, .ref (a 0)), (1, .ref ab), (2, .ref ad), (3, .ref ar), (4, .int x), (5, .int (nI (1 + k2)))]) dL_does_26 (Nat.le_of_ble_eq_true rfl) rfl rfl ?_
      refine z_aload_n C (pc := 28) dL_does_28 rfl ?_
      refine z_iload C (pc := 29) dL_does_29 rfl ?_
      have h_45 : vp_in (nI (1 + k2)) 9 := by exact vp_in_nI (by omega) (by decide)
      refine z_iald C (pc := 31) 20 rfl h_45 dL_does_31 ?_
      refine z_seti (y := (fd (1 + k2))) (by rw [nI_clamp (by omega)]) ?_
      refine z_seti (y := nI (z.2.1 2 k2)) (by rw [Nat.add_comm]; exact li2 k2 hk2) ?_
      refine z_istore C (pc := 32) (lv' := [(0, .ref (a 0)), (1, .ref ab), (2, .ref ad), (3, .ref ar), (4, .int x), (5, .int (nI (1 + k2))), (6, .int (nI (z.2.1 2 k2)))]) dL_does_32 (Nat.le_of_ble_eq_true rfl) rfl rfl ?_
      refine z_aload_n C (pc := 34) dL_does_34 rfl ?_
      refine z_iload C (pc := 35) dL_does_35 rfl ?_
      refine z_iload C (pc := 37) dL_does_37 rfl ?_
      refine z_iconst C (pc := 39) (v := nI 5) dL_does_39 (by decide) ?_
      refine z_ishr C (pc := 40) dL_does_40 ?_
      refine z_bipush C (pc := 41) (v := nI 10) dL_does_41 (by decide) ?_
      refine z_calli C (isC := []) rfl (by exact fun _ => rfl) (runS C (wc := []) (pc := 43) (rY' := rm 0 0) (nn := 2) (As := [.int (x >>> ((nI 5) &&& 31)), .int (nI 10)]) (rest := [.int (nI (1 + k2)), .ref ad]) (g_at l D cI tt (x >>> ((nI 5) &&& 31)) 10 (by omega) (by omega)) rfl rfl ⟨rfl, rfl, ⟨Nat.le_of_ble_eq_true rfl, Nat.le_of_ble_eq_true rfl⟩, Nat.le_of_ble_eq_true rfl, Nat.le_of_ble_eq_true rfl⟩ wl_L_8 ws_L_at wi_L wc_L_at (by decide +kernel) rfl rfl (Nat.le_of_ble_eq_true rfl) dL_does_43) (fun r_46 u_46 h_46 => ?_)
      obtain ⟨vv, hvv, evv⟩ := h_46
      subst evv
      refine z_ws (st' := [.int (nI vv), .int (nI (1 + k2)), .ref ad]) (ws' := ((cW cI a i r) ++ [(ab, .inl (cI, 7, .inl fb)), (ad, .inl (cI, 9, .inl fd)), (ar, .inl (cI, 3, .inl fr))])) rfl rfl ?_
      have h_47 : vp_in (nI (1 + k2)) 9 := by exact vp_in_nI (by omega) (by decide)
      refine z_iast C (pc := 46) 20 rfl h_47 (ws' := ((cW cI a i r) ++ [(ab, .inl (cI, 7, .inl fb)), (ad, .inl (cI, 9, .inl (upd fd (1 + k2) (nI vv)))), (ar, .inl (cI, 3, .inl fr))])) (by rw [nI_clamp (by omega)]; rfl) dL_does_46 ?_
      refine z_aload_n C (pc := 47) dL_does_47 rfl ?_
      refine z_iload C (pc := 48) dL_does_48 rfl ?_
      refine z_aload_n C (pc := 50) dL_does_50 rfl ?_
      refine z_iload C (pc := 51) dL_does_51 rfl ?_
      have h_48 : vp_in (nI (1 + k2)) 9 := by exact vp_in_nI (by omega) (by decide)
      refine z_iald C (pc := 53) 20 rfl h_48 dL_does_53 ?_
      refine z_seti (y := ((upd fd (1 + k2) (nI vv)) (1 + k2))) (by rw [nI_clamp (by omega)]) ?_
      refine z_seti (y := nI vv) upd_s ?_
      refine z_calliL C (by exact fun _ => cW_ad) (runV C (wc := (cW cI a i r)) (pc := 54) (rY' := rm 1 22) (nn := 2) (As := [.int (nI (1 + k2)), .int (nI vv)]) (rest := []) (c_lay l D cI tt a i r (nI (1 + k2)) (nI vv) z hz vz) (apL_hC _ _) (full_nd _) ⟨rfl, rfl, ⟨Nat.le_of_ble_eq_true rfl, Nat.le_of_ble_eq_true rfl⟩, Nat.le_of_ble_eq_true rfl, Nat.le_of_ble_eq_true rfl⟩ wl_L_66 wm_X3_lay we_X3_lay wi_X3 wc_X3_lay (by decide +kernel) rfl 0 rfl rfl rfl rfl (Nat.le_of_ble_eq_true rfl) dL_does_54) (fun q_49 u_49 h_49 => ?_)
      obtain ⟨i49, r49⟩ := u_49
      try dsimp only at h_49
      obtain ⟨k0, hzl⟩ := h_49
      have hly := lay_in (v := vv) hn0 hk2 hvv
      have hvl := vs_lay vz (nI (1 + k2)) (nI vv)
      rw [hly] at k0 hzl hvl
      refine z_ws (st' := [.int q_49]) (ws' := ((cW cI a i49 r49) ++ [(ab, .inl (cI, 7, .inl fb)), (ad, .inl (cI, 9, .inl (upd fd (1 + k2) (nI vv)))), (ar, .inl (cI, 3, .inl fr))])) rfl rfl ?_
      refine z_seti (y := (nI (z.2.1 2 k2))) k0 ?_
      refine z_iload C (pc := 57) dL_does_57 rfl ?_
      refine z_icmp_ne C (pc := 59) (tgt := 66) dL_does_59 (by decide) (fun c_50 => ?_) (fun c_50 => ?_)
      · exact absurd rfl c_50
      · refine z_iconst C (pc := 62) (v := nI 1) dL_does_62 (by decide) ?_
        refine z_goto C (pc := 63) (tgt := 67) dL_does_63 (by decide) ?_
        refine z_zret C (pc := 67) (i49, r49, (upd fd (1 + k2) (nI vv)), fr) dL_does_67 rfl ?_ rfl
        exact ⟨rfl, _, hzl, hvl, li_lay hl hk2⟩
