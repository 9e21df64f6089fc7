/-! winters by a seed -/
theorem lnext {x : Nat} (hx : x < 2147483648) : (lN x * 1103515245 + 12345) - (lN x * 1103515245 + 12345) / 2147483648 * 2147483648 = lN (nxt x) := by
  rw [show (1103515245 : Int64) = lN 1103515245 from rfl, show (12345 : Int64) = lN 12345 from rfl, show (2147483648 : Int64) = lN 2147483648 from rfl, lN_mul, lN_add, pk_lRem (by omega) (by decide) (by decide)]
  unfold nxt
  rw [Nat.mul_comm]
theorem lcreep {x : Nat} (hx : x < 2147483648) : (lN x / 65536 - lN x / 65536 / 3 * 3).toInt32 = nI (crn x) := by
  rw [show (65536 : Int64) = lN 65536 from rfl, show (3 : Int64) = lN 3 from rfl, pk_lDiv (by omega) (by decide) (by decide), pk_lRem (by omega) (by decide) (by decide), lN_i]
  rfl
theorem lgc_self (x : Int64) : lg_cmp x x = 0 := by
  unfold lg_cmp
  rw [if_neg (by simp only [gt_iff_lt, Int64.lt_iff_toInt_lt]; omega), if_pos rfl]
theorem farv_0 {kd : Nat → Nat} {n : Nat} {c : Nat → Nat} : farv kd n 0 c = 0 := by unfold farv; simp [frv, farb]
theorem win_in {z : SG} {mn t : Nat} {w : Int32} (h1 : 1 ≤ mn) (h20 : mn ≤ 20) (ht : t < 2147483648) (hn : z.1 4 ≠ 0) (w0 : ¬ w < 0) (w2 : w ≤ 2) : wintersF z (nI mn) (nI t) w = if w = 2 then nI (winS z mn t).1 else if w = 0 then nI (sumN (winS z mn t).2) else nI (farv (z.2.1 1) (z.1 4) (z.1 5) (winS z mn t).2) := by
  have e1 : ¬ nI mn < 1 := nI_nlt (b := 1) h1 (by omega)
  have e2 : nI mn ≤ 20 := nI_le (b := 20) h20 (by decide)
  have e3 : ¬ nI t < 0 := nI_pos (by omega)
  have e : ¬ (nI mn < 1 ∨ ¬ nI mn ≤ 20 ∨ nI t < 0 ∨ w < 0 ∨ ¬ w ≤ 2) := by
    rintro (h | h | h | h | h)
    · exact e1 h
    · exact h e2
    · exact e3 h
    · exact w0 h
    · exact h w2
  unfold wintersF
  rw [if_neg e, if_neg hn, tn_nI (by omega), tn_nI (by omega)]
theorem sub_neg {A B : Nat} (hA : A < 100) (hB : B < 100) : nI A - nI B < 0 ↔ A < B := by
  refine ⟨fun h => ?_, fun h => pk_sneg (by omega) h⟩
  rcases Nat.lt_or_ge A B with q | q
  · exact q
  · rw [pk_sub q] at h
    exact absurd h (nI_pos (by omega))
set_option maxHeartbeats 4000000 in
set_option maxRecDepth 100000 in
theorem g_winters (l : Launch) (D : va_G) (cI : ClassId) (tt : Nat × Nat × Nat) (a : Nat → Nat) (i : Nat → Int32) (r : Nat → Nat → Int32) (ab ad ar : Nat) (fb fd fr : Nat → Int32) (z : SG) (hz : Cls z i r) (vz : VS z) (hl : LI z fb fd) (mn t : Nat) (h1 : 1 ≤ mn) (h20 : mn ≤ 20) (ht : t < 2147483648) : MetW (S := ((Nat → Int32) × (Nat → Nat → Int32) × (Nat → Int32))) l yL_winters cL_winters 12 (some .boolean) { frames := 7, cells := 2, slots := 18, locals := 164 } D cI tt [.ref (a 0), .ref ab, .ref ad, .ref ar, .int (nI mn), .int (nI t)] ((cW cI a i r) ++ [(ab, .inl (cI, 7, .inl fb)), (ad, .inl (cI, 9, .inl fd)), (ar, .inl (cI, 3, .inl fr))]) 2 18 (fun q u => q = 1 ∧ Cls z u.1 u.2.1) (fun u => ((cW cI a u.1 u.2.1) ++ [(ab, .inl (cI, 7, .inl fb)), (ad, .inl (cI, 9, .inl fd)), (ar, .inl (cI, 3, .inl u.2.2))])) := by
  have v4 : z.1 4 ≤ 6 := vz.2.2.2.1
  have v5 : z.1 5 < 2 ^ z.1 4 := vz.2.2.2.2.1
  have hx6 := pow_le6 v4
  obtain ⟨li0, li1, li2, li3, li4, li5, li6⟩ := id hl
  have hbv := hl.bv vz
  have hdv := hl.dv vz
  have hcc : ∀ k, k < 5 → z.2.1 2 k ≤ 9 := fun k hk => (hdv k hk).2
  have hn0 : z.1 4 ≠ 0 := by omega
  refine met_ofW (by decide) (Nat.le_of_ble_eq_true rfl) ?_
  intro pP eE sS mM aV bB mE cC AA C hin
  refine z_conv (lv' := [(0, .ref (a 0)), (1, .ref ab), (2, .ref ad), (3, .ref ar), (4, .int (nI mn)), (5, .int (nI t))]) ⟨rfl, rfl, rfl, rfl, rfl, rfl, trivial⟩ rfl rfl ?_
  refine z_bipush C (pc := 0) (v := nI 9) dL_winters_0 (by decide) ?_
  refine z_newa C (pc := 2) (N := 9) (by decide) (by decide) (by decide) (Nat.le_of_ble_eq_true rfl) (Nat.le_of_ble_eq_true rfl) dL_winters_2 (fun aq_1 => ?_)
  refine z_ws (st' := [.ref aq_1]) (ws' := ((cW cI a i r) ++ [(ab, .inl (cI, 7, .inl fb)), (ad, .inl (cI, 9, .inl fd)), (ar, .inl (cI, 3, .inl fr)), (aq_1, .inl (cI, 9, .inl (fun _ => 0)))])) rfl rfl ?_
  refine z_astore C (pc := 4) (lv' := [(0, .ref (a 0)), (1, .ref ab), (2, .ref ad), (3, .ref ar), (4, .int (nI mn)), (5, .int (nI t)), (6, .ref aq_1)]) dL_winters_4 (Nat.le_of_ble_eq_true rfl) rfl rfl ?_
  refine z_bipush C (pc := 6) (v := nI 9) dL_winters_6 (by decide) ?_
  refine z_newa C (pc := 8) (N := 9) (by decide) (by decide) (by decide) (Nat.le_of_ble_eq_true rfl) (Nat.le_of_ble_eq_true rfl) dL_winters_8 (fun aq_2 => ?_)
  refine z_ws (st' := [.ref aq_2]) (ws' := ((cW cI a i r) ++ [(ab, .inl (cI, 7, .inl fb)), (ad, .inl (cI, 9, .inl fd)), (ar, .inl (cI, 3, .inl fr)), (aq_1, .inl (cI, 9, .inl (fun _ => 0))), (aq_2, .inl (cI, 9, .inl (fun _ => 0)))])) rfl rfl ?_
  refine z_astore C (pc := 10) (lv' := [(0, .ref (a 0)), (1, .ref ab), (2, .ref ad), (3, .ref ar), (4, .int (nI mn)), (5, .int (nI t)), (6, .ref aq_1), (7, .ref aq_2)]) dL_winters_10 (Nat.le_of_ble_eq_true rfl) rfl rfl ?_
  refine z_aload C (pc := 12) dL_winters_12 rfl ?_
  refine z_aload_n C (pc := 14) dL_winters_14 rfl ?_
  refine z_callv C (isC := [22, 20]) rfl (by exact fun _ => rfl) (runS C (wc := [(aq_1, .inl (cI, 9, .inl (fun _ => 0))), (ad, .inl (cI, 9, .inl fd))]) (pc := 15) (rY' := rm 0 0) (nn := 2) (As := [.ref aq_1, .ref ad]) (rest := []) (g_over l D cI tt aq_1 ad (fun _ => 0) fd) rfl rfl ⟨rfl, rfl, ⟨Nat.le_of_ble_eq_true rfl, Nat.le_of_ble_eq_true rfl⟩, Nat.le_of_ble_eq_true rfl, Nat.le_of_ble_eq_true rfl⟩ wl_L_34 ws_L_over wi_L wc_L_over (by decide +kernel) rfl rfl (Nat.le_of_ble_eq_true rfl) dL_winters_15) (fun u_3 h_3 => ?_)
  have hg : ∀ k, k < 9 → u_3 k = fd k := h_3
  refine z_ws (st' := []) (ws' := ((cW cI a i r) ++ [(ab, .inl (cI, 7, .inl fb)), (ad, .inl (cI, 9, .inl fd)), (ar, .inl (cI, 3, .inl fr)), (aq_1, .inl (cI, 9, .inl u_3)), (aq_2, .inl (cI, 9, .inl (fun _ => 0)))])) rfl rfl ?_
  refine z_iload C (pc := 18) dL_winters_18 rfl ?_
  refine z_i2l C (pc := 20) dL_winters_20 ?_
  refine z_setl (y := lN t) (nI_l (by omega)) ?_
  refine z_lstore C (pc := 21) (lv' := [(0, .ref (a 0)), (1, .ref ab), (2, .ref ad), (3, .ref ar), (4, .int (nI mn)), (5, .int (nI t)), (6, .ref aq_1), (7, .ref aq_2), (8, .long (lN t))]) dL_winters_21 (Nat.le_of_ble_eq_true rfl) rfl rfl ?_
  refine z_iconst C (pc := 23) (v := nI 0) dL_winters_23 (by decide) ?_
  refine z_istore C (pc := 24) (lv' := [(0, .ref (a 0)), (1, .ref ab), (2, .ref ad), (3, .ref ar), (4, .int (nI mn)), (5, .int (nI t)), (6, .ref aq_1), (7, .ref aq_2), (8, .long (lN t)), (10, .int (nI 0))]) dL_winters_24 (Nat.le_of_ble_eq_true rfl) rfl rfl ?_
  have key26 : ∀ (fu26 : Nat) (j : Nat) (g : Nat → Int32), mn - j < fu26 → (j ≤ mn) → (∀ p, p < 5 → g (p + 1) = nI ((crw j (t, z.2.1 2)).2 p)) → (g 6 = nI (z.1 5)) → Z pP l eE { frames := 7, cells := 2, slots := 18, locals := 164 } sS mM aV bB mE cC D AA 12 2 18 (MQ bB (va_Qi (S := ((Nat → Int32) × (Nat → Nat → Int32) × (Nat → Int32))) (fun q u => q = 1 ∧ Cls z u.1 u.2.1) (fun u t => va_P D vwCl ((fun u => ((cW cI a u.1 u.2.1) ++ [(ab, .inl (cI, 7, .inl fb)), (ad, .inl (cI, 9, .inl fd)), (ar, .inl (cI, 3, .inl u.2.2))])) u) t.heap) AA) aV sS 2 18 AA) 26 [(0, .ref (a 0)), (1, .ref ab), (2, .ref ad), (3, .ref ar), (4, .int (nI mn)), (5, .int (nI t)), (6, .ref aq_1), (7, .ref aq_2), (8, .long (lN (crw j (t, z.2.1 2)).1)), (10, .int (nI j))] [] ((cW cI a i r) ++ [(ab, .inl (cI, 7, .inl fb)), (ad, .inl (cI, 9, .inl fd)), (ar, .inl (cI, 3, .inl fr)), (aq_1, .inl (cI, 9, .inl g)), (aq_2, .inl (cI, 9, .inl (fun _ => 0)))]) := by
    intro fu26
    induction fu26 with
    | zero => intro j g hfu26; exact absurd hfu26 (Nat.not_lt_zero _)
    | succ fu26 ih26 =>
      intro j g hfu26 hjm hw h6
      refine z_iload C (pc := 26) dL_winters_26 rfl ?_
      refine z_iload C (pc := 28) dL_winters_28 rfl ?_
      refine z_icmp_ge C (pc := 30) (tgt := 104) dL_winters_30 (by decide) (fun c_4 => ?_) (fun c_4 => ?_)
      · have hje : j = mn := by
          have := ge_of_nI c_4 (by omega)
          omega
        subst hje
        have hokj := crw_ok ht hcc j
        have hdg : DV g (crw j (t, z.2.1 2)).2 := fun k hk => ⟨hw k hk, hokj.2 k hk⟩
        refine z_aload_n C (pc := 104) dL_winters_104 rfl ?_
        refine z_iload C (pc := 105) dL_winters_105 rfl ?_
        refine z_iload C (pc := 107) dL_winters_107 rfl ?_
        refine z_iconst C (pc := 109) (v := nI 0) dL_winters_109 (by decide) ?_
        refine z_calliL C (by exact fun _ => cW_ad) (runV C (wc := (cW cI a i r)) (pc := 110) (rY' := rm 6 140) (nn := 3) (As := [.int (nI j), .int (nI t), .int (nI 0)]) (rest := []) (c_winters l D cI tt a i r (nI j) (nI t) (nI 0) z hz vz) (apL_hC _ _) (full_nd _) ⟨rfl, rfl, ⟨Nat.le_of_ble_eq_true rfl, Nat.le_of_ble_eq_true rfl⟩, Nat.le_of_ble_eq_true rfl, Nat.le_of_ble_eq_true rfl⟩ wl_L_112 wm_X3_winters we_X3_winters wi_X3 wc_X3_winters (by decide +kernel) rfl 0 rfl rfl rfl rfl (Nat.le_of_ble_eq_true rfl) dL_winters_110) (fun q_5 u_5 h_5 => ?_)
        obtain ⟨i5, r5⟩ := u_5
        try dsimp only at h_5
        obtain ⟨k0, hz5⟩ := h_5
        refine z_ws (st' := [.int q_5]) (ws' := ((cW cI a i5 r5) ++ [(ab, .inl (cI, 7, .inl fb)), (ad, .inl (cI, 9, .inl fd)), (ar, .inl (cI, 3, .inl fr)), (aq_1, .inl (cI, 9, .inl g)), (aq_2, .inl (cI, 9, .inl (fun _ => 0)))])) rfl rfl ?_
        refine z_seti (y := (nI (sumN (crw j (t, z.2.1 2)).2))) (k0.trans ((win_in (w := nI 0) h1 h20 ht hn0 (by decide) (by decide)).trans ((if_neg (by decide)).trans (if_pos (by decide))))) ?_
        refine z_aload C (pc := 113) dL_winters_113 rfl ?_
        refine z_calli C (isC := [22]) rfl (by exact fun _ => rfl) (runS C (wc := [(aq_1, .inl (cI, 9, .inl g))]) (pc := 115) (rY' := rm 0 0) (nn := 1) (As := [.ref aq_1]) (rest := [.int (nI (sumN (crw j (t, z.2.1 2)).2))]) (g_lying l D cI tt aq_1 g (crw j (t, z.2.1 2)).2 hdg) rfl rfl ⟨rfl, rfl, ⟨Nat.le_of_ble_eq_true rfl, Nat.le_of_ble_eq_true rfl⟩, Nat.le_of_ble_eq_true rfl, Nat.le_of_ble_eq_true rfl⟩ wl_L_62 ws_L_lying wi_L wc_L_lying (by decide +kernel) rfl rfl (Nat.le_of_ble_eq_true rfl) dL_winters_115) (fun r_6 u_6 h_6 => ?_)
        subst h_6
        refine z_ws (st' := [.int (nI (sumN (crw j (t, z.2.1 2)).2)), .int (nI (sumN (crw j (t, z.2.1 2)).2))]) (ws' := ((cW cI a i5 r5) ++ [(ab, .inl (cI, 7, .inl fb)), (ad, .inl (cI, 9, .inl fd)), (ar, .inl (cI, 3, .inl fr)), (aq_1, .inl (cI, 9, .inl g)), (aq_2, .inl (cI, 9, .inl (fun _ => 0)))])) rfl rfl ?_
        refine z_icmp_ne C (pc := 118) (tgt := 179) dL_winters_118 (by decide) (fun c_7 => ?_) (fun c_7 => ?_)
        · exact absurd rfl c_7
        · refine z_aload_n C (pc := 121) dL_winters_121 rfl ?_
          refine z_iload C (pc := 122) dL_winters_122 rfl ?_
          refine z_iload C (pc := 124) dL_winters_124 rfl ?_
          refine z_iconst C (pc := 126) (v := nI 1) dL_winters_126 (by decide) ?_
          refine z_calliL C (by exact fun _ => cW_ad) (runV C (wc := (cW cI a i5 r5)) (pc := 127) (rY' := rm 6 140) (nn := 3) (As := [.int (nI j), .int (nI t), .int (nI 1)]) (rest := []) (c_winters l D cI tt a i5 r5 (nI j) (nI t) (nI 1) z hz5 vz) (apL_hC _ _) (full_nd _) ⟨rfl, rfl, ⟨Nat.le_of_ble_eq_true rfl, Nat.le_of_ble_eq_true rfl⟩, Nat.le_of_ble_eq_true rfl, Nat.le_of_ble_eq_true rfl⟩ wl_L_112 wm_X3_winters we_X3_winters wi_X3 wc_X3_winters (by decide +kernel) rfl 0 rfl rfl rfl rfl (Nat.le_of_ble_eq_true rfl) dL_winters_127) (fun q_8 u_8 h_8 => ?_)
          obtain ⟨i8, r8⟩ := u_8
          try dsimp only at h_8
          obtain ⟨k0, hz8⟩ := h_8
          refine z_ws (st' := [.int q_8]) (ws' := ((cW cI a i8 r8) ++ [(ab, .inl (cI, 7, .inl fb)), (ad, .inl (cI, 9, .inl fd)), (ar, .inl (cI, 3, .inl fr)), (aq_1, .inl (cI, 9, .inl g)), (aq_2, .inl (cI, 9, .inl (fun _ => 0)))])) rfl rfl ?_
          refine z_seti (y := (nI (farv (z.2.1 1) (z.1 4) (z.1 5) (crw j (t, z.2.1 2)).2))) (k0.trans ((win_in (w := nI 1) h1 h20 ht hn0 (by decide) (by decide)).trans ((if_neg (by decide)).trans (if_neg (by decide))))) ?_
          refine z_aload C (pc := 130) dL_winters_130 rfl ?_
          refine z_bipush C (pc := 132) (v := nI 6) dL_winters_132 (by decide) ?_
          have h_9 : vp_in (nI 6) 9 := by exact vp_in_nI (by omega) (by decide)
          refine z_iald C (pc := 134) 22 rfl h_9 dL_winters_134 ?_
          refine z_seti (y := (g 6)) (by rw [nI_clamp (by omega)]) ?_
          refine z_seti (y := nI (z.1 5)) h6 ?_
          refine z_if_ne C (pc := 135) (tgt := 142) dL_winters_135 (by decide) (fun c_10 => ?_) (fun c_10 => ?_)
          · have hal : z.1 5 ≠ 0 := nI_nz c_10
            refine z_aload_n C (pc := 142) dL_winters_142 rfl ?_
            refine z_aload C (pc := 143) dL_winters_143 rfl ?_
            refine z_aload C (pc := 145) dL_winters_145 rfl ?_
            refine z_aload_n C (pc := 147) dL_winters_147 rfl ?_
            refine z_aload C (pc := 148) dL_winters_148 rfl ?_
            refine z_bipush C (pc := 150) (v := nI 6) dL_winters_150 (by decide) ?_
            have h_11 : vp_in (nI 6) 9 := by exact vp_in_nI (by omega) (by decide)
            refine z_iald C (pc := 152) 22 rfl h_11 dL_winters_152 ?_
            refine z_seti (y := (g 6)) (by rw [nI_clamp (by omega)]) ?_
            refine z_seti (y := nI (z.1 5)) h6 ?_
            refine z_calli C (isC := [19, 22, 23, 21]) rfl (by exact fun _ => rfl) (runS C (wc := [(ab, .inl (cI, 7, .inl fb)), (aq_1, .inl (cI, 9, .inl g)), (aq_2, .inl (cI, 9, .inl (fun _ => 0))), (ar, .inl (cI, 3, .inl fr))]) (pc := 153) (rY' := rm 5 126) (nn := 5) (As := [.ref ab, .ref aq_1, .ref aq_2, .ref ar, .int (nI (z.1 5))]) (rest := [.int (nI (farv (z.2.1 1) (z.1 4) (z.1 5) (crw j (t, z.2.1 2)).2))]) (g_far l D cI tt ab aq_1 aq_2 ar fb g (fun _ => 0) fr (z.2.1 1) (z.1 4) hbv (crw j (t, z.2.1 2)).2 hdg (z.1 5) v5 hal) rfl rfl ⟨rfl, rfl, ⟨Nat.le_of_ble_eq_true rfl, Nat.le_of_ble_eq_true rfl⟩, Nat.le_of_ble_eq_true rfl, Nat.le_of_ble_eq_true rfl⟩ wl_L_124 ws_L_far wi_L wc_L_far (by decide +kernel) rfl rfl (Nat.le_of_ble_eq_true rfl) dL_winters_153) (fun r_12 u_12 h_12 => ?_)
            obtain ⟨fc12, fr12⟩ := u_12
            try dsimp only at h_12
            subst h_12
            refine z_ws (st' := [.int (nI (farv (z.2.1 1) (z.1 4) (z.1 5) (crw j (t, z.2.1 2)).2)), .int (nI (farv (z.2.1 1) (z.1 4) (z.1 5) (crw j (t, z.2.1 2)).2))]) (ws' := ((cW cI a i8 r8) ++ [(ab, .inl (cI, 7, .inl fb)), (ad, .inl (cI, 9, .inl fd)), (ar, .inl (cI, 3, .inl fr12)), (aq_1, .inl (cI, 9, .inl g)), (aq_2, .inl (cI, 9, .inl fc12))])) rfl rfl ?_
            refine z_icmp_ne C (pc := 156) (tgt := 179) dL_winters_156 (by decide) (fun c_13 => ?_) (fun c_13 => ?_)
            · exact absurd rfl c_13
            · refine z_aload_n C (pc := 159) dL_winters_159 rfl ?_
              refine z_iload C (pc := 160) dL_winters_160 rfl ?_
              refine z_iload C (pc := 162) dL_winters_162 rfl ?_
              refine z_iconst C (pc := 164) (v := nI 2) dL_winters_164 (by decide) ?_
              refine z_calliL C (by exact fun _ => cW_ad) (runV C (wc := (cW cI a i8 r8)) (pc := 165) (rY' := rm 6 140) (nn := 3) (As := [.int (nI j), .int (nI t), .int (nI 2)]) (rest := []) (c_winters l D cI tt a i8 r8 (nI j) (nI t) (nI 2) z hz8 vz) (apL_hC _ _) (full_nd _) ⟨rfl, rfl, ⟨Nat.le_of_ble_eq_true rfl, Nat.le_of_ble_eq_true rfl⟩, Nat.le_of_ble_eq_true rfl, Nat.le_of_ble_eq_true rfl⟩ wl_L_112 wm_X3_winters we_X3_winters wi_X3 wc_X3_winters (by decide +kernel) rfl 0 rfl rfl rfl rfl (Nat.le_of_ble_eq_true rfl) dL_winters_165) (fun q_14 u_14 h_14 => ?_)
              obtain ⟨i14, r14⟩ := u_14
              try dsimp only at h_14
              obtain ⟨k0, hz14⟩ := h_14
              refine z_ws (st' := [.int q_14]) (ws' := ((cW cI a i14 r14) ++ [(ab, .inl (cI, 7, .inl fb)), (ad, .inl (cI, 9, .inl fd)), (ar, .inl (cI, 3, .inl fr12)), (aq_1, .inl (cI, 9, .inl g)), (aq_2, .inl (cI, 9, .inl fc12))])) rfl rfl ?_
              refine z_seti (y := (nI (crw j (t, z.2.1 2)).1)) (k0.trans ((win_in (w := nI 2) h1 h20 ht hn0 (by decide) (by decide)).trans (if_pos (by decide)))) ?_
              refine z_i2l C (pc := 168) dL_winters_168 ?_
              refine z_setl (y := lN (crw j (t, z.2.1 2)).1) (nI_l (by have := hokj.1; omega)) ?_
              refine z_lload C (pc := 169) dL_winters_169 rfl ?_
              refine z_lcmp C (pc := 171) dL_winters_171 ?_
              refine z_seti (y := 0) (lgc_self _) ?_
              refine z_if_ne C (pc := 172) (tgt := 179) dL_winters_172 (by decide) (fun c_15 => ?_) (fun c_15 => ?_)
              · exact absurd c_15 (by decide)
              · refine z_iconst C (pc := 175) (v := nI 1) dL_winters_175 (by decide) ?_
                refine z_goto C (pc := 176) (tgt := 180) dL_winters_176 (by decide) ?_
                refine z_sub (wc := ((cW cI a i14 r14) ++ [(ab, .inl (cI, 7, .inl fb)), (ad, .inl (cI, 9, .inl fd)), (ar, .inl (cI, 3, .inl fr12))])) [0, 1, 2, 3, 4, 5, 6, 7, 8, 9, 10, 11, 12, 13, 14, 15, 16, 17, 18, 19, 20, 21] rfl rfl ?_
                refine z_zret C (pc := 180) (i14, r14, fr12) dL_winters_180 rfl ?_ rfl
                exact ⟨rfl, hz14⟩
          · have hal : z.1 5 = 0 := nI_z (by omega) c_10
            have hf0 : nI (farv (z.2.1 1) (z.1 4) (z.1 5) (crw j (t, z.2.1 2)).2) = nI 0 := by rw [hal, farv_0]
            refine z_iconst C (pc := 138) (v := nI 0) dL_winters_138 (by decide) ?_
            refine z_goto C (pc := 139) (tgt := 156) dL_winters_139 (by decide) ?_
            refine z_icmp_ne C (pc := 156) (tgt := 179) dL_winters_156 (by decide) (fun c_16 => ?_) (fun c_16 => ?_)
            · exact absurd hf0 c_16
            · refine z_aload_n C (pc := 159) dL_winters_159 rfl ?_
              refine z_iload C (pc := 160) dL_winters_160 rfl ?_
              refine z_iload C (pc := 162) dL_winters_162 rfl ?_
              refine z_iconst C (pc := 164) (v := nI 2) dL_winters_164 (by decide) ?_
              refine z_calliL C (by exact fun _ => cW_ad) (runV C (wc := (cW cI a i8 r8)) (pc := 165) (rY' := rm 6 140) (nn := 3) (As := [.int (nI j), .int (nI t), .int (nI 2)]) (rest := []) (c_winters l D cI tt a i8 r8 (nI j) (nI t) (nI 2) z hz8 vz) (apL_hC _ _) (full_nd _) ⟨rfl, rfl, ⟨Nat.le_of_ble_eq_true rfl, Nat.le_of_ble_eq_true rfl⟩, Nat.le_of_ble_eq_true rfl, Nat.le_of_ble_eq_true rfl⟩ wl_L_112 wm_X3_winters we_X3_winters wi_X3 wc_X3_winters (by decide +kernel) rfl 0 rfl rfl rfl rfl (Nat.le_of_ble_eq_true rfl) dL_winters_165) (fun q_17 u_17 h_17 => ?_)
              obtain ⟨i17, r17⟩ := u_17
              try dsimp only at h_17
              obtain ⟨k0, hz17⟩ := h_17
              refine z_ws (st' := [.int q_17]) (ws' := ((cW cI a i17 r17) ++ [(ab, .inl (cI, 7, .inl fb)), (ad, .inl (cI, 9, .inl fd)), (ar, .inl (cI, 3, .inl fr)), (aq_1, .inl (cI, 9, .inl g)), (aq_2, .inl (cI, 9, .inl (fun _ => 0)))])) rfl rfl ?_
              refine z_seti (y := (nI (crw j (t, z.2.1 2)).1)) (k0.trans ((win_in (w := nI 2) h1 h20 ht hn0 (by decide) (by decide)).trans (if_pos (by decide)))) ?_
              refine z_i2l C (pc := 168) dL_winters_168 ?_
              refine z_setl (y := lN (crw j (t, z.2.1 2)).1) (nI_l (by have := hokj.1; omega)) ?_
              refine z_lload C (pc := 169) dL_winters_169 rfl ?_
              refine z_lcmp C (pc := 171) dL_winters_171 ?_
              refine z_seti (y := 0) (lgc_self _) ?_
              refine z_if_ne C (pc := 172) (tgt := 179) dL_winters_172 (by decide) (fun c_18 => ?_) (fun c_18 => ?_)
              · exact absurd c_18 (by decide)
              · refine z_iconst C (pc := 175) (v := nI 1) dL_winters_175 (by decide) ?_
                refine z_goto C (pc := 176) (tgt := 180) dL_winters_176 (by decide) ?_
                refine z_sub (wc := ((cW cI a i17 r17) ++ [(ab, .inl (cI, 7, .inl fb)), (ad, .inl (cI, 9, .inl fd)), (ar, .inl (cI, 3, .inl fr))])) [0, 1, 2, 3, 4, 5, 6, 7, 8, 9, 10, 11, 12, 13, 14, 15, 16, 17, 18, 19, 20, 21] rfl rfl ?_
                refine z_zret C (pc := 180) (i17, r17, fr) dL_winters_180 rfl ?_ rfl
                exact ⟨rfl, hz17⟩
      · have hj : j < mn := lt_of_nI c_4 (by omega)
        have hokj := crw_ok ht hcc j
        refine z_iconst C (pc := 33) (v := nI 1) dL_winters_33 (by decide) ?_
        refine z_istore C (pc := 34) (lv' := [(0, .ref (a 0)), (1, .ref ab), (2, .ref ad), (3, .ref ar), (4, .int (nI mn)), (5, .int (nI t)), (6, .ref aq_1), (7, .ref aq_2), (8, .long (lN (crw j (t, z.2.1 2)).1)), (10, .int (nI j)), (11, .int (nI 1))]) dL_winters_34 (Nat.le_of_ble_eq_true rfl) rfl rfl ?_
        have key36 : ∀ (fu36 : Nat) (k q : Nat) (g2 : Nat → Int32), 5 - k < fu36 → (q = k + 1) → (k ≤ 5) → (∀ p, p < 5 → g2 (p + 1) = nI ((crp k (crw j (t, z.2.1 2))).2 p)) → (g2 6 = nI (z.1 5)) → Z pP l eE { frames := 7, cells := 2, slots := 18, locals := 164 } sS mM aV bB mE cC D AA 12 2 18 (MQ bB (va_Qi (S := ((Nat → Int32) × (Nat → Nat → Int32) × (Nat → Int32))) (fun q u => q = 1 ∧ Cls z u.1 u.2.1) (fun u t => va_P D vwCl ((fun u => ((cW cI a u.1 u.2.1) ++ [(ab, .inl (cI, 7, .inl fb)), (ad, .inl (cI, 9, .inl fd)), (ar, .inl (cI, 3, .inl u.2.2))])) u) t.heap) AA) aV sS 2 18 AA) 36 [(0, .ref (a 0)), (1, .ref ab), (2, .ref ad), (3, .ref ar), (4, .int (nI mn)), (5, .int (nI t)), (6, .ref aq_1), (7, .ref aq_2), (8, .long (lN (crp k (crw j (t, z.2.1 2))).1)), (10, .int (nI j)), (11, .int (nI q))] [] ((cW cI a i r) ++ [(ab, .inl (cI, 7, .inl fb)), (ad, .inl (cI, 9, .inl fd)), (ar, .inl (cI, 3, .inl fr)), (aq_1, .inl (cI, 9, .inl g2)), (aq_2, .inl (cI, 9, .inl (fun _ => 0)))]) := by
          intro fu36
          induction fu36 with
          | zero => intro k q g2 hfu36; exact absurd hfu36 (Nat.not_lt_zero _)
          | succ fu36 ih36 =>
            intro k q g2 hfu36 hq hk5 hw2 h62
            refine z_iload C (pc := 36) dL_winters_36 rfl ?_
            refine z_bipush C (pc := 38) (v := nI 6) dL_winters_38 (by decide) ?_
            refine z_icmp_ge C (pc := 40) (tgt := 98) dL_winters_40 (by decide) (fun c_19 => ?_) (fun c_19 => ?_)
            · have hke : k = 5 := by
                have := ge_of_nI (n := 6) (j := q) c_19 (by decide)
                omega
              subst hke
              refine z_iinc C (pc := 98) (v := ((nI j) + 1)) (lv' := [(0, .ref (a 0)), (1, .ref ab), (2, .ref ad), (3, .ref ar), (4, .int (nI mn)), (5, .int (nI t)), (6, .ref aq_1), (7, .ref aq_2), (8, .long (lN (crp 5 (crw j (t, z.2.1 2))).1)), (10, .int ((nI j) + 1)), (11, .int (nI q))]) dL_winters_98 rfl rfl (Nat.le_of_ble_eq_true rfl) rfl rfl ?_
              refine z_goto C (pc := 101) (tgt := 26) dL_winters_101 (by decide) ?_
              refine z_lv (lv' := [(0, .ref (a 0)), (1, .ref ab), (2, .ref ad), (3, .ref ar), (4, .int (nI mn)), (5, .int (nI t)), (6, .ref aq_1), (7, .ref aq_2), (8, .long (lN (crw (j + 1) (t, z.2.1 2)).1)), (10, .int (nI (j + 1)))]) ⟨rfl, rfl, rfl, rfl, rfl, rfl, rfl, rfl, lkl (congrArg lN (by rw [crw_s])), lki (nI_1 j), trivial⟩ ?_
              exact ih26 (j + 1) g2 (by omega) hj (by rw [crw_s]; exact hw2) h62
            · have hk : k < 5 := by
                have := lt_of_nI (n := 6) (j := q) c_19 (by omega)
                omega
              have hok := crp_ok hokj k
              have hcl := crn_lt (nxt (crp k (crw j (t, z.2.1 2))).1)
              have hnl := nxt_lt (crp k (crw j (t, z.2.1 2))).1
              have hA := hok.2 k hk
              have hgq : g2 q = nI ((crp k (crw j (t, z.2.1 2))).2 k) := by rw [hq]; exact hw2 k hk
              refine z_lload C (pc := 43) dL_winters_43 rfl ?_
              refine z_ldc2 C (pc := 45) (v := 1103515245) wl_L_114 dL_winters_45 ?_
              refine z_lmul C (pc := 48) dL_winters_48 ?_
              refine z_ldc2 C (pc := 49) (v := 12345) wl_L_116 dL_winters_49 ?_
              refine z_ladd C (pc := 52) dL_winters_52 ?_
              refine z_ldc2 C (pc := 53) (v := 2147483648) wl_L_118 dL_winters_53 ?_
              refine z_lrem C (pc := 56) dL_winters_56 (by decide) ?_
              refine z_setl (y := lN (nxt (crp k (crw j (t, z.2.1 2))).1)) (lnext hok.1) ?_
              refine z_lstore C (pc := 57) (lv' := [(0, .ref (a 0)), (1, .ref ab), (2, .ref ad), (3, .ref ar), (4, .int (nI mn)), (5, .int (nI t)), (6, .ref aq_1), (7, .ref aq_2), (8, .long (lN (nxt (crp k (crw j (t, z.2.1 2))).1))), (10, .int (nI j)), (11, .int (nI q))]) dL_winters_57 (Nat.le_of_ble_eq_true rfl) rfl rfl ?_
              refine z_aload C (pc := 59) dL_winters_59 rfl ?_
              refine z_iload C (pc := 61) dL_winters_61 rfl ?_
              refine z_dup2 C (pc := 63) dL_winters_63 rfl rfl ?_
              have h_20 : vp_in (nI q) 9 := by exact vp_in_nI (by omega) (by decide)
              refine z_iald C (pc := 64) 22 rfl h_20 dL_winters_64 ?_
              refine z_seti (y := (g2 q)) (by rw [nI_clamp (by omega)]) ?_
              refine z_seti (y := nI ((crp k (crw j (t, z.2.1 2))).2 k)) hgq ?_
              refine z_lload C (pc := 65) dL_winters_65 rfl ?_
              refine z_ldc2 C (pc := 67) (v := 65536) wl_L_120 dL_winters_67 ?_
              refine z_ldiv C (pc := 70) dL_winters_70 (by decide) ?_
              refine z_ldc2 C (pc := 71) (v := 3) wl_L_122 dL_winters_71 ?_
              refine z_lrem C (pc := 74) dL_winters_74 (by decide) ?_
              refine z_l2i C (pc := 75) dL_winters_75 ?_
              refine z_seti (y := nI (crn (nxt (crp k (crw j (t, z.2.1 2))).1))) (lcreep hnl) ?_
              refine z_isub C (pc := 76) dL_winters_76 ?_
              have h_21 : vp_in (nI q) 9 := by exact vp_in_nI (by omega) (by decide)
              refine z_iast C (pc := 77) 22 rfl h_21 (ws' := ((cW cI a i r) ++ [(ab, .inl (cI, 7, .inl fb)), (ad, .inl (cI, 9, .inl fd)), (ar, .inl (cI, 3, .inl fr)), (aq_1, .inl (cI, 9, .inl (upd g2 q ((nI ((crp k (crw j (t, z.2.1 2))).2 k)) - (nI (crn (nxt (crp k (crw j (t, z.2.1 2))).1))))))), (aq_2, .inl (cI, 9, .inl (fun _ => 0)))])) (by rw [nI_clamp (by omega)]; rfl) dL_winters_77 ?_
              refine z_aload C (pc := 78) dL_winters_78 rfl ?_
              refine z_iload C (pc := 80) dL_winters_80 rfl ?_
              have h_22 : vp_in (nI q) 9 := by exact vp_in_nI (by omega) (by decide)
              refine z_iald C (pc := 82) 22 rfl h_22 dL_winters_82 ?_
              refine z_seti (y := ((upd g2 q ((nI ((crp k (crw j (t, z.2.1 2))).2 k)) - (nI (crn (nxt (crp k (crw j (t, z.2.1 2))).1))))) q)) (by rw [nI_clamp (by omega)]) ?_
              refine z_seti (y := nI ((crp k (crw j (t, z.2.1 2))).2 k) - nI (crn (nxt (crp k (crw j (t, z.2.1 2))).1))) upd_s ?_
              refine z_if_ge C (pc := 83) (tgt := 92) dL_winters_83 (by decide) (fun c_23 => ?_) (fun c_23 => ?_)
              · have hle : crn (nxt (crp k (crw j (t, z.2.1 2))).1) ≤ (crp k (crw j (t, z.2.1 2))).2 k := Nat.le_of_not_lt (fun h => i_nlt.mpr c_23 ((sub_neg (by omega) (by omega)).mpr h))
                have hvv : nI ((crp k (crw j (t, z.2.1 2))).2 k) - nI (crn (nxt (crp k (crw j (t, z.2.1 2))).1)) = nI ((crp k (crw j (t, z.2.1 2))).2 k - crn (nxt (crp k (crw j (t, z.2.1 2))).1)) := pk_sub hle
                refine z_iinc C (pc := 92) (v := ((nI q) + 1)) (lv' := [(0, .ref (a 0)), (1, .ref ab), (2, .ref ad), (3, .ref ar), (4, .int (nI mn)), (5, .int (nI t)), (6, .ref aq_1), (7, .ref aq_2), (8, .long (lN (nxt (crp k (crw j (t, z.2.1 2))).1))), (10, .int (nI j)), (11, .int ((nI q) + 1))]) dL_winters_92 rfl rfl (Nat.le_of_ble_eq_true rfl) rfl rfl ?_
                refine z_goto C (pc := 95) (tgt := 36) dL_winters_95 (by decide) ?_
                refine z_lv (lv' := [(0, .ref (a 0)), (1, .ref ab), (2, .ref ad), (3, .ref ar), (4, .int (nI mn)), (5, .int (nI t)), (6, .ref aq_1), (7, .ref aq_2), (8, .long (lN (crp (k + 1) (crw j (t, z.2.1 2))).1)), (10, .int (nI j)), (11, .int (nI (q + 1)))]) ⟨rfl, rfl, rfl, rfl, rfl, rfl, rfl, rfl, lkl (congrArg lN (crp_1 _ _).symm), rfl, lki (nI_1 q), trivial⟩ ?_
                exact ih36 (k + 1) (q + 1) (upd g2 q ((nI ((crp k (crw j (t, z.2.1 2))).2 k)) - (nI (crn (nxt (crp k (crw j (t, z.2.1 2))).1))))) (by omega) (by omega) hk (fun p hp => by rw [crp_2]; unfold upN; by_cases e : p = k; (rw [if_pos e, e, ← hq, upd_s]; exact hvv); (rw [if_neg e, upd_n (by omega)]; exact hw2 p hp)) ((upd_n (by omega)).trans h62)
              · have hlt : (crp k (crw j (t, z.2.1 2))).2 k < crn (nxt (crp k (crw j (t, z.2.1 2))).1) := (sub_neg (by omega) (by omega)).mp (i_nle.mp c_23)
                have hvv : nI 0 = nI ((crp k (crw j (t, z.2.1 2))).2 k - crn (nxt (crp k (crw j (t, z.2.1 2))).1)) := by rw [Nat.sub_eq_zero_of_le (Nat.le_of_lt hlt)]
                refine z_aload C (pc := 86) dL_winters_86 rfl ?_
                refine z_iload C (pc := 88) dL_winters_88 rfl ?_
                refine z_iconst C (pc := 90) (v := nI 0) dL_winters_90 (by decide) ?_
                have h_24 : vp_in (nI q) 9 := by exact vp_in_nI (by omega) (by decide)
                refine z_iast C (pc := 91) 22 rfl h_24 (ws' := ((cW cI a i r) ++ [(ab, .inl (cI, 7, .inl fb)), (ad, .inl (cI, 9, .inl fd)), (ar, .inl (cI, 3, .inl fr)), (aq_1, .inl (cI, 9, .inl (upd (upd g2 q ((nI ((crp k (crw j (t, z.2.1 2))).2 k)) - (nI (crn (nxt (crp k (crw j (t, z.2.1 2))).1))))) q (nI 0)))), (aq_2, .inl (cI, 9, .inl (fun _ => 0)))])) (by rw [nI_clamp (by omega)]; rfl) dL_winters_91 ?_
                refine z_iinc C (pc := 92) (v := ((nI q) + 1)) (lv' := [(0, .ref (a 0)), (1, .ref ab), (2, .ref ad), (3, .ref ar), (4, .int (nI mn)), (5, .int (nI t)), (6, .ref aq_1), (7, .ref aq_2), (8, .long (lN (nxt (crp k (crw j (t, z.2.1 2))).1))), (10, .int (nI j)), (11, .int ((nI q) + 1))]) dL_winters_92 rfl rfl (Nat.le_of_ble_eq_true rfl) rfl rfl ?_
                refine z_goto C (pc := 95) (tgt := 36) dL_winters_95 (by decide) ?_
                refine z_lv (lv' := [(0, .ref (a 0)), (1, .ref ab), (2, .ref ad), (3, .ref ar), (4, .int (nI mn)), (5, .int (nI t)), (6, .ref aq_1), (7, .ref aq_2), (8, .long (lN (crp (k + 1) (crw j (t, z.2.1 2))).1)), (10, .int (nI j)), (11, .int (nI (q + 1)))]) ⟨rfl, rfl, rfl, rfl, rfl, rfl, rfl, rfl, lkl (congrArg lN (crp_1 _ _).symm), rfl, lki (nI_1 q), trivial⟩ ?_
                exact ih36 (k + 1) (q + 1) (upd (upd g2 q ((nI ((crp k (crw j (t, z.2.1 2))).2 k)) - (nI (crn (nxt (crp k (crw j (t, z.2.1 2))).1))))) q (nI 0)) (by omega) (by omega) hk (fun p hp => by rw [crp_2]; unfold upN; by_cases e : p = k; (rw [if_pos e, e, ← hq, upd_s]; exact hvv); (rw [if_neg e, upd_n (by omega), upd_n (by omega)]; exact hw2 p hp)) ((upd_n (by omega)).trans ((upd_n (by omega)).trans h62))
        refine z_lv (lv' := [(0, .ref (a 0)), (1, .ref ab), (2, .ref ad), (3, .ref ar), (4, .int (nI mn)), (5, .int (nI t)), (6, .ref aq_1), (7, .ref aq_2), (8, .long (lN (crp 0 (crw j (t, z.2.1 2))).1)), (10, .int (nI j)), (11, .int (nI 1))]) ⟨rfl, rfl, rfl, rfl, rfl, rfl, rfl, rfl, lkl (congrArg lN rfl), rfl, rfl, trivial⟩ ?_
        exact key36 (_ + 1) 0 1 g (Nat.lt_succ_self _) rfl (Nat.zero_le _) hw h6
  refine z_lv (lv' := [(0, .ref (a 0)), (1, .ref ab), (2, .ref ad), (3, .ref ar), (4, .int (nI mn)), (5, .int (nI t)), (6, .ref aq_1), (7, .ref aq_2), (8, .long (lN (crw 0 (t, z.2.1 2)).1)), (10, .int (nI 0))]) ⟨rfl, rfl, rfl, rfl, rfl, rfl, rfl, rfl, lkl (congrArg lN rfl), rfl, trivial⟩ ?_
  exact key26 (_ + 1) 0 u_3 (Nat.lt_succ_self _) (Nat.zero_le _) (fun p hp => by rw [hg _ (by omega)]; exact li2 p hp) ((hg 6 (by decide)).trans li3)
