theorem tx_tv {f : Nat → Int32} {kd c : Nat → Nat} {N : Nat} (h : TX f kd N c) : ∃ tv : Nat → Nat, ∀ j, j < N + 6 → f j = nI (tv j) ∧ 1 ≤ tv j ∧ tv j ≤ 126 := by
  refine ⟨fun j => if j < N then cod (kd j) else if j = N then 59 else 48 + c (j - N - 1), fun j hj => ?_⟩
  by_cases e : j < N
  · simp only [if_pos e]
    obtain ⟨h1, h2⟩ := h.1 j e
    obtain ⟨-, -, -, h3, h4⟩ := cod_k (kd j) (by omega)
    exact ⟨h1, h3, h4⟩
  · by_cases e2 : j = N
    · subst e2
      simp only [if_neg (Nat.lt_irrefl j), if_true]
      exact ⟨h.2.1, by decide, by decide⟩
    · simp only [if_neg e, if_neg e2]
      obtain ⟨h1, h2⟩ := h.2.2 (j - N - 1) (by omega)
      rw [show N + 1 + (j - N - 1) = j by omega] at h1
      exact ⟨h1, by omega, by omega⟩
set_option maxHeartbeats 4000000 in
set_option maxRecDepth 100000 in
theorem lw_camp {pP : Program} {l : Launch} {eE : Env} {sS : State} {mM : MethodId} {aV : Array Value} {bB : List Frame} {mE : Method} {cC : Code} {D : va_G} {AA : Nat → Prop} {QQ : State → Prop} {cI : ClassId} {tt : Nat × Nat × Nat} {bb L : Nat} {xs : Nat → Int32} {a : Nat → Nat} {ab ad ac ar aT : Nat} {fb ft : Nat → Int32} (C : Cx pP sS mM aV mE cC RL cL_law 15 ret D cI tt AA) (hX : va_X bb L xs sS sS.heap) (hbl : bb < sS.heap.size) (hbA : ¬ AA bb) (hL : L ≤ 260) (z : SG) (i : Nat → Int32) (r : Nat → Nat → Int32) (fb0 fd0 fc fr ft0 : Nat → Int32) (hz : Cls z i r) (vz : VS z) (h30 : z.1 3 = 0) (kk : ∀ (fb ft : Nat → Int32) (z : SG) (i : Nat → Int32) (r : Nat → Nat → Int32) (fd fc fr : Nat → Int32), Cls z i r → VS z → LI z fb fd → Z pP l eE room_1 sS mM aV bB mE cC D AA 15 24 168 QQ 95 [(0, .ref bb), (1, .ref (a 0)), (2, .ref ab), (3, .ref ad), (4, .ref ac), (5, .ref ar)] [] ((cW cI a i r) ++ [(ab, .inl (cI, 7, .inl fb)), (ad, .inl (cI, 9, .inl fd)), (ar, .inl (cI, 3, .inl fr)), (ac, .inl (cI, 9, .inl fc)), (aT, .inl (cI, 15, .inl ft))])) : Z pP l eE room_1 sS mM aV bB mE cC D AA 15 (24) (168) QQ 35 [(0, .ref bb), (1, .ref (a 0)), (2, .ref ab), (3, .ref ad), (4, .ref ac), (5, .ref ar), (6, .ref aT)] [] ((cW cI a i r) ++ [(aT, .inl (cI, 15, .inl ft0)), (ab, .inl (cI, 7, .inl fb0)), (ad, .inl (cI, 9, .inl fd0)), (ar, .inl (cI, 3, .inl fr)), (ac, .inl (cI, 9, .inl fc))]) := by
  refine z_aload_n C (pc := 35) dL_law_35 rfl ?_
  refine z_iconst C (pc := 36) (v := nI 0) dL_law_36 (by decide) ?_
  refine z_callcell C (pc := 37) (rest := []) (k := 0) hX hbl hbA hL (by omega) ⟨Nat.le_of_ble_eq_true rfl, Nat.le_of_ble_eq_true rfl, (by show 24 ≤ 600000; omega), (by show 168 ≤ 7302250; omega)⟩ rfl dL_law_37 (Nat.le_of_ble_eq_true rfl) (fun x_1 => ?_)
  refine z_ws (st' := [.int x_1]) (ws' := ((cW cI a i r) ++ [(aT, .inl (cI, 15, .inl ft0)), (ab, .inl (cI, 7, .inl fb0)), (ad, .inl (cI, 9, .inl fd0)), (ar, .inl (cI, 3, .inl fr)), (ac, .inl (cI, 9, .inl fc))])) rfl rfl ?_
  refine z_aload_n C (pc := 40) dL_law_40 rfl ?_
  refine z_iconst C (pc := 41) (v := nI 1) dL_law_41 (by decide) ?_
  refine z_callcell C (pc := 42) (rest := [.int x_1]) (k := 1) hX hbl hbA hL (by omega) ⟨Nat.le_of_ble_eq_true rfl, Nat.le_of_ble_eq_true rfl, (by show 24 ≤ 600000; omega), (by show 168 ≤ 7302250; omega)⟩ rfl dL_law_42 (Nat.le_of_ble_eq_true rfl) (fun x_2 => ?_)
  refine z_ws (st' := [.int x_2, .int x_1]) (ws' := ((cW cI a i r) ++ [(aT, .inl (cI, 15, .inl ft0)), (ab, .inl (cI, 7, .inl fb0)), (ad, .inl (cI, 9, .inl fd0)), (ar, .inl (cI, 3, .inl fr)), (ac, .inl (cI, 9, .inl fc))])) rfl rfl ?_
  refine z_aload_n C (pc := 45) dL_law_45 rfl ?_
  refine z_aload_n C (pc := 46) dL_law_46 rfl ?_
  refine z_aload C (pc := 47) dL_law_47 rfl ?_
  refine z_calli C (isC := [20, 21, 19]) rfl (by exact fun _ => rfl) (runS C (wc := [(ab, .inl (cI, 7, .inl fb0)), (ad, .inl (cI, 9, .inl fd0)), (aT, .inl (cI, 15, .inl ft0))]) (pc := 49) (rY' := rm 1 21) (nn := 5) (As := [.int x_1, .int x_2, .ref ab, .ref ad, .ref aT]) (rest := []) (g_campText l D cI tt x_1 x_2 ab ad aT fb0 fd0 ft0) rfl rfl ⟨rfl, rfl, ⟨Nat.le_of_ble_eq_true rfl, Nat.le_of_ble_eq_true rfl⟩, (by show 24 ≤ 600000; omega), (by show 168 ≤ 7302250; omega)⟩ wl_L_77 ws_L_campText wi_L wc_L_campText (by decide +kernel) rfl rfl (Nat.le_of_ble_eq_true rfl) dL_law_49) (fun r_3 u_3 h_3 => ?_)
  obtain ⟨fb2, fd2, ft2⟩ := u_3
  try dsimp only at h_3
  obtain ⟨N, kd, cc, hN2, kN, hb, hd, d6, d7, d8, hT⟩ := h_3
  have hN6 := hb.2.1
  obtain ⟨tv, htv⟩ := tx_tv hT
  refine z_ws (st' := [.int r_3]) (ws' := ((cW cI a i r) ++ [(aT, .inl (cI, 15, .inl ft2)), (ab, .inl (cI, 7, .inl fb2)), (ad, .inl (cI, 9, .inl fd2)), (ar, .inl (cI, 3, .inl fr)), (ac, .inl (cI, 9, .inl fc))])) rfl rfl ?_
  refine z_seti (y := (nI (N + 6))) kN ?_
  refine z_istore C (pc := 52) (lv' := [(0, .ref bb), (1, .ref (a 0)), (2, .ref ab), (3, .ref ad), (4, .ref ac), (5, .ref ar), (6, .ref aT), (7, .int (nI (N + 6)))]) dL_law_52 (Nat.le_of_ble_eq_true rfl) rfl rfl ?_
  refine z_aload_n C (pc := 54) dL_law_54 rfl ?_
  refine z_aload C (pc := 55) dL_law_55 rfl ?_
  refine z_iload C (pc := 57) dL_law_57 rfl ?_
  refine z_ws (st' := [.int (nI (N + 6)), .ref aT, .ref (a 0)]) (ws' := ((cW cI a i r) ++ ([(aT, .inl (cI, 15, .inl ft2))] : va_W)) ++ ([(ab, .inl (cI, 7, .inl fb2)), (ad, .inl (cI, 9, .inl fd2)), (ar, .inl (cI, 3, .inl fr)), (ac, .inl (cI, 9, .inl fc))] : va_W)) (List.append_assoc (cW cI a i r) ([(aT, .inl (cI, 15, .inl ft2))] : va_W) ([(ab, .inl (cI, 7, .inl fb2)), (ad, .inl (cI, 9, .inl fd2)), (ar, .inl (cI, 3, .inl fr)), (ac, .inl (cI, 9, .inl fc))] : va_W)).symm rfl ?_
  refine z_calliL C (by exact fun _ => rfl) (runS C (wc := ((cW cI a i r) ++ ([(aT, .inl (cI, 15, .inl ft2))] : va_W))) (pc := 59) (rY' := rm 3 64) (nn := 3) (As := [.ref (a 0), .ref aT, .int (nI (N + 6))]) (rest := []) (g_write l D cI tt a i r aT ft2 (N + 6) (by omega) tv htv z hz vz h30) (apL_hC _ _) (full_nd _) ⟨rfl, rfl, ⟨Nat.le_of_ble_eq_true rfl, Nat.le_of_ble_eq_true rfl⟩, (by show 24 ≤ 600000; omega), (by show 168 ≤ 7302250; omega)⟩ wl_L_81 ws_L_write wi_L wc_L_write (by decide +kernel) rfl rfl (Nat.le_of_ble_eq_true rfl) dL_law_59) (fun r_4 u_4 h_4 => ?_)
  obtain ⟨i4, r4⟩ := u_4
  try dsimp only at h_4
  obtain ⟨k0, z1, hz1, vz1, h31, hpt, -, -⟩ := h_4
  obtain ⟨cf, cc1, cli⟩ := camp_li hN2 hb hd d6 d7 d8 hT h31 hpt
  refine z_ws (st' := [.int r_4]) (ws' := ((cW cI a i4 r4) ++ [(aT, .inl (cI, 15, .inl ft2)), (ab, .inl (cI, 7, .inl fb2)), (ad, .inl (cI, 9, .inl fd2)), (ar, .inl (cI, 3, .inl fr)), (ac, .inl (cI, 9, .inl fc))])) (List.append_assoc (cW cI a i4 r4) ([(aT, .inl (cI, 15, .inl ft2))] : va_W) ([(ab, .inl (cI, 7, .inl fb2)), (ad, .inl (cI, 9, .inl fd2)), (ar, .inl (cI, 3, .inl fr)), (ac, .inl (cI, 9, .inl fc))] : va_W)) rfl ?_
  refine z_seti (y := (nI 1)) k0 ?_
  refine z_if_eq C (pc := 62) (tgt := 93) dL_law_62 (by decide) (fun c_5 => ?_) (fun c_5 => ?_)
  · exact absurd c_5 (by decide)
  · refine z_aload_n C (pc := 65) dL_law_65 rfl ?_
    refine z_calliL C (by exact fun _ => cW_ad) (runV C (wc := (cW cI a i4 r4)) (pc := 66) (rY' := rm 3 66) (nn := 0) (As := []) (rest := []) (c_fault l D cI tt a i4 r4 z1 hz1 vz1) (apL_hC _ _) (full_nd _) ⟨rfl, rfl, ⟨Nat.le_of_ble_eq_true rfl, Nat.le_of_ble_eq_true rfl⟩, (by show 24 ≤ 600000; omega), (by show 168 ≤ 7302250; omega)⟩ wl_L_85 wm_X3_fault we_X3_fault wi_X3 wc_X3_fault (by decide +kernel) rfl 0 rfl rfl rfl rfl (Nat.le_of_ble_eq_true rfl) dL_law_66) (fun q_6 u_6 h_6 => ?_)
    obtain ⟨i6, r6⟩ := u_6
    try dsimp only at h_6
    obtain ⟨k0, hz6⟩ := h_6
    refine z_ws (st' := [.int q_6]) (ws' := ((cW cI a i6 r6) ++ [(aT, .inl (cI, 15, .inl ft2)), (ab, .inl (cI, 7, .inl fb2)), (ad, .inl (cI, 9, .inl fd2)), (ar, .inl (cI, 3, .inl fr)), (ac, .inl (cI, 9, .inl fc))])) rfl rfl ?_
    refine z_seti (y := (nI (N + 6))) (k0.trans cf) ?_
    refine z_iload C (pc := 69) dL_law_69 rfl ?_
    refine z_icmp_ne C (pc := 71) (tgt := 93) dL_law_71 (by decide) (fun c_7 => ?_) (fun c_7 => ?_)
    · exact absurd rfl c_7
    · refine z_aload_n C (pc := 74) dL_law_74 rfl ?_
      refine z_calliL C (by exact fun _ => cW_ad) (runV C (wc := (cW cI a i6 r6)) (pc := 75) (rY' := rm 4 86) (nn := 0) (As := []) (rest := []) (c_camp l D cI tt a i6 r6 z1 hz6 vz1) (apL_hC _ _) (full_nd _) ⟨rfl, rfl, ⟨Nat.le_of_ble_eq_true rfl, Nat.le_of_ble_eq_true rfl⟩, (by show 24 ≤ 600000; omega), (by show 168 ≤ 7302250; omega)⟩ wl_L_89 wm_X3_camp we_X3_camp wi_X3 wc_X3_camp (by decide +kernel) rfl 0 rfl rfl rfl rfl (Nat.le_of_ble_eq_true rfl) dL_law_75) (fun q_8 u_8 h_8 => ?_)
      obtain ⟨i8, r8⟩ := u_8
      try dsimp only at h_8
      obtain ⟨k0, hz2⟩ := h_8
      have vz2 := vs_camp vz1
      refine z_ws (st' := [.int q_8]) (ws' := ((cW cI a i8 r8) ++ [(aT, .inl (cI, 15, .inl ft2)), (ab, .inl (cI, 7, .inl fb2)), (ad, .inl (cI, 9, .inl fd2)), (ar, .inl (cI, 3, .inl fr)), (ac, .inl (cI, 9, .inl fc))])) rfl rfl ?_
      refine z_seti (y := (nI N)) (k0.trans cc1) ?_
      refine z_aload_n C (pc := 78) dL_law_78 rfl ?_
      refine z_iconst C (pc := 79) (v := nI 0) dL_law_79 (by decide) ?_
      have h_9 : vp_in (nI 0) 7 := by exact vp_in_nI (by omega) (by decide)
      refine z_iald C (pc := 80) 20 rfl h_9 dL_law_80 ?_
      refine z_seti (y := (fb2 0)) (by rw [nI_clamp (by omega)]) ?_
      refine z_seti (y := nI N) hb.1 ?_
      refine z_icmp_ne C (pc := 81) (tgt := 93) dL_law_81 (by decide) (fun c_10 => ?_) (fun c_10 => ?_)
      · exact absurd rfl c_10
      · refine z_sub (wc := ((cW cI a i8 r8) ++ [(ab, .inl (cI, 7, .inl fb2)), (ad, .inl (cI, 9, .inl fd2)), (ar, .inl (cI, 3, .inl fr)), (ac, .inl (cI, 9, .inl fc)), (aT, .inl (cI, 15, .inl ft2))])) [0, 1, 2, 3, 4, 5, 6, 7, 8, 9, 10, 11, 12, 13, 14, 15, 16, 17, 18, 20, 21, 22, 23, 19] rfl rfl ?_
        refine z_aload_n C (pc := 84) dL_law_84 rfl ?_
        refine z_aload_n C (pc := 85) dL_law_85 rfl ?_
        refine z_aload_n C (pc := 86) dL_law_86 rfl ?_
        refine z_ws (st' := [.ref ad, .ref ab, .ref (a 0)]) (ws' := ((cW cI a i8 r8) ++ ([(ab, .inl (cI, 7, .inl fb2)), (ad, .inl (cI, 9, .inl fd2))] : va_W)) ++ ([(ar, .inl (cI, 3, .inl fr)), (ac, .inl (cI, 9, .inl fc)), (aT, .inl (cI, 15, .inl ft2))] : va_W)) (List.append_assoc (cW cI a i8 r8) ([(ab, .inl (cI, 7, .inl fb2)), (ad, .inl (cI, 9, .inl fd2))] : va_W) ([(ar, .inl (cI, 3, .inl fr)), (ac, .inl (cI, 9, .inl fc)), (aT, .inl (cI, 15, .inl ft2))] : va_W)).symm rfl ?_
        refine z_calliL C (by exact fun _ => rfl) (runS C (wc := ((cW cI a i8 r8) ++ ([(ab, .inl (cI, 7, .inl fb2)), (ad, .inl (cI, 9, .inl fd2))] : va_W))) (pc := 87) (rY' := rm 7 166) (nn := 3) (As := [.ref (a 0), .ref ab, .ref ad]) (rest := []) (g_stands l D cI tt a i8 r8 ab ad fb2 fd2 _ hz2 vz2 cli) (apL_hC _ _) (full_nd _) ⟨rfl, rfl, ⟨Nat.le_of_ble_eq_true rfl, Nat.le_of_ble_eq_true rfl⟩, (by show 24 ≤ 600000; omega), (by show 168 ≤ 7302250; omega)⟩ wl_L_92 ws_L_stands wi_L wc_L_stands (by decide +kernel) rfl rfl (Nat.le_of_ble_eq_true rfl) dL_law_87) (fun r_11 u_11 h_11 => ?_)
        obtain ⟨i11, r11⟩ := u_11
        try dsimp only at h_11
        obtain ⟨k0, hz11⟩ := h_11
        refine z_ws (st' := [.int r_11]) (ws' := ((cW cI a i11 r11) ++ [(ab, .inl (cI, 7, .inl fb2)), (ad, .inl (cI, 9, .inl fd2)), (ar, .inl (cI, 3, .inl fr)), (ac, .inl (cI, 9, .inl fc)), (aT, .inl (cI, 15, .inl ft2))])) (List.append_assoc (cW cI a i11 r11) ([(ab, .inl (cI, 7, .inl fb2)), (ad, .inl (cI, 9, .inl fd2))] : va_W) ([(ar, .inl (cI, 3, .inl fr)), (ac, .inl (cI, 9, .inl fc)), (aT, .inl (cI, 15, .inl ft2))] : va_W)) rfl ?_
        refine z_seti (y := (nI 1)) k0 ?_
        refine z_if_ne C (pc := 90) (tgt := 95) dL_law_90 (by decide) (fun c_12 => ?_) (fun c_12 => ?_)
        · refine z_lv (lv' := [(0, .ref bb), (1, .ref (a 0)), (2, .ref ab), (3, .ref ad), (4, .ref ac), (5, .ref ar)]) ⟨rfl, rfl, rfl, rfl, rfl, rfl, trivial⟩ ?_
          exact kk _ _ _ _ _ _ _ _ hz11 vz2 cli
        · exact absurd c_12 (by decide)
