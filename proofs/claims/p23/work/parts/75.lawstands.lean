/-! what calls of the state's own numbers answer -/
theorem noC_in {n q : Nat} (hn : n ≠ 0) (h1 : 1 ≤ q) (h6 : q < 6) : noCairn n (nI q) = false := by
  have e1 : ¬ nI q < 1 := nI_nlt (b := 1) h1 (by omega)
  have e2 : nI q ≤ 5 := nI_le (b := 5) (by omega) (by decide)
  unfold noCairn
  rw [decide_eq_false e1, decide_eq_true e2]
  simp [hn]
theorem noP_in {n x : Nat} (hn : n ≤ 6) (h1 : 1 ≤ x) (hx : x < 2 ^ n) : noPeople n (nI x) = false := by
  have hp := pow_le6 hn
  have e1 : ¬ nI x < 1 := nI_nlt (b := 1) h1 (by omega)
  have e2 : nI x ≤ nI (2 ^ n - 1) := nI_le (by omega) (by omega)
  unfold noPeople
  rw [decide_eq_false e1, decide_eq_true e2]
  rfl
theorem noM_in {n x st f : Nat} (hn : n ≤ 6) (h1 : 1 ≤ x) (hx : x < 2 ^ n) (s1 : 1 ≤ st) (s6 : st ≤ 6) (hf : f ≤ 40) : noMarch n (nI x) (nI st) (nI f) = false := by
  have e1 : ¬ nI st < 1 := nI_nlt (b := 1) s1 (by omega)
  have e2 : nI st ≤ 6 := nI_le (b := 6) s6 (by decide)
  have e3 : ¬ nI f < 0 := nI_pos (by omega)
  have e4 : nI f ≤ 40 := nI_le (b := 40) hf (by decide)
  unfold noMarch noStage noFood
  rw [noP_in hn h1 hx, decide_eq_false e1, decide_eq_true e2, decide_eq_false e3, decide_eq_true e4]
  rfl
theorem noMb_in {z : SG} {k : Nat} (h6 : z.1 4 ≤ 6) (hk : k < z.1 4) : noMember z (nI k) = false := by
  have e1 : ¬ nI k < 0 := nI_pos (by omega)
  have e2 : nI k < nI (z.1 4) := nI_lt hk (by omega)
  unfold noMember
  rw [decide_eq_false e1, decide_eq_true e2]
  rfl
theorem mem_in {z : SG} {k : Nat} (h6 : z.1 4 ≤ 6) (hk : k < z.1 4) (w : Int32) : memberF z (nI k) w = tellF z k w := by
  unfold memberF
  rw [noMb_in h6 hk, tn_nI (by omega)]
  rfl
theorem mem_0 {z : SG} {k : Nat} (h6 : z.1 4 ≤ 6) (hk : k < z.1 4) : memberF z (nI k) (nI 0) = nI (z.2.1 1 k) := (mem_in h6 hk _).trans (by unfold tellF; rw [if_pos (by decide)])
theorem mem_1 {z : SG} {k : Nat} (h6 : z.1 4 ≤ 6) (hk : k < z.1 4) : memberF z (nI k) (nI 1) = nI (pls (z.2.1 1 k)) := (mem_in h6 hk _).trans (by unfold tellF; rw [if_neg (by decide), if_pos (by decide)])
theorem mem_2 {z : SG} {k : Nat} (h6 : z.1 4 ≤ 6) (hk : k < z.1 4) : memberF z (nI k) (nI 2) = nI (ets (z.2.1 1 k)) := (mem_in h6 hk _).trans (by unfold tellF; rw [if_neg (by decide), if_neg (by decide), if_pos (by decide)])
theorem mem_3 {z : SG} {k : Nat} (h6 : z.1 4 ≤ 6) (hk : k < z.1 4) : memberF z (nI k) (nI 3) = nI (fds (z.2.1 1 k)) := (mem_in h6 hk _).trans (by unfold tellF; rw [if_neg (by decide), if_neg (by decide), if_neg (by decide), if_pos (by decide)])
theorem mem_4 {z : SG} {k : Nat} (h6 : z.1 4 ≤ 6) (hk : k < z.1 4) : memberF z (nI k) (nI 4) = nI (bt (z.1 5) k) := (mem_in h6 hk _).trans (by unfold tellF; rw [if_neg (by decide), if_neg (by decide), if_neg (by decide), if_neg (by decide), if_pos (by decide)])
theorem cai_0 {z : SG} {q : Nat} (hn : z.1 4 ≠ 0) (h1 : 1 ≤ q) (h6 : q < 6) : cairnF z (nI q) (nI 0) = nI (z.2.1 2 (q - 1)) := by
  unfold cairnF
  rw [noC_in hn h1 h6, tn_nI (by omega), if_pos (show nI 0 = 0 by decide)]
  rfl
theorem cnt_in {z : SG} {j : Nat} (h : j ≤ 10) : countF z (nI j) = nI (countN z j) := by
  have e1 : ¬ (nI j < 0 ∨ ¬ nI j ≤ 10) := fun h2 => h2.elim (nI_pos (by omega)) (fun h2 => h2 (nI_le (b := 10) h (by decide)))
  unfold countF
  rw [if_neg e1, tn_nI (by omega)]
set_option maxHeartbeats 4000000 in
set_option maxRecDepth 100000 in
theorem g_stands (l : Launch) (D : va_G) (cI : ClassId) (tt : Nat × Nat × Nat) (a : Nat → Nat) (i : Nat → Int32) (r : Nat → Nat → Int32) (ab ad : Nat) (fb fd : Nat → Int32) (z : SG) (hz : Cls z i r) (vz : VS z) (hl : LI z fb fd) : MetI (S := ((Nat → Int32) × (Nat → Nat → Int32))) l yL_stands cL_stands 4 (some .boolean) (rm 7 166) D cI tt [.ref (a 0), .ref ab, .ref ad] ((cW cI a i r) ++ [(ab, .inl (cI, 7, .inl fb)), (ad, .inl (cI, 9, .inl fd))]) (fun q u => q = 1 ∧ Cls z u.1 u.2) (fun u => ((cW cI a u.1 u.2) ++ [(ab, .inl (cI, 7, .inl fb)), (ad, .inl (cI, 9, .inl fd))])) := by
  have v4 : z.1 4 ≤ 6 := vz.2.2.2.1
  have v5 : z.1 5 < 2 ^ z.1 4 := vz.2.2.2.2.1
  have hx6 := pow_le6 v4
  obtain ⟨li0, li1, li2, li3, li4, li5, li6⟩ := id hl
  have hbv := hl.bv vz
  have hdv := hl.dv vz
  refine met_ofI (by decide) (Nat.le_of_ble_eq_true rfl) ?_
  intro pP eE sS mM aV bB mE cC AA C hin
  refine z_conv (lv' := [(0, .ref (a 0)), (1, .ref ab), (2, .ref ad)]) ⟨rfl, rfl, rfl, trivial⟩ rfl rfl ?_
  refine z_iconst C (pc := 0) (v := nI 0) dL_stands_0 (by decide) ?_
  refine z_istore_n C (pc := 1) (lv' := [(0, .ref (a 0)), (1, .ref ab), (2, .ref ad), (3, .int (nI 0))]) dL_stands_1 (Nat.le_of_ble_eq_true rfl) rfl rfl ?_
  have key2 : ∀ (fu2 : Nat) (k : Nat) (i' : Nat → Int32) (r' : Nat → Nat → Int32), z.1 4 - k < fu2 → (k ≤ z.1 4) → (Cls z i' r') → Z pP l eE (rm 7 166) sS mM aV bB mE cC D AA 4 0 0 (MQ bB (va_Qi (S := ((Nat → Int32) × (Nat → Nat → Int32))) (fun q u => q = 1 ∧ Cls z u.1 u.2) (fun u t => va_P D vwCl ((fun u => ((cW cI a u.1 u.2) ++ [(ab, .inl (cI, 7, .inl fb)), (ad, .inl (cI, 9, .inl fd))])) u) t.heap) AA) aV sS 0 0 AA) 2 [(0, .ref (a 0)), (1, .ref ab), (2, .ref ad), (3, .int (nI k))] [] ((cW cI a i' r') ++ [(ab, .inl (cI, 7, .inl fb)), (ad, .inl (cI, 9, .inl fd))]) := by
    intro fu2
    induction fu2 with
    | zero => intro k i' r' hfu2; exact absurd hfu2 (Nat.not_lt_zero _)
    | succ fu2 ih2 =>
      intro k i' r' hfu2 hkn hz'
      refine z_iload_n C (pc := 2) dL_stands_2 rfl ?_
      refine z_aload_n C (pc := 3) dL_stands_3 rfl ?_
      refine z_iconst C (pc := 4) (v := nI 0) dL_stands_4 (by decide) ?_
      have h_1 : vp_in (nI 0) 7 := by exact vp_in_nI (by omega) (by decide)
      refine z_iald C (pc := 5) 19 rfl h_1 dL_stands_5 ?_
      refine z_seti (y := (fb 0)) (by rw [nI_clamp (by omega)]) ?_
      refine z_seti (y := nI (z.1 4)) li0 ?_
      refine z_icmp_ge C (pc := 6) (tgt := 105) dL_stands_6 (by decide) (fun c_2 => ?_) (fun c_2 => ?_)
      · have hke : k = z.1 4 := by
          have := ge_of_nI c_2 (by omega)
          omega
        refine z_lv (lv' := [(0, .ref (a 0)), (1, .ref ab), (2, .ref ad)]) ⟨rfl, rfl, rfl, trivial⟩ ?_
        refine z_iconst C (pc := 105) (v := nI 1) dL_stands_105 (by decide) ?_
        refine z_istore_n C (pc := 106) (lv' := [(0, .ref (a 0)), (1, .ref ab), (2, .ref ad), (3, .int (nI 1))]) dL_stands_106 (Nat.le_of_ble_eq_true rfl) rfl rfl ?_
        have key107 : ∀ (fu107 : Nat) (q : Nat) (i2 : Nat → Int32) (r2 : Nat → Nat → Int32), 6 - q < fu107 → (1 ≤ q) → (q ≤ 6) → (Cls z i2 r2) → Z pP l eE (rm 7 166) sS mM aV bB mE cC D AA 4 0 0 (MQ bB (va_Qi (S := ((Nat → Int32) × (Nat → Nat → Int32))) (fun q u => q = 1 ∧ Cls z u.1 u.2) (fun u t => va_P D vwCl ((fun u => ((cW cI a u.1 u.2) ++ [(ab, .inl (cI, 7, .inl fb)), (ad, .inl (cI, 9, .inl fd))])) u) t.heap) AA) aV sS 0 0 AA) 107 [(0, .ref (a 0)), (1, .ref ab), (2, .ref ad), (3, .int (nI q))] [] ((cW cI a i2 r2) ++ [(ab, .inl (cI, 7, .inl fb)), (ad, .inl (cI, 9, .inl fd))]) := by
          intro fu107
          induction fu107 with
          | zero => intro q i2 r2 hfu107; exact absurd hfu107 (Nat.not_lt_zero _)
          | succ fu107 ih107 =>
            intro q i2 r2 hfu107 hq1 hq6 hz2
            refine z_iload_n C (pc := 107) dL_stands_107 rfl ?_
            refine z_bipush C (pc := 108) (v := nI 6) dL_stands_108 (by decide) ?_
            refine z_icmp_ge C (pc := 110) (tgt := 133) dL_stands_110 (by decide) (fun c_3 => ?_) (fun c_3 => ?_)
            · refine z_aload_n C (pc := 133) dL_stands_133 rfl ?_
              refine z_iconst C (pc := 134) (v := nI 0) dL_stands_134 (by decide) ?_
              refine z_calliL C (by exact fun _ => cW_ad) (runV C (wc := (cW cI a i2 r2)) (pc := 135) (rY' := rm 2 45) (nn := 1) (As := [.int (nI 0)]) (rest := []) (c_count l D cI tt a i2 r2 (nI 0) z hz2 vz) (apL_hC _ _) (full_nd _) ⟨rfl, rfl, ⟨Nat.le_of_ble_eq_true rfl, Nat.le_of_ble_eq_true rfl⟩, Nat.le_of_ble_eq_true rfl, Nat.le_of_ble_eq_true rfl⟩ wl_L_56 wm_X3_count we_X3_count wi_X3 wc_X3_count (by decide +kernel) rfl 0 rfl rfl rfl rfl (Nat.le_of_ble_eq_true rfl) dL_stands_135) (fun q_4 u_4 h_4 => ?_)
              obtain ⟨i4, r4⟩ := u_4
              try dsimp only at h_4
              obtain ⟨k0, hz4⟩ := h_4
              refine z_ws (st' := [.int q_4]) (ws' := ((cW cI a i4 r4) ++ [(ab, .inl (cI, 7, .inl fb)), (ad, .inl (cI, 9, .inl fd))])) rfl rfl ?_
              refine z_seti (y := (nI (z.1 4))) (k0.trans (cnt_in (j := 0) (by decide))) ?_
              refine z_aload_n C (pc := 138) dL_stands_138 rfl ?_
              refine z_iconst C (pc := 139) (v := nI 0) dL_stands_139 (by decide) ?_
              have h_5 : vp_in (nI 0) 7 := by exact vp_in_nI (by omega) (by decide)
              refine z_iald C (pc := 140) 19 rfl h_5 dL_stands_140 ?_
              refine z_seti (y := (fb 0)) (by rw [nI_clamp (by omega)]) ?_
              refine z_seti (y := nI (z.1 4)) li0 ?_
              refine z_icmp_ne C (pc := 141) (tgt := 234) dL_stands_141 (by decide) (fun c_6 => ?_) (fun c_6 => ?_)
              · exact absurd rfl c_6
              · refine z_aload_n C (pc := 144) dL_stands_144 rfl ?_
                refine z_iconst C (pc := 145) (v := nI 1) dL_stands_145 (by decide) ?_
                refine z_calliL C (by exact fun _ => cW_ad) (runV C (wc := (cW cI a i4 r4)) (pc := 146) (rY' := rm 2 45) (nn := 1) (As := [.int (nI 1)]) (rest := []) (c_count l D cI tt a i4 r4 (nI 1) z hz4 vz) (apL_hC _ _) (full_nd _) ⟨rfl, rfl, ⟨Nat.le_of_ble_eq_true rfl, Nat.le_of_ble_eq_true rfl⟩, Nat.le_of_ble_eq_true rfl, Nat.le_of_ble_eq_true rfl⟩ wl_L_56 wm_X3_count we_X3_count wi_X3 wc_X3_count (by decide +kernel) rfl 0 rfl rfl rfl rfl (Nat.le_of_ble_eq_true rfl) dL_stands_146) (fun q_7 u_7 h_7 => ?_)
                obtain ⟨i7, r7⟩ := u_7
                try dsimp only at h_7
                obtain ⟨k0, hz7⟩ := h_7
                refine z_ws (st' := [.int q_7]) (ws' := ((cW cI a i7 r7) ++ [(ab, .inl (cI, 7, .inl fb)), (ad, .inl (cI, 9, .inl fd))])) rfl rfl ?_
                refine z_seti (y := (nI (pcn (z.1 5)))) (k0.trans (cnt_in (j := 1) (by decide))) ?_
                refine z_aload_n C (pc := 149) dL_stands_149 rfl ?_
                refine z_bipush C (pc := 150) (v := nI 6) dL_stands_150 (by decide) ?_
                have h_8 : vp_in (nI 6) 9 := by exact vp_in_nI (by omega) (by decide)
                refine z_iald C (pc := 152) 20 rfl h_8 dL_stands_152 ?_
                refine z_seti (y := (fd 6)) (by rw [nI_clamp (by omega)]) ?_
                refine z_seti (y := nI (z.1 5)) li3 ?_
                refine z_calli C (isC := []) rfl (by exact fun _ => rfl) (runS C (wc := []) (pc := 153) (rY' := rm 0 0) (nn := 1) (As := [.int (nI (z.1 5))]) (rest := [.int (nI (pcn (z.1 5)))]) (g_size l D cI tt (z.1 5) (by omega)) rfl rfl ⟨rfl, rfl, ⟨Nat.le_of_ble_eq_true rfl, Nat.le_of_ble_eq_true rfl⟩, Nat.le_of_ble_eq_true rfl, Nat.le_of_ble_eq_true rfl⟩ wl_L_59 ws_L_size wi_L wc_L_size (by decide +kernel) rfl rfl (Nat.le_of_ble_eq_true rfl) dL_stands_153) (fun r_9 u_9 h_9 => ?_)
                subst h_9
                refine z_ws (st' := [.int (nI (pcn (z.1 5))), .int (nI (pcn (z.1 5)))]) (ws' := ((cW cI a i7 r7) ++ [(ab, .inl (cI, 7, .inl fb)), (ad, .inl (cI, 9, .inl fd))])) rfl rfl ?_
                refine z_icmp_ne C (pc := 156) (tgt := 234) dL_stands_156 (by decide) (fun c_10 => ?_) (fun c_10 => ?_)
                · exact absurd rfl c_10
                · refine z_aload_n C (pc := 159) dL_stands_159 rfl ?_
                  refine z_iconst C (pc := 160) (v := nI 2) dL_stands_160 (by decide) ?_
                  refine z_calliL C (by exact fun _ => cW_ad) (runV C (wc := (cW cI a i7 r7)) (pc := 161) (rY' := rm 2 45) (nn := 1) (As := [.int (nI 2)]) (rest := []) (c_count l D cI tt a i7 r7 (nI 2) z hz7 vz) (apL_hC _ _) (full_nd _) ⟨rfl, rfl, ⟨Nat.le_of_ble_eq_true rfl, Nat.le_of_ble_eq_true rfl⟩, Nat.le_of_ble_eq_true rfl, Nat.le_of_ble_eq_true rfl⟩ wl_L_56 wm_X3_count we_X3_count wi_X3 wc_X3_count (by decide +kernel) rfl 0 rfl rfl rfl rfl (Nat.le_of_ble_eq_true rfl) dL_stands_161) (fun q_11 u_11 h_11 => ?_)
                  obtain ⟨i11, r11⟩ := u_11
                  try dsimp only at h_11
                  obtain ⟨k0, hz11⟩ := h_11
                  refine z_ws (st' := [.int q_11]) (ws' := ((cW cI a i11 r11) ++ [(ab, .inl (cI, 7, .inl fb)), (ad, .inl (cI, 9, .inl fd))])) rfl rfl ?_
                  refine z_seti (y := (nI (sumN (z.2.1 2)))) (k0.trans (cnt_in (j := 2) (by decide))) ?_
                  refine z_aload_n C (pc := 164) dL_stands_164 rfl ?_
                  refine z_calli C (isC := [20]) rfl (by exact fun _ => rfl) (runS C (wc := [(ad, .inl (cI, 9, .inl fd))]) (pc := 165) (rY' := rm 0 0) (nn := 1) (As := [.ref ad]) (rest := [.int (nI (sumN (z.2.1 2)))]) (g_lying l D cI tt ad fd (z.2.1 2) hdv) rfl rfl ⟨rfl, rfl, ⟨Nat.le_of_ble_eq_true rfl, Nat.le_of_ble_eq_true rfl⟩, Nat.le_of_ble_eq_true rfl, Nat.le_of_ble_eq_true rfl⟩ wl_L_62 ws_L_lying wi_L wc_L_lying (by decide +kernel) rfl rfl (Nat.le_of_ble_eq_true rfl) dL_stands_165) (fun r_12 u_12 h_12 => ?_)
                  subst h_12
                  refine z_ws (st' := [.int (nI (sumN (z.2.1 2))), .int (nI (sumN (z.2.1 2)))]) (ws' := ((cW cI a i11 r11) ++ [(ab, .inl (cI, 7, .inl fb)), (ad, .inl (cI, 9, .inl fd))])) rfl rfl ?_
                  refine z_icmp_ne C (pc := 168) (tgt := 234) dL_stands_168 (by decide) (fun c_13 => ?_) (fun c_13 => ?_)
                  · exact absurd rfl c_13
                  · refine z_aload_n C (pc := 171) dL_stands_171 rfl ?_
                    refine z_iconst C (pc := 172) (v := nI 3) dL_stands_172 (by decide) ?_
                    refine z_calliL C (by exact fun _ => cW_ad) (runV C (wc := (cW cI a i11 r11)) (pc := 173) (rY' := rm 2 45) (nn := 1) (As := [.int (nI 3)]) (rest := []) (c_count l D cI tt a i11 r11 (nI 3) z hz11 vz) (apL_hC _ _) (full_nd _) ⟨rfl, rfl, ⟨Nat.le_of_ble_eq_true rfl, Nat.le_of_ble_eq_true rfl⟩, Nat.le_of_ble_eq_true rfl, Nat.le_of_ble_eq_true rfl⟩ wl_L_56 wm_X3_count we_X3_count wi_X3 wc_X3_count (by decide +kernel) rfl 0 rfl rfl rfl rfl (Nat.le_of_ble_eq_true rfl) dL_stands_173) (fun q_14 u_14 h_14 => ?_)
                    obtain ⟨i14, r14⟩ := u_14
                    try dsimp only at h_14
                    obtain ⟨k0, hz14⟩ := h_14
                    refine z_ws (st' := [.int q_14]) (ws' := ((cW cI a i14 r14) ++ [(ab, .inl (cI, 7, .inl fb)), (ad, .inl (cI, 9, .inl fd))])) rfl rfl ?_
                    refine z_seti (y := (nI (z.1 6))) (k0.trans (cnt_in (j := 3) (by decide))) ?_
                    refine z_aload_n C (pc := 176) dL_stands_176 rfl ?_
                    refine z_bipush C (pc := 177) (v := nI 7) dL_stands_177 (by decide) ?_
                    have h_15 : vp_in (nI 7) 9 := by exact vp_in_nI (by omega) (by decide)
                    refine z_iald C (pc := 179) 20 rfl h_15 dL_stands_179 ?_
                    refine z_seti (y := (fd 7)) (by rw [nI_clamp (by omega)]) ?_
                    refine z_seti (y := nI (z.1 6)) li4 ?_
                    refine z_icmp_ne C (pc := 180) (tgt := 234) dL_stands_180 (by decide) (fun c_16 => ?_) (fun c_16 => ?_)
                    · exact absurd rfl c_16
                    · refine z_aload_n C (pc := 183) dL_stands_183 rfl ?_
                      refine z_iconst C (pc := 184) (v := nI 4) dL_stands_184 (by decide) ?_
                      refine z_calliL C (by exact fun _ => cW_ad) (runV C (wc := (cW cI a i14 r14)) (pc := 185) (rY' := rm 2 45) (nn := 1) (As := [.int (nI 4)]) (rest := []) (c_count l D cI tt a i14 r14 (nI 4) z hz14 vz) (apL_hC _ _) (full_nd _) ⟨rfl, rfl, ⟨Nat.le_of_ble_eq_true rfl, Nat.le_of_ble_eq_true rfl⟩, Nat.le_of_ble_eq_true rfl, Nat.le_of_ble_eq_true rfl⟩ wl_L_56 wm_X3_count we_X3_count wi_X3 wc_X3_count (by decide +kernel) rfl 0 rfl rfl rfl rfl (Nat.le_of_ble_eq_true rfl) dL_stands_185) (fun q_17 u_17 h_17 => ?_)
                      obtain ⟨i17, r17⟩ := u_17
                      try dsimp only at h_17
                      obtain ⟨k0, hz17⟩ := h_17
                      refine z_ws (st' := [.int q_17]) (ws' := ((cW cI a i17 r17) ++ [(ab, .inl (cI, 7, .inl fb)), (ad, .inl (cI, 9, .inl fd))])) rfl rfl ?_
                      refine z_seti (y := (nI (z.1 7))) (k0.trans (cnt_in (j := 4) (by decide))) ?_
                      refine z_aload_n C (pc := 188) dL_stands_188 rfl ?_
                      refine z_bipush C (pc := 189) (v := nI 8) dL_stands_189 (by decide) ?_
                      have h_18 : vp_in (nI 8) 9 := by exact vp_in_nI (by omega) (by decide)
                      refine z_iald C (pc := 191) 20 rfl h_18 dL_stands_191 ?_
                      refine z_seti (y := (fd 8)) (by rw [nI_clamp (by omega)]) ?_
                      refine z_seti (y := nI (z.1 7)) li5 ?_
                      refine z_icmp_ne C (pc := 192) (tgt := 234) dL_stands_192 (by decide) (fun c_19 => ?_) (fun c_19 => ?_)
                      · exact absurd rfl c_19
                      · refine z_aload_n C (pc := 195) dL_stands_195 rfl ?_
                        refine z_iconst C (pc := 196) (v := nI 5) dL_stands_196 (by decide) ?_
                        refine z_calliL C (by exact fun _ => cW_ad) (runV C (wc := (cW cI a i17 r17)) (pc := 197) (rY' := rm 2 45) (nn := 1) (As := [.int (nI 5)]) (rest := []) (c_count l D cI tt a i17 r17 (nI 5) z hz17 vz) (apL_hC _ _) (full_nd _) ⟨rfl, rfl, ⟨Nat.le_of_ble_eq_true rfl, Nat.le_of_ble_eq_true rfl⟩, Nat.le_of_ble_eq_true rfl, Nat.le_of_ble_eq_true rfl⟩ wl_L_56 wm_X3_count we_X3_count wi_X3 wc_X3_count (by decide +kernel) rfl 0 rfl rfl rfl rfl (Nat.le_of_ble_eq_true rfl) dL_stands_197) (fun q_20 u_20 h_20 => ?_)
                        obtain ⟨i20, r20⟩ := u_20
                        try dsimp only at h_20
                        obtain ⟨k0, hz20⟩ := h_20
                        refine z_ws (st' := [.int q_20]) (ws' := ((cW cI a i20 r20) ++ [(ab, .inl (cI, 7, .inl fb)), (ad, .inl (cI, 9, .inl fd))])) rfl rfl ?_
                        refine z_seti (y := (nI (sumk pls (z.2.1 1) (z.1 5) (z.1 4)))) (k0.trans (cnt_in (j := 5) (by decide))) ?_
                        refine z_aload_n C (pc := 200) dL_stands_200 rfl ?_
                        refine z_aload_n C (pc := 201) dL_stands_201 rfl ?_
                        refine z_bipush C (pc := 202) (v := nI 6) dL_stands_202 (by decide) ?_
                        have h_21 : vp_in (nI 6) 9 := by exact vp_in_nI (by omega) (by decide)
                        refine z_iald C (pc := 204) 20 rfl h_21 dL_stands_204 ?_
                        refine z_seti (y := (fd 6)) (by rw [nI_clamp (by omega)]) ?_
                        refine z_seti (y := nI (z.1 5)) li3 ?_
                        refine z_iconst C (pc := 205) (v := nI 0) dL_stands_205 (by decide) ?_
                        refine z_calli C (isC := [19]) rfl (by exact fun _ => rfl) (runS C (wc := [(ab, .inl (cI, 7, .inl fb))]) (pc := 206) (rY' := rm 1 21) (nn := 3) (As := [.ref ab, .int (nI (z.1 5)), .int (nI 0)]) (rest := [.int (nI (sumk pls (z.2.1 1) (z.1 5) (z.1 4)))]) (g_sumP l D cI tt ab fb (z.2.1 1) (z.1 4) hbv (z.1 5) (by omega)) rfl rfl ⟨rfl, rfl, ⟨Nat.le_of_ble_eq_true rfl, Nat.le_of_ble_eq_true rfl⟩, Nat.le_of_ble_eq_true rfl, Nat.le_of_ble_eq_true rfl⟩ wl_L_27 ws_L_sum wi_L wc_L_sum (by decide +kernel) rfl rfl (Nat.le_of_ble_eq_true rfl) dL_stands_206) (fun r_22 u_22 h_22 => ?_)
                        subst h_22
                        refine z_ws (st' := [.int (nI (sumk pls (z.2.1 1) (z.1 5) (z.1 4))), .int (nI (sumk pls (z.2.1 1) (z.1 5) (z.1 4)))]) (ws' := ((cW cI a i20 r20) ++ [(ab, .inl (cI, 7, .inl fb)), (ad, .inl (cI, 9, .inl fd))])) rfl rfl ?_
                        refine z_icmp_ne C (pc := 209) (tgt := 234) dL_stands_209 (by decide) (fun c_23 => ?_) (fun c_23 => ?_)
                        · exact absurd rfl c_23
                        · refine z_aload_n C (pc := 212) dL_stands_212 rfl ?_
                          refine z_bipush C (pc := 213) (v := nI 6) dL_stands_213 (by decide) ?_
                          refine z_calliL C (by exact fun _ => cW_ad) (runV C (wc := (cW cI a i20 r20)) (pc := 215) (rY' := rm 2 45) (nn := 1) (As := [.int (nI 6)]) (rest := []) (c_count l D cI tt a i20 r20 (nI 6) z hz20 vz) (apL_hC _ _) (full_nd _) ⟨rfl, rfl, ⟨Nat.le_of_ble_eq_true rfl, Nat.le_of_ble_eq_true rfl⟩, Nat.le_of_ble_eq_true rfl, Nat.le_of_ble_eq_true rfl⟩ wl_L_56 wm_X3_count we_X3_count wi_X3 wc_X3_count (by decide +kernel) rfl 0 rfl rfl rfl rfl (Nat.le_of_ble_eq_true rfl) dL_stands_215) (fun q_24 u_24 h_24 => ?_)
                          obtain ⟨i24, r24⟩ := u_24
                          try dsimp only at h_24
                          obtain ⟨k0, hz24⟩ := h_24
                          refine z_ws (st' := [.int q_24]) (ws' := ((cW cI a i24 r24) ++ [(ab, .inl (cI, 7, .inl fb)), (ad, .inl (cI, 9, .inl fd))])) rfl rfl ?_
                          refine z_seti (y := (nI (sumk ets (z.2.1 1) (z.1 5) (z.1 4)))) (k0.trans (cnt_in (j := 6) (by decide))) ?_
                          refine z_aload_n C (pc := 218) dL_stands_218 rfl ?_
                          refine z_aload_n C (pc := 219) dL_stands_219 rfl ?_
                          refine z_bipush C (pc := 220) (v := nI 6) dL_stands_220 (by decide) ?_
                          have h_25 : vp_in (nI 6) 9 := by exact vp_in_nI (by omega) (by decide)
                          refine z_iald C (pc := 222) 20 rfl h_25 dL_stands_222 ?_
                          refine z_seti (y := (fd 6)) (by rw [nI_clamp (by omega)]) ?_
                          refine z_seti (y := nI (z.1 5)) li3 ?_
                          refine z_iconst C (pc := 223) (v := nI 1) dL_stands_223 (by decide) ?_
                          refine z_calli C (isC := [19]) rfl (by exact fun _ => rfl) (runS C (wc := [(ab, .inl (cI, 7, .inl fb))]) (pc := 224) (rY' := rm 1 21) (nn := 3) (As := [.ref ab, .int (nI (z.1 5)), .int (nI 1)]) (rest := [.int (nI (sumk ets (z.2.1 1) (z.1 5) (z.1 4)))]) (g_sumE l D cI tt ab fb (z.2.1 1) (z.1 4) hbv (z.1 5) (by omega)) rfl rfl ⟨rfl, rfl, ⟨Nat.le_of_ble_eq_true rfl, Nat.le_of_ble_eq_true rfl⟩, Nat.le_of_ble_eq_true rfl, Nat.le_of_ble_eq_true rfl⟩ wl_L_27 ws_L_sum wi_L wc_L_sum (by decide +kernel) rfl rfl (Nat.le_of_ble_eq_true rfl) dL_stands_224) (fun r_26 u_26 h_26 => ?_)
                          subst h_26
                          refine z_ws (st' := [.int (nI (sumk ets (z.2.1 1) (z.1 5) (z.1 4))), .int (nI (sumk ets (z.2.1 1) (z.1 5) (z.1 4)))]) (ws' := ((cW cI a i24 r24) ++ [(ab, .inl (cI, 7, .inl fb)), (ad, .inl (cI, 9, .inl fd))])) rfl rfl ?_
                          refine z_icmp_ne C (pc := 227) (tgt := 234) dL_stands_227 (by decide) (fun c_27 => ?_) (fun c_27 => ?_)
                          · exact absurd rfl c_27
                          · refine z_iconst C (pc := 230) (v := nI 1) dL_stands_230 (by decide) ?_
                            refine z_goto C (pc := 231) (tgt := 235) dL_stands_231 (by decide) ?_
                            refine z_zret C (pc := 235) (i24, r24) dL_stands_235 rfl ?_ rfl
                            exact ⟨rfl, hz24⟩
            · have hq : q < 6 := lt_of_nI (n := 6) c_3 (by omega)
              have hdq : fd q = nI (z.2.1 2 (q - 1)) := by
                have := li2 (q - 1) (by omega)
                rwa [show q - 1 + 1 = q by omega] at this
              refine z_aload_n C (pc := 113) dL_stands_113 rfl ?_
              refine z_iload_n C (pc := 114) dL_stands_114 rfl ?_
              refine z_iconst C (pc := 115) (v := nI 0) dL_stands_115 (by decide) ?_
              refine z_calliL C (by exact fun _ => cW_ad) (runV C (wc := (cW cI a i2 r2)) (pc := 116) (rY' := rm 6 144) (nn := 2) (As := [.int (nI q), .int (nI 0)]) (rest := []) (c_cairn l D cI tt a i2 r2 (nI q) (nI 0) z hz2 vz) (apL_hC _ _) (full_nd _) ⟨rfl, rfl, ⟨Nat.le_of_ble_eq_true rfl, Nat.le_of_ble_eq_true rfl⟩, Nat.le_of_ble_eq_true rfl, Nat.le_of_ble_eq_true rfl⟩ wl_L_53 wm_X3_cairn we_X3_cairn wi_X3 wc_X3_cairn (by decide +kernel) rfl 0 rfl rfl rfl rfl (Nat.le_of_ble_eq_true rfl) dL_stands_116) (fun q_28 u_28 h_28 => ?_)
              obtain ⟨i28, r28⟩ := u_28
              try dsimp only at h_28
              obtain ⟨k0, hz28⟩ := h_28
              refine z_ws (st' := [.int q_28]) (ws' := ((cW cI a i28 r28) ++ [(ab, .inl (cI, 7, .inl fb)), (ad, .inl (cI, 9, .inl fd))])) rfl rfl ?_
              refine z_seti (y := (nI (z.2.1 2 (q - 1)))) (k0.trans (cai_0 (by omega) (by omega) (by omega))) ?_
              refine z_aload_n C (pc := 119) dL_stands_119 rfl ?_
              refine z_iload_n C (pc := 120) dL_stands_120 rfl ?_
              have h_29 : vp_in (nI q) 9 := by exact vp_in_nI (by omega) (by decide)
              refine z_iald C (pc := 121) 20 rfl h_29 dL_stands_121 ?_
              refine z_seti (y := (fd q)) (by rw [nI_clamp (by omega)]) ?_
              refine z_seti (y := nI (z.2.1 2 (q - 1))) hdq ?_
              refine z_icmp_eq C (pc := 122) (tgt := 127) dL_stands_122 (by decide) (fun c_30 => ?_) (fun c_30 => ?_)
              · refine z_iinc C (pc := 127) (v := ((nI q) + 1)) (lv' := [(0, .ref (a 0)), (1, .ref ab), (2, .ref ad), (3, .int ((nI q) + 1))]) dL_stands_127 rfl rfl (Nat.le_of_ble_eq_true rfl) rfl rfl ?_
                refine z_goto C (pc := 130) (tgt := 107) dL_stands_130 (by decide) ?_
                refine z_lv (lv' := [(0, .ref (a 0)), (1, .ref ab), (2, .ref ad), (3, .int (nI (q + 1)))]) ⟨rfl, rfl, rfl, lki (nI_1 q), trivial⟩ ?_
                exact ih107 (q + 1) i28 r28 (by omega) (by omega) hq hz28
              · exact absurd rfl c_30
        refine z_lv (lv' := [(0, .ref (a 0)), (1, .ref ab), (2, .ref ad), (3, .int (nI 1))]) ⟨rfl, rfl, rfl, rfl, trivial⟩ ?_
        exact key107 (_ + 1) 1 i' r' (Nat.lt_succ_self _) (Nat.le_refl _) (by decide) hz'
      · have hk : k < z.1 4 := lt_of_nI c_2 (by omega)
        have hbk := hbv.2.2 k hk
        refine z_aload_n C (pc := 9) dL_stands_9 rfl ?_
        refine z_iload_n C (pc := 10) dL_stands_10 rfl ?_
        refine z_iconst C (pc := 11) (v := nI 0) dL_stands_11 (by decide) ?_
        refine z_calliL C (by exact fun _ => cW_ad) (runV C (wc := (cW cI a i' r')) (pc := 12) (rY' := rm 1 21) (nn := 2) (As := [.int (nI k), .int (nI 0)]) (rest := []) (c_member l D cI tt a i' r' (nI k) (nI 0) z hz' vz) (apL_hC _ _) (full_nd _) ⟨rfl, rfl, ⟨Nat.le_of_ble_eq_true rfl, Nat.le_of_ble_eq_true rfl⟩, Nat.le_of_ble_eq_true rfl, Nat.le_of_ble_eq_true rfl⟩ wl_L_50 wm_X3_member we_X3_member wi_X3 wc_X3_member (by decide +kernel) rfl 0 rfl rfl rfl rfl (Nat.le_of_ble_eq_true rfl) dL_stands_12) (fun q_31 u_31 h_31 => ?_)
        obtain ⟨i31, r31⟩ := u_31
        try dsimp only at h_31
        obtain ⟨k0, hz31⟩ := h_31
        refine z_ws (st' := [.int q_31]) (ws' := ((cW cI a i31 r31) ++ [(ab, .inl (cI, 7, .inl fb)), (ad, .inl (cI, 9, .inl fd))])) rfl rfl ?_
        refine z_seti (y := (nI (z.2.1 1 k))) (k0.trans (mem_0 v4 hk)) ?_
        refine z_aload_n C (pc := 15) dL_stands_15 rfl ?_
        refine z_iconst C (pc := 16) (v := nI 1) dL_stands_16 (by decide) ?_
        refine z_iload_n C (pc := 17) dL_stands_17 rfl ?_
        refine z_iadd C (pc := 18) dL_stands_18 ?_
        refine z_seti (y := nI (1 + k)) (nI_add _ _) ?_
        have h_32 : vp_in (nI (1 + k)) 7 := by exact vp_in_nI (by omega) (by decide)
        refine z_iald C (pc := 19) 19 rfl h_32 dL_stands_19 ?_
        refine z_seti (y := (fb (1 + k))) (by rw [nI_clamp (by omega)]) ?_
        refine z_seti (y := nI (z.2.1 1 k)) (by rw [Nat.add_comm]; exact hbk.1) ?_
        refine z_icmp_ne C (pc := 20) (tgt := 97) dL_stands_20 (by decide) (fun c_33 => ?_) (fun c_33 => ?_)
        · exact absurd rfl c_33
        · refine z_aload_n C (pc := 23) dL_stands_23 rfl ?_
          refine z_iload_n C (pc := 24) dL_stands_24 rfl ?_
          refine z_iconst C (pc := 25) (v := nI 1) dL_stands_25 (by decide) ?_
          refine z_calliL C (by exact fun _ => cW_ad) (runV C (wc := (cW cI a i31 r31)) (pc := 26) (rY' := rm 1 21) (nn := 2) (As := [.int (nI k), .int (nI 1)]) (rest := []) (c_member l D cI tt a i31 r31 (nI k) (nI 1) z hz31 vz) (apL_hC _ _) (full_nd _) ⟨rfl, rfl, ⟨Nat.le_of_ble_eq_true rfl, Nat.le_of_ble_eq_true rfl⟩, Nat.le_of_ble_eq_true rfl, Nat.le_of_ble_eq_true rfl⟩ wl_L_50 wm_X3_member we_X3_member wi_X3 wc_X3_member (by decide +kernel) rfl 0 rfl rfl rfl rfl (Nat.le_of_ble_eq_true rfl) dL_stands_26) (fun q_34 u_34 h_34 => ?_)
          obtain ⟨i34, r34⟩ := u_34
          try dsimp only at h_34
          obtain ⟨k0, hz34⟩ := h_34
          refine z_ws (st' := [.int q_34]) (ws' := ((cW cI a i34 r34) ++ [(ab, .inl (cI, 7, .inl fb)), (ad, .inl (cI, 9, .inl fd))])) rfl rfl ?_
          refine z_seti (y := (nI (pls (z.2.1 1 k)))) (k0.trans (mem_1 v4 hk)) ?_
          refine z_aload_n C (pc := 29) dL_stands_29 rfl ?_
          refine z_iconst C (pc := 30) (v := nI 1) dL_stands_30 (by decide) ?_
          refine z_iload_n C (pc := 31) dL_stands_31 rfl ?_
          refine z_iadd C (pc := 32) dL_stands_32 ?_
          refine z_seti (y := nI (1 + k)) (nI_add _ _) ?_
          have h_35 : vp_in (nI (1 + k)) 7 := by exact vp_in_nI (by omega) (by decide)
          refine z_iald C (pc := 33) 19 rfl h_35 dL_stands_33 ?_
          refine z_seti (y := (fb (1 + k))) (by rw [nI_clamp (by omega)]) ?_
          refine z_seti (y := nI (z.2.1 1 k)) (by rw [Nat.add_comm]; exact hbk.1) ?_
          refine z_calli C (isC := []) rfl (by exact fun _ => rfl) (runS C (wc := []) (pc := 34) (rY' := rm 0 0) (nn := 1) (As := [.int (nI (z.2.1 1 k))]) (rest := [.int (nI (pls (z.2.1 1 k)))]) (g_pulls l D cI tt (z.2.1 1 k) hbk.2) rfl rfl ⟨rfl, rfl, ⟨Nat.le_of_ble_eq_true rfl, Nat.le_of_ble_eq_true rfl⟩, Nat.le_of_ble_eq_true rfl, Nat.le_of_ble_eq_true rfl⟩ wl_L_24 ws_L_pulls wi_L wc_L_pulls (by decide +kernel) rfl rfl (Nat.le_of_ble_eq_true rfl) dL_stands_34) (fun r_36 u_36 h_36 => ?_)
          subst h_36
          refine z_ws (st' := [.int (nI (pls (z.2.1 1 k))), .int (nI (pls (z.2.1 1 k)))]) (ws' := ((cW cI a i34 r34) ++ [(ab, .inl (cI, 7, .inl fb)), (ad, .inl (cI, 9, .inl fd))])) rfl rfl ?_
          refine z_icmp_ne C (pc := 37) (tgt := 97) dL_stands_37 (by decide) (fun c_37 => ?_) (fun c_37 => ?_)
          · exact absurd rfl c_37
          · refine z_aload_n C (pc := 40) dL_stands_40 rfl ?_
            refine z_iload_n C (pc := 41) dL_stands_41 rfl ?_
            refine z_iconst C (pc := 42) (v := nI 2) dL_stands_42 (by decide) ?_
            refine z_calliL C (by exact fun _ => cW_ad) (runV C (wc := (cW cI a i34 r34)) (pc := 43) (rY' := rm 1 21) (nn := 2) (As := [.int (nI k), .int (nI 2)]) (rest := []) (c_member l D cI tt a i34 r34 (nI k) (nI 2) z hz34 vz) (apL_hC _ _) (full_nd _) ⟨rfl, rfl, ⟨Nat.le_of_ble_eq_true rfl, Nat.le_of_ble_eq_true rfl⟩, Nat.le_of_ble_eq_true rfl, Nat.le_of_ble_eq_true rfl⟩ wl_L_50 wm_X3_member we_X3_member wi_X3 wc_X3_member (by decide +kernel) rfl 0 rfl rfl rfl rfl (Nat.le_of_ble_eq_true rfl) dL_stands_43) (fun q_38 u_38 h_38 => ?_)
            obtain ⟨i38, r38⟩ := u_38
            try dsimp only at h_38
            obtain ⟨k0, hz38⟩ := h_38
            refine z_ws (st' := [.int q_38]) (ws' := ((cW cI a i38 r38) ++ [(ab, .inl (cI, 7, .inl fb)), (ad, .inl (cI, 9, .inl fd))])) rfl rfl ?_
            refine z_seti (y := (nI (ets (z.2.1 1 k)))) (k0.trans (mem_2 v4 hk)) ?_
            refine z_aload_n C (pc := 46) dL_stands_46 rfl ?_
            refine z_iconst C (pc := 47) (v := nI 1) dL_stands_47 (by decide) ?_
            refine z_iload_n C (pc := 48) dL_stands_48 rfl ?_
            refine z_iadd C (pc := 49) dL_stands_49 ?_
            refine z_seti (y := nI (1 + k)) (nI_add _ _) ?_
            have h_39 : vp_in (nI (1 + k)) 7 := by exact vp_in_nI (by omega) (by decide)
            refine z_iald C (pc := 50) 19 rfl h_39 dL_stands_50 ?_
            refine z_seti (y := (fb (1 + k))) (by rw [nI_clamp (by omega)]) ?_
            refine z_seti (y := nI (z.2.1 1 k)) (by rw [Nat.add_comm]; exact hbk.1) ?_
            refine z_iconst C (pc := 51) (v := nI 1) dL_stands_51 (by decide) ?_
            refine z_icmp_ne C (pc := 52) (tgt := 59) dL_stands_52 (by decide) (fun c_40 => ?_) (fun c_40 => ?_)
            · have hke : ¬ (z.2.1 1 k) = 1 := fun e => c_40 (by rw [e])
              have het : ets (z.2.1 1 k) = 1 := (show ∀ t, t < 5 → ¬ t = 1 → ets t = 1 by decide) _ (by have := hbk.2; omega) hke
              refine z_iconst C (pc := 59) (v := nI 1) dL_stands_59 (by decide) ?_
              refine z_icmp_ne C (pc := 60) (tgt := 97) dL_stands_60 (by decide) (fun c_41 => ?_) (fun c_41 => ?_)
              · exact absurd (by rw [het]) c_41
              · refine z_aload_n C (pc := 63) dL_stands_63 rfl ?_
                refine z_iload_n C (pc := 64) dL_stands_64 rfl ?_
                refine z_iconst C (pc := 65) (v := nI 3) dL_stands_65 (by decide) ?_
                refine z_calliL C (by exact fun _ => cW_ad) (runV C (wc := (cW cI a i38 r38)) (pc := 66) (rY' := rm 1 21) (nn := 2) (As := [.int (nI k), .int (nI 3)]) (rest := []) (c_member l D cI tt a i38 r38 (nI k) (nI 3) z hz38 vz) (apL_hC _ _) (full_nd _) ⟨rfl, rfl, ⟨Nat.le_of_ble_eq_true rfl, Nat.le_of_ble_eq_true rfl⟩, Nat.le_of_ble_eq_true rfl, Nat.le_of_ble_eq_true rfl⟩ wl_L_50 wm_X3_member we_X3_member wi_X3 wc_X3_member (by decide +kernel) rfl 0 rfl rfl rfl rfl (Nat.le_of_ble_eq_true rfl) dL_stands_66) (fun q_42 u_42 h_42 => ?_)
                obtain ⟨i42, r42⟩ := u_42
                try dsimp only at h_42
                obtain ⟨k0, hz42⟩ := h_42
                refine z_ws (st' := [.int q_42]) (ws' := ((cW cI a i42 r42) ++ [(ab, .inl (cI, 7, .inl fb)), (ad, .inl (cI, 9, .inl fd))])) rfl rfl ?_
                refine z_seti (y := (nI (fds (z.2.1 1 k)))) (k0.trans (mem_3 v4 hk)) ?_
                refine z_aload_n C (pc := 69) dL_stands_69 rfl ?_
                refine z_iconst C (pc := 70) (v := nI 1) dL_stands_70 (by decide) ?_
                refine z_iload_n C (pc := 71) dL_stands_71 rfl ?_
                refine z_iadd C (pc := 72) dL_stands_72 ?_
                refine z_seti (y := nI (1 + k)) (nI_add _ _) ?_
                have h_43 : vp_in (nI (1 + k)) 7 := by exact vp_in_nI (by omega) (by decide)
                refine z_iald C (pc := 73) 19 rfl h_43 dL_stands_73 ?_
                refine z_seti (y := (fb (1 + k))) (by rw [nI_clamp (by omega)]) ?_
                refine z_seti (y := nI (z.2.1 1 k)) (by rw [Nat.add_comm]; exact hbk.1) ?_
                refine z_calli C (isC := []) rfl (by exact fun _ => rfl) (runS C (wc := []) (pc := 74) (rY' := rm 0 0) (nn := 1) (As := [.int (nI (z.2.1 1 k))]) (rest := [.int (nI (fds (z.2.1 1 k)))]) (g_feeds l D cI tt (z.2.1 1 k) hbk.2) rfl rfl ⟨rfl, rfl, ⟨Nat.le_of_ble_eq_true rfl, Nat.le_of_ble_eq_true rfl⟩, Nat.le_of_ble_eq_true rfl, Nat.le_of_ble_eq_true rfl⟩ wl_L_31 ws_L_feeds wi_L wc_L_feeds (by decide +kernel) rfl rfl (Nat.le_of_ble_eq_true rfl) dL_stands_74) (fun r_44 u_44 h_44 => ?_)
                subst h_44
                refine z_ws (st' := [.int (nI (fds (z.2.1 1 k))), .int (nI (fds (z.2.1 1 k)))]) (ws' := ((cW cI a i42 r42) ++ [(ab, .inl (cI, 7, .inl fb)), (ad, .inl (cI, 9, .inl fd))])) rfl rfl ?_
                refine z_icmp_ne C (pc := 77) (tgt := 97) dL_stands_77 (by decide) (fun c_45 => ?_) (fun c_45 => ?_)
                · exact absurd rfl c_45
                · refine z_aload_n C (pc := 80) dL_stands_80 rfl ?_
                  refine z_iload_n C (pc := 81) dL_stands_81 rfl ?_
                  refine z_iconst C (pc := 82) (v := nI 4) dL_stands_82 (by decide) ?_
                  refine z_calliL C (by exact fun _ => cW_ad) (runV C (wc := (cW cI a i42 r42)) (pc := 83) (rY' := rm 1 21) (nn := 2) (As := [.int (nI k), .int (nI 4)]) (rest := []) (c_member l D cI tt a i42 r42 (nI k) (nI 4) z hz42 vz) (apL_hC _ _) (full_nd _) ⟨rfl, rfl, ⟨Nat.le_of_ble_eq_true rfl, Nat.le_of_ble_eq_true rfl⟩, Nat.le_of_ble_eq_true rfl, Nat.le_of_ble_eq_true rfl⟩ wl_L_50 wm_X3_member we_X3_member wi_X3 wc_X3_member (by decide +kernel) rfl 0 rfl rfl rfl rfl (Nat.le_of_ble_eq_true rfl) dL_stands_83) (fun q_46 u_46 h_46 => ?_)
                  obtain ⟨i46, r46⟩ := u_46
                  try dsimp only at h_46
                  obtain ⟨k0, hz46⟩ := h_46
                  refine z_ws (st' := [.int q_46]) (ws' := ((cW cI a i46 r46) ++ [(ab, .inl (cI, 7, .inl fb)), (ad, .inl (cI, 9, .inl fd))])) rfl rfl ?_
                  refine z_seti (y := (nI (bt (z.1 5) k))) (k0.trans (mem_4 v4 hk)) ?_
                  refine z_aload_n C (pc := 86) dL_stands_86 rfl ?_
                  refine z_bipush C (pc := 87) (v := nI 6) dL_stands_87 (by decide) ?_
                  have h_47 : vp_in (nI 6) 9 := by exact vp_in_nI (by omega) (by decide)
                  refine z_iald C (pc := 89) 20 rfl h_47 dL_stands_89 ?_
                  refine z_seti (y := (fd 6)) (by rw [nI_clamp (by omega)]) ?_
                  refine z_seti (y := nI (z.1 5)) li3 ?_
                  refine z_iload_n C (pc := 90) dL_stands_90 rfl ?_
                  refine z_ishr C (pc := 91) dL_stands_91 ?_
                  refine z_iconst C (pc := 92) (v := nI 1) dL_stands_92 (by decide) ?_
                  refine z_iand C (pc := 93) dL_stands_93 ?_
                  refine z_seti (y := nI (bt (z.1 5) k)) (shr_bt (by omega) (by omega)) ?_
                  refine z_icmp_eq C (pc := 94) (tgt := 99) dL_stands_94 (by decide) (fun c_48 => ?_) (fun c_48 => ?_)
                  · refine z_iinc C (pc := 99) (v := ((nI k) + 1)) (lv' := [(0, .ref (a 0)), (1, .ref ab), (2, .ref ad), (3, .int ((nI k) + 1))]) dL_stands_99 rfl rfl (Nat.le_of_ble_eq_true rfl) rfl rfl ?_
                    refine z_goto C (pc := 102) (tgt := 2) dL_stands_102 (by decide) ?_
                    refine z_lv (lv' := [(0, .ref (a 0)), (1, .ref ab), (2, .ref ad), (3, .int (nI (k + 1)))]) ⟨rfl, rfl, rfl, lki (nI_1 k), trivial⟩ ?_
                    exact ih2 (k + 1) i46 r46 (by omega) hk hz46
                  · exact absurd rfl c_48
            · have hke : (z.2.1 1 k) = 1 := (nI_eq (by have := hbk.2; omega) (by decide)).mp c_40
              have het : ets (z.2.1 1 k) = 2 := by rw [hke]; rfl
              refine z_iconst C (pc := 55) (v := nI 2) dL_stands_55 (by decide) ?_
              refine z_goto C (pc := 56) (tgt := 60) dL_stands_56 (by decide) ?_
              refine z_icmp_ne C (pc := 60) (tgt := 97) dL_stands_60 (by decide) (fun c_49 => ?_) (fun c_49 => ?_)
              · exact absurd (by rw [het]) c_49
              · refine z_aload_n C (pc := 63) dL_stands_63 rfl ?_
                refine z_iload_n C (pc := 64) dL_stands_64 rfl ?_
                refine z_iconst C (pc := 65) (v := nI 3) dL_stands_65 (by decide) ?_
                refine z_calliL C (by exact fun _ => cW_ad) (runV C (wc := (cW cI a i38 r38)) (pc := 66) (rY' := rm 1 21) (nn := 2) (As := [.int (nI k), .int (nI 3)]) (rest := []) (c_member l D cI tt a i38 r38 (nI k) (nI 3) z hz38 vz) (apL_hC _ _) (full_nd _) ⟨rfl, rfl, ⟨Nat.le_of_ble_eq_true rfl, Nat.le_of_ble_eq_true rfl⟩, Nat.le_of_ble_eq_true rfl, Nat.le_of_ble_eq_true rfl⟩ wl_L_50 wm_X3_member we_X3_member wi_X3 wc_X3_member (by decide +kernel) rfl 0 rfl rfl rfl rfl (Nat.le_of_ble_eq_true rfl) dL_stands_66) (fun q_50 u_50 h_50 => ?_)
                obtain ⟨i50, r50⟩ := u_50
                try dsimp only at h_50
                obtain ⟨k0, hz50⟩ := h_50
                refine z_ws (st' := [.int q_50]) (ws' := ((cW cI a i50 r50) ++ [(ab, .inl (cI, 7, .inl fb)), (ad, .inl (cI, 9, .inl fd))])) rfl rfl ?_
                refine z_seti (y := (nI (fds (z.2.1 1 k)))) (k0.trans (mem_3 v4 hk)) ?_
                refine z_aload_n C (pc := 69) dL_stands_69 rfl ?_
                refine z_iconst C (pc := 70) (v := nI 1) dL_stands_70 (by decide) ?_
                refine z_iload_n C (pc := 71) dL_stands_71 rfl ?_
                refine z_iadd C (pc := 72) dL_stands_72 ?_
                refine z_seti (y := nI (1 + k)) (nI_add _ _) ?_
                have h_51 : vp_in (nI (1 + k)) 7 := by exact vp_in_nI (by omega) (by decide)
                refine z_iald C (pc := 73) 19 rfl h_51 dL_stands_73 ?_
                refine z_seti (y := (fb (1 + k))) (by rw [nI_clamp (by omega)]) ?_
                refine z_seti (y := nI (z.2.1 1 k)) (by rw [Nat.add_comm]; exact hbk.1) ?_
                refine z_calli C (isC := []) rfl (by exact fun _ => rfl) (runS C (wc := []) (pc := 74) (rY' := rm 0 0) (nn := 1) (As := [.int (nI (z.2.1 1 k))]) (rest := [.int (nI (fds (z.2.1 1 k)))]) (g_feeds l D cI tt (z.2.1 1 k) hbk.2) rfl rfl ⟨rfl, rfl, ⟨Nat.le_of_ble_eq_true rfl, Nat.le_of_ble_eq_true rfl⟩, Nat.le_of_ble_eq_true rfl, Nat.le_of_ble_eq_true rfl⟩ wl_L_31 ws_L_feeds wi_L wc_L_feeds (by decide +kernel) rfl rfl (Nat.le_of_ble_eq_true rfl) dL_stands_74) (fun r_52 u_52 h_52 => ?_)
                subst h_52
                refine z_ws (st' := [.int (nI (fds (z.2.1 1 k))), .int (nI (fds (z.2.1 1 k)))]) (ws' := ((cW cI a i50 r50) ++ [(ab, .inl (cI, 7, .inl fb)), (ad, .inl (cI, 9, .inl fd))])) rfl rfl ?_
                refine z_icmp_ne C (pc := 77) (tgt := 97) dL_stands_77 (by decide) (fun c_53 => ?_) (fun c_53 => ?_)
                · exact absurd rfl c_53
                · refine z_aload_n C (pc := 80) dL_stands_80 rfl ?_
                  refine z_iload_n C (pc := 81) dL_stands_81 rfl ?_
                  refine z_iconst C (pc := 82) (v := nI 4) dL_stands_82 (by decide) ?_
                  refine z_calliL C (by exact fun _ => cW_ad) (runV C (wc := (cW cI a i50 r50)) (pc := 83) (rY' := rm 1 21) (nn := 2) (As := [.int (nI k), .int (nI 4)]) (rest := []) (c_member l D cI tt a i50 r50 (nI k) (nI 4) z hz50 vz) (apL_hC _ _) (full_nd _) ⟨rfl, rfl, ⟨Nat.le_of_ble_eq_true rfl, Nat.le_of_ble_eq_true rfl⟩, Nat.le_of_ble_eq_true rfl, Nat.le_of_ble_eq_true rfl⟩ wl_L_50 wm_X3_member we_X3_member wi_X3 wc_X3_member (by decide +kernel) rfl 0 rfl rfl rfl rfl (Nat.le_of_ble_eq_true rfl) dL_stands_83) (fun q_54 u_54 h_54 => ?_)
                  obtain ⟨i54, r54⟩ := u_54
                  try dsimp only at h_54
                  obtain ⟨k0, hz54⟩ := h_54
                  refine z_ws (st' := [.int q_54]) (ws' := ((cW cI a i54 r54) ++ [(ab, .inl (cI, 7, .inl fb)), (ad, .inl (cI, 9, .inl fd))])) rfl rfl ?_
                  refine z_seti (y := (nI (bt (z.1 5) k))) (k0.trans (mem_4 v4 hk)) ?_
                  refine z_aload_n C (pc := 86) dL_stands_86 rfl ?_
                  refine z_bipush C (pc := 87) (v := nI 6) dL_stands_87 (by decide) ?_
                  have h_55 : vp_in (nI 6) 9 := by exact vp_in_nI (by omega) (by decide)
                  refine z_iald C (pc := 89) 20 rfl h_55 dL_stands_89 ?_
                  refine z_seti (y := (fd 6)) (by rw [nI_clamp (by omega)]) ?_
                  refine z_seti (y := nI (z.1 5)) li3 ?_
                  refine z_iload_n C (pc := 90) dL_stands_90 rfl ?_
                  refine z_ishr C (pc := 91) dL_stands_91 ?_
                  refine z_iconst C (pc := 92) (v := nI 1) dL_stands_92 (by decide) ?_
                  refine z_iand C (pc := 93) dL_stands_93 ?_
                  refine z_seti (y := nI (bt (z.1 5) k)) (shr_bt (by omega) (by omega)) ?_
                  refine z_icmp_eq C (pc := 94) (tgt := 99) dL_stands_94 (by decide) (fun c_56 => ?_) (fun c_56 => ?_)
                  · refine z_iinc C (pc := 99) (v := ((nI k) + 1)) (lv' := [(0, .ref (a 0)), (1, .ref ab), (2, .ref ad), (3, .int ((nI k) + 1))]) dL_stands_99 rfl rfl (Nat.le_of_ble_eq_true rfl) rfl rfl ?_
                    refine z_goto C (pc := 102) (tgt := 2) dL_stands_102 (by decide) ?_
                    refine z_lv (lv' := [(0, .ref (a 0)), (1, .ref ab), (2, .ref ad), (3, .int (nI (k + 1)))]) ⟨rfl, rfl, rfl, lki (nI_1 k), trivial⟩ ?_
                    exact ih2 (k + 1) i54 r54 (by omega) hk hz54
                  · exact absurd rfl c_56
  refine z_lv (lv' := [(0, .ref (a 0)), (1, .ref ab), (2, .ref ad), (3, .int (nI 0))]) ⟨rfl, rfl, rfl, rfl, trivial⟩ ?_
  exact key2 (_ + 1) 0 i r (Nat.lt_succ_self _) (Nat.zero_le _) hz
