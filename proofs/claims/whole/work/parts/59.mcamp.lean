theorem ml_camp {z : SG} {i : Nat → Int32} {r r' : Nat → Nat → Int32} {x3 x4 : Int32} (h : Mdl z i r) (hb : campb z.2.2 (z.1 3) = true) (h3' : x3 = nI (z.1 3 - 6)) (h4' : x4 = nI (2 ^ (z.1 3 - 6) - 1)) (hr1 : ∀ k, k < z.1 3 - 6 → r' 1 k = nI (kdn (z.2.2 k))) (hr2 : ∀ k, k < 5 → r' 2 (k + 1) = nI (fdn (z.2.2 (z.1 3 - 5 + k)))) :
    Mdl (campF z).2 (upd (upd (upd (upd (upd (upd (upd i 3 x3) 4 x4) 5 0) 6 0) 15 0) 7 (i 7 + 1)) 1 0) r' := by
  obtain ⟨⟨h1, h3, h4, h5, h6, h7, h14, h15, h20⟩, ⟨p0, p1, p2, p3⟩, hk⟩ := h
  unfold campF
  rw [if_pos hb]
  refine ⟨⟨rfl, h3', h4', rfl, rfl, ?_, h14, rfl, h20⟩, ⟨fun k hk => absurd hk (Nat.not_lt_zero k), hr1, hr2, fun k hk => absurd hk (Nat.not_lt_zero k)⟩, fun g => absurd g (show ¬ (0 : Nat) = 1 by decide)⟩
  show i 7 + 1 = nI (z.1 1 + 1)
  rw [h7, nI_1]
set_option maxHeartbeats 4000000 in
set_option maxRecDepth 100000 in
theorem m_camp (l : Launch) (D : va_G) (cI : ClassId) (tt : Nat × Nat × Nat) (b : Nat → Nat) (i : Nat → Int32) (r : Nat → Nat → Int32) (h : Int64) (z : SG) (hz : Mdl z i r) (vz : VS z) : MetI (S := ((Nat → Int32) × (Nat → Nat → Int32))) l yX4_camp cX4_camp 2 (some .int) (rm 3 68) D cI tt [.ref (b 0)] (mW cI b i r h) (fun q u => q = (campF z).1 ∧ Mdl (campF z).2 u.1 u.2) (fun u => mW cI b u.1 u.2 h) := by
  have hv := hz.pv vz
  have hc := hz.c vz
  have hh := hz.hv vz
  have hn6 := vz.2.2.2.1
  have hx6 := pow_le6 hn6
  have v3 := vz.2.2.1
  have v5 := vz.2.2.2.2.1
  have v8 := vz.2.2.2.2.2.1
  refine met_ofI (by decide) (Nat.le_of_ble_eq_true rfl) ?_
  intro pP eE sS mM aV bB mE cC AA C hin
  refine z_conv (lv' := [(0, .ref (b 0))]) ⟨rfl, trivial⟩ rfl rfl ?_
  refine z_aload_n C (pc := 0) dX4_camp_0 rfl ?_
  refine z_calliF C (by exact fun _ => mW_ad) (runV C (wc := (mW cI b i r h)) (pc := 1) (rY' := rm 2 47) (nn := 0) (As := []) (rest := []) (m_faultOf l D cI tt b i r h (z.1 3) hz.i1 vz.2.2.1) (full_hC _) (full_nd _) ⟨rfl, rfl, ⟨Nat.le_of_ble_eq_true rfl, Nat.le_of_ble_eq_true rfl⟩, Nat.le_of_ble_eq_true rfl, Nat.le_of_ble_eq_true rfl⟩ wl_X4_65 wm_X4_faultOf we_X4_faultOf wi_X4 wc_X4_faultOf (by decide +kernel) rfl 0 rfl rfl rfl rfl (Nat.le_of_ble_eq_true rfl) dX4_camp_1) (fun q_1 u_1 h_1 => ?_)
  generalize u_1 = i1 at h_1 ⊢
  obtain ⟨k0, k1, k2⟩ := h_1
  have hsc : scv (r 0) (z.1 3) 0 0 = (scv z.2.2 (z.1 3) 0 0) := scv_congr hz.2.1.1 _ 0 0 (by omega)
  rw [hsc] at k0 k1
  have hsl := scv_le (f := z.2.2) (z.1 3) 0 0
  have hsi := scv_SI (f := z.2.2) (z.1 3) 0 0 SI_0
  have he7 := hsi.2.2.2.1
  have hzf := hz.e2 k2
  refine z_ws (st' := [.int q_1]) (ws' := (mW cI b i1 r h)) rfl rfl ?_
  refine z_seti (y := (nI (scv z.2.2 (z.1 3) 0 0).1)) k0 ?_
  refine z_aload_n C (pc := 4) dX4_camp_4 rfl ?_
  refine z_get C (pc := 5) 0 rfl rfl wf_X4 1 (by decide) rfl wl_X4_47 (v := .int (i1 1)) rfl dX4_camp_5 ?_
  refine z_icmp_lt C (pc := 8) (tgt := 33) dX4_camp_8 (by decide) (fun c_2 => ?_) (fun c_2 => ?_)
  · rw [hzf.i1] at c_2
    have hx : ¬ (scv z.2.2 (z.1 3) 0 0).1 = z.1 3 := fun e => by
      rw [e] at c_2
      exact absurd c_2 (nI_nlt (Nat.le_refl _) (by omega))
    have hb : campb z.2.2 (z.1 3) = false := by
      unfold campb
      rw [decide_eq_false hx]; rfl
    refine z_bipush C (pc := 33) (v := (-103)) dX4_camp_33 (by decide) ?_
    refine z_iret C (pc := 35) (i1, r) dX4_camp_35 ?_ rfl
    rw [show campF z = (-103, z) from if_neg (by rw [hb]; decide)]
    exact ⟨rfl, hzf⟩
  · rw [hzf.i1] at c_2
    have hx : (scv z.2.2 (z.1 3) 0 0).1 = z.1 3 := by
      have h0 : ¬ (scv z.2.2 (z.1 3) 0 0).1 < z.1 3 := fun e => c_2 (nI_lt e (by omega))
      omega
    refine z_aload_n C (pc := 11) dX4_camp_11 rfl ?_
    refine z_get C (pc := 12) 0 rfl rfl wf_X4 2 (by decide) rfl wl_X4_50 (v := .int (i1 2)) rfl dX4_camp_12 ?_
    refine z_iconst C (pc := 15) (v := (-1)) dX4_camp_15 (by decide) ?_
    refine z_icmp_eq C (pc := 16) (tgt := 33) dX4_camp_16 (by decide) (fun c_3 => ?_) (fun c_3 => ?_)
    · rw [k1] at c_3
      have hy : (scv z.2.2 (z.1 3) 0 0).2 = 0 := (end_eq _ (by omega)).mp c_3
      have hb : campb z.2.2 (z.1 3) = false := by
        unfold campb
        rw [hy, decide_eq_false (show ¬ (0 : Nat) ≠ 0 by decide)]; simp
      refine z_bipush C (pc := 33) (v := (-103)) dX4_camp_33 (by decide) ?_
      refine z_iret C (pc := 35) (i1, r) dX4_camp_35 ?_ rfl
      rw [show campF z = (-103, z) from if_neg (by rw [hb]; decide)]
      exact ⟨rfl, hzf⟩
    · rw [k1] at c_3
      have hy : (scv z.2.2 (z.1 3) 0 0).2 ≠ 0 := fun e => c_3 ((end_eq _ (by omega)).mpr e)
      refine z_aload_n C (pc := 19) dX4_camp_19 rfl ?_
      refine z_get C (pc := 20) 0 rfl rfl wf_X4 1 (by decide) rfl wl_X4_47 (v := .int (i1 1)) rfl dX4_camp_20 ?_
      refine z_aload_n C (pc := 23) dX4_camp_23 rfl ?_
      refine z_get C (pc := 24) 0 rfl rfl wf_X4 2 (by decide) rfl wl_X4_50 (v := .int (i1 2)) rfl dX4_camp_24 ?_
      refine z_bipush C (pc := 27) (v := 6) dX4_camp_27 (by decide) ?_
      refine z_iadd C (pc := 29) dX4_camp_29 ?_
      refine z_icmp_eq C (pc := 30) (tgt := 36) dX4_camp_30 (by decide) (fun c_4 => ?_) (fun c_4 => ?_)
      · rw [hzf.i1, k1, end_6 _ (by omega)] at c_4
        have hl : z.1 3 = (scv z.2.2 (z.1 3) 0 0).2 + 5 := (nI_eq (by omega) (by omega)).mp c_4
        have hb : campb z.2.2 (z.1 3) = true := by
          unfold campb
          rw [decide_eq_true hx, decide_eq_true hy, decide_eq_true hl]; rfl
        obtain ⟨f1, f2, f3, f4⟩ := camp_facts hb
        have hen : i1 2 = nI (z.1 3 - 6) := by rw [k1, show (scv z.2.2 (z.1 3) 0 0).2 = (z.1 3 - 6) + 1 by omega]; exact nI_pred _
        refine z_aload_n C (pc := 36) dX4_camp_36 rfl ?_
        refine z_aload_n C (pc := 37) dX4_camp_37 rfl ?_
        refine z_get C (pc := 38) 0 rfl rfl wf_X4 2 (by decide) rfl wl_X4_50 (v := .int (i1 2)) rfl dX4_camp_38 ?_
        refine z_seti (y := nI (z.1 3 - 6)) (hen) ?_
        refine z_put C (pc := 41) 0 rfl rfl wf_X4 3 (by decide) rfl tyX4 tyX4_ok nmX4 rfl rfl rfl (Nat.le_of_ble_eq_true rfl) (ws' := (mW cI b (upd i1 3 (nI (z.1 3 - 6))) r h)) rfl wl_X4_69 dX4_camp_41 ?_
        refine z_iconst C (pc := 44) (v := 0) dX4_camp_44 (by decide) ?_
        refine z_istore_n C (pc := 45) (lv' := [(0, .ref (b 0)), (1, .int 0)]) dX4_camp_45 (Nat.le_of_ble_eq_true rfl) rfl rfl ?_
        have key46 : ∀ (fu46 : Nat) (k : Nat) (r' : Nat → Nat → Int32), (z.1 3 - 6) - k < fu46 → (k ≤ (z.1 3 - 6)) → (∀ q, q ≠ 1 → r' q = r q) → (∀ j, j < k → r' 1 j = nI (kdn (z.2.2 j))) → Z pP l eE (rm 3 68) sS mM aV bB mE cC D AA 2 0 0 (MQ bB (va_Qi (S := ((Nat → Int32) × (Nat → Nat → Int32))) (fun q u => q = (campF z).1 ∧ Mdl (campF z).2 u.1 u.2) (fun u t => va_P D vwCl ((fun u => mW cI b u.1 u.2 h) u) t.heap) AA) aV sS 0 0 AA) 46 [(0, .ref (b 0)), (1, .int (nI k))] [] (mW cI b (upd i1 3 (nI (z.1 3 - 6))) r' h) := by
          intro fu46
          induction fu46 with
          | zero => intro k r' hfu46; exact absurd hfu46 (Nat.not_lt_zero _)
          | succ fu46 ih46 =>
            intro k r' hfu46 hkn hr0 hr1
            refine z_iload_n C (pc := 46) dX4_camp_46 rfl ?_
            refine z_aload_n C (pc := 47) dX4_camp_47 rfl ?_
            refine z_get C (pc := 48) 0 rfl rfl wf_X4 3 (by decide) rfl wl_X4_69 (v := .int (nI (z.1 3 - 6))) rfl dX4_camp_48 ?_
            refine z_icmp_ge C (pc := 51) (tgt := 75) dX4_camp_51 (by decide) (fun c_5 => ?_) (fun c_5 => ?_)
            · have hke : k = (z.1 3 - 6) := by
                have := ge_of_nI c_5 (by omega)
                omega
              subst hke
              refine z_lv (lv' := [(0, .ref (b 0))]) ⟨rfl, trivial⟩ ?_
              refine z_iconst C (pc := 75) (v := 1) dX4_camp_75 (by decide) ?_
              refine z_istore_n C (pc := 76) (lv' := [(0, .ref (b 0)), (1, .int 1)]) dX4_camp_76 (Nat.le_of_ble_eq_true rfl) rfl rfl ?_
              have key77 : ∀ (fu77 : Nat) (j q : Nat) (r2 : Nat → Nat → Int32), 5 - j < fu77 → (q = j + 1) → (j ≤ 5) → (∀ q, q ≠ 1 → q ≠ 2 → r2 q = r q) → (∀ k, k < (z.1 3 - 6) → r2 1 k = nI (kdn (z.2.2 k))) → (∀ k, k < j → r2 2 (k + 1) = nI (fdn (z.2.2 (z.1 3 - 5 + k)))) → Z pP l eE (rm 3 68) sS mM aV bB mE cC D AA 2 0 0 (MQ bB (va_Qi (S := ((Nat → Int32) × (Nat → Nat → Int32))) (fun q u => q = (campF z).1 ∧ Mdl (campF z).2 u.1 u.2) (fun u t => va_P D vwCl ((fun u => mW cI b u.1 u.2 h) u) t.heap) AA) aV sS 0 0 AA) 77 [(0, .ref (b 0)), (1, .int (nI q))] [] (mW cI b (upd i1 3 (nI (z.1 3 - 6))) r2 h) := by
                intro fu77
                induction fu77 with
                | zero => intro j q r2 hfu77; exact absurd hfu77 (Nat.not_lt_zero _)
                | succ fu77 ih77 =>
                  intro j q r2 hfu77 hq hj5 hr2 hr3 hr4
                  refine z_iload_n C (pc := 77) dX4_camp_77 rfl ?_
                  refine z_bipush C (pc := 78) (v := 6) dX4_camp_78 (by decide) ?_
                  refine z_icmp_ge C (pc := 80) (tgt := 109) dX4_camp_80 (by decide) (fun c_6 => ?_) (fun c_6 => ?_)
                  · have hje : j = 5 := by
                      have := ge_of_nI (n := 6) (j := q) c_6 (by decide)
                      omega
                    subst hje
                    refine z_lv (lv' := [(0, .ref (b 0))]) ⟨rfl, trivial⟩ ?_
                    refine z_aload_n C (pc := 109) dX4_camp_109 rfl ?_
                    refine z_iconst C (pc := 110) (v := 1) dX4_camp_110 (by decide) ?_
                    refine z_aload_n C (pc := 111) dX4_camp_111 rfl ?_
                    refine z_get C (pc := 112) 0 rfl rfl wf_X4 3 (by decide) rfl wl_X4_69 (v := .int (nI (z.1 3 - 6))) rfl dX4_camp_112 ?_
                    refine z_ishl C (pc := 115) dX4_camp_115 ?_
                    refine z_iconst C (pc := 116) (v := 1) dX4_camp_116 (by decide) ?_
                    refine z_isub C (pc := 117) dX4_camp_117 ?_
                    refine z_seti (y := nI (2 ^ (z.1 3 - 6) - 1)) (one_shl _ (by omega)) ?_
                    refine z_put C (pc := 118) 0 rfl rfl wf_X4 4 (by decide) rfl tyX4 tyX4_ok nmX4 rfl rfl rfl (Nat.le_of_ble_eq_true rfl) (ws' := (mW cI b (upd (upd i1 3 (nI (z.1 3 - 6))) 4 (nI (2 ^ (z.1 3 - 6) - 1))) r2 h)) rfl wl_X4_72 dX4_camp_118 ?_
                    refine z_aload_n C (pc := 121) dX4_camp_121 rfl ?_
                    refine z_iconst C (pc := 122) (v := 0) dX4_camp_122 (by decide) ?_
                    refine z_put C (pc := 123) 0 rfl rfl wf_X4 5 (by decide) rfl tyX4 tyX4_ok nmX4 rfl rfl rfl (Nat.le_of_ble_eq_true rfl) (ws' := (mW cI b (upd (upd (upd i1 3 (nI (z.1 3 - 6))) 4 (nI (2 ^ (z.1 3 - 6) - 1))) 5 0) r2 h)) rfl wl_X4_75 dX4_camp_123 ?_
                    refine z_aload_n C (pc := 126) dX4_camp_126 rfl ?_
                    refine z_iconst C (pc := 127) (v := 0) dX4_camp_127 (by decide) ?_
                    refine z_put C (pc := 128) 0 rfl rfl wf_X4 6 (by decide) rfl tyX4 tyX4_ok nmX4 rfl rfl rfl (Nat.le_of_ble_eq_true rfl) (ws' := (mW cI b (upd (upd (upd (upd i1 3 (nI (z.1 3 - 6))) 4 (nI (2 ^ (z.1 3 - 6) - 1))) 5 0) 6 0) r2 h)) rfl wl_X4_78 dX4_camp_128 ?_
                    refine z_aload_n C (pc := 131) dX4_camp_131 rfl ?_
                    refine z_iconst C (pc := 132) (v := 0) dX4_camp_132 (by decide) ?_
                    refine z_put C (pc := 133) 0 rfl rfl wf_X4 15 (by decide) rfl tyX4 tyX4_ok nmX4 rfl rfl rfl (Nat.le_of_ble_eq_true rfl) (ws' := (mW cI b (upd (upd (upd (upd (upd i1 3 (nI (z.1 3 - 6))) 4 (nI (2 ^ (z.1 3 - 6) - 1))) 5 0) 6 0) 15 0) r2 h)) rfl wl_X4_81 dX4_camp_133 ?_
                    refine z_aload_n C (pc := 136) dX4_camp_136 rfl ?_
                    refine z_dup C (pc := 137) dX4_camp_137 rfl ?_
                    refine z_get C (pc := 138) 0 rfl rfl wf_X4 7 (by decide) rfl wl_X4_84 (v := .int (i1 7)) rfl dX4_camp_138 ?_
                    refine z_iconst C (pc := 141) (v := 1) dX4_camp_141 (by decide) ?_
                    refine z_iadd C (pc := 142) dX4_camp_142 ?_
                    refine z_put C (pc := 143) 0 rfl rfl wf_X4 7 (by decide) rfl tyX4 tyX4_ok nmX4 rfl rfl rfl (Nat.le_of_ble_eq_true rfl) (ws' := (mW cI b (upd (upd (upd (upd (upd (upd i1 3 (nI (z.1 3 - 6))) 4 (nI (2 ^ (z.1 3 - 6) - 1))) 5 0) 6 0) 15 0) 7 ((i1 7) + 1)) r2 h)) rfl wl_X4_84 dX4_camp_143 ?_
                    refine z_aload_n C (pc := 146) dX4_camp_146 rfl ?_
                    refine z_iconst C (pc := 147) (v := 0) dX4_camp_147 (by decide) ?_
                    refine z_put C (pc := 148) 0 rfl rfl wf_X4 1 (by decide) rfl tyX4 tyX4_ok nmX4 rfl rfl rfl (Nat.le_of_ble_eq_true rfl) (ws' := (mW cI b (upd (upd (upd (upd (upd (upd (upd i1 3 (nI (z.1 3 - 6))) 4 (nI (2 ^ (z.1 3 - 6) - 1))) 5 0) 6 0) 15 0) 7 ((i1 7) + 1)) 1 0) r2 h)) rfl wl_X4_47 dX4_camp_148 ?_
                    refine z_aload_n C (pc := 151) dX4_camp_151 rfl ?_
                    refine z_get C (pc := 152) 0 rfl rfl wf_X4 3 (by decide) rfl wl_X4_69 (v := .int (nI (z.1 3 - 6))) rfl dX4_camp_152 ?_
                    refine z_iret C (pc := 155) ((upd (upd (upd (upd (upd (upd (upd i1 3 (nI (z.1 3 - 6))) 4 (nI (2 ^ (z.1 3 - 6) - 1))) 5 0) 6 0) 15 0) 7 ((i1 7) + 1)) 1 0), r2) dX4_camp_155 ?_ rfl
                    exact ⟨by unfold campF; rw [if_pos hb], ml_camp hzf hb rfl rfl hr3 hr4⟩
                  · have hj : j < 5 := by
                      have := lt_of_nI (n := 6) (j := q) c_6 (by omega)
                      omega
                    obtain ⟨p, hp⟩ : ∃ p, p = z.1 3 - 5 + j := ⟨_, rfl⟩
                    have hpp : r2 0 p = z.2.2 p := (congrFun (hr2 0 (by decide) (by decide)) p).trans (hz.2.1.1 p (by omega))
                    refine z_aload_n C (pc := 83) dX4_camp_83 rfl ?_
                    refine z_get C (pc := 84) 0 rfl rfl wf_X4 9 (by decide) rfl wl_X4_16 (v := .ref (b 3)) rfl dX4_camp_84 ?_
                    refine z_iload_n C (pc := 87) dX4_camp_87 rfl ?_
                    refine z_aload_n C (pc := 88) dX4_camp_88 rfl ?_
                    refine z_get C (pc := 89) 0 rfl rfl wf_X4 0 (by decide) rfl wl_X4_7 (v := .ref (b 1)) rfl dX4_camp_89 ?_
                    refine z_aload_n C (pc := 92) dX4_camp_92 rfl ?_
                    refine z_get C (pc := 93) 0 rfl rfl wf_X4 2 (by decide) rfl wl_X4_50 (v := .int (i1 2)) rfl dX4_camp_93 ?_
                    refine z_iload_n C (pc := 96) dX4_camp_96 rfl ?_
                    refine z_iadd C (pc := 97) dX4_camp_97 ?_
                    refine z_seti (y := nI p) (by rw [hen, nI_add, show (z.1 3 - 6) + q = p by omega]) ?_
                    have h_7 : vp_in (nI p) 15 := by exact vp_in_nI (by omega) (by decide)
                    refine z_iald C (pc := 98) 1 rfl h_7 dX4_camp_98 ?_
                    refine z_seti (y := z.2.2 p) (by rw [nI_clamp (by omega)]; exact hpp) ?_
                    refine z_bipush C (pc := 99) (v := 48) dX4_camp_99 (by decide) ?_
                    refine z_isub C (pc := 101) dX4_camp_101 ?_
                    refine z_seti (y := nI (fdn (z.2.2 p))) (by rw [hp]; exact (f4 j hj).1) ?_
                    have h_8 : vp_in (nI q) 7 := by exact vp_in_nI (by omega) (by decide)
                    refine z_iast C (pc := 102) 3 rfl h_8 (ws' := (mW cI b (upd i1 3 (nI (z.1 3 - 6))) (va_up r2 2 (upd (r2 2) (nI q).toNatClampNeg (nI (fdn (z.2.2 p))))) h)) rfl dX4_camp_102 ?_
                    refine z_iinc C (pc := 103) (v := ((nI q) + 1)) (lv' := [(0, .ref (b 0)), (1, .int ((nI q) + 1))]) dX4_camp_103 rfl rfl (Nat.le_of_ble_eq_true rfl) rfl rfl ?_
                    refine z_goto C (pc := 106) (tgt := 77) dX4_camp_106 (by decide) ?_
                    refine z_lv (lv' := [(0, .ref (b 0)), (1, .int (nI (q + 1)))]) ⟨rfl, lki (nI_1 q), trivial⟩ ?_
                    exact ih77 (j + 1) (q + 1) (va_up r2 2 (upd (r2 2) (nI q).toNatClampNeg (nI (fdn (z.2.2 p))))) (by omega) (by omega) hj (fun q h h3 => (vup_n h3).trans (hr2 q h h3)) (fun k hk => by rw [vup_n (by decide)]; exact hr3 k hk) (fun k hk => by rw [vup_s, nI_clamp (by omega)]; unfold upd; by_cases e : k = j; (rw [if_pos (by omega), hp, e]); (rw [if_neg (by omega)]; exact hr4 k (by omega)))
              refine z_lv (lv' := [(0, .ref (b 0)), (1, .int (nI 1))]) ⟨rfl, rfl, trivial⟩ ?_
              exact key77 (_ + 1) 0 1 r' (Nat.lt_succ_self _) rfl (Nat.zero_le _) (fun q h _ => hr0 q h) hr1 (fun j h => absurd h (Nat.not_lt_zero j))
            · have hk : k < (z.1 3 - 6) := lt_of_nI c_5 (by omega)
              have hpk : r' 0 k = z.2.2 k := (congrFun (hr0 0 (by decide)) k).trans (hz.2.1.1 k (by omega))
              refine z_aload_n C (pc := 54) dX4_camp_54 rfl ?_
              refine z_get C (pc := 55) 0 rfl rfl wf_X4 8 (by decide) rfl wl_X4_13 (v := .ref (b 2)) rfl dX4_camp_55 ?_
              refine z_iload_n C (pc := 58) dX4_camp_58 rfl ?_
              refine z_aload_n C (pc := 59) dX4_camp_59 rfl ?_
              refine z_get C (pc := 60) 0 rfl rfl wf_X4 0 (by decide) rfl wl_X4_7 (v := .ref (b 1)) rfl dX4_camp_60 ?_
              refine z_iload_n C (pc := 63) dX4_camp_63 rfl ?_
              have h_9 : vp_in (nI k) 15 := by exact vp_in_nI (by omega) (by decide)
              refine z_iald C (pc := 64) 1 rfl h_9 dX4_camp_64 ?_
              refine z_seti (y := z.2.2 k) (by rw [nI_clamp (by omega)]; exact hpk) ?_
              refine z_calli C (isC := []) rfl (by exact fun _ => rfl) (runS C (wc := []) (pc := 65) (rY' := rm 0 0) (nn := 1) (As := [.int (z.2.2 k)]) (rest := [.int (nI k), .ref (b 2)]) (m_kindBy l D cI tt (z.2.2 k)) rfl rfl ⟨rfl, rfl, ⟨Nat.le_of_ble_eq_true rfl, Nat.le_of_ble_eq_true rfl⟩, Nat.le_of_ble_eq_true rfl, Nat.le_of_ble_eq_true rfl⟩ wl_X4_57 ws_X4_kindBy wi_X4 wc_X4_kindBy (by decide +kernel) rfl rfl (Nat.le_of_ble_eq_true rfl) dX4_camp_65) (fun r_10 u_10 h_10 => ?_)
              have h_10 : r_10 = nI (kdn (z.2.2 k)) := h_10.trans (f3 k hk).1
              refine z_ws (st' := [.int r_10, .int (nI k), .ref (b 2)]) (ws' := (mW cI b (upd i1 3 (nI (z.1 3 - 6))) r' h)) rfl rfl ?_
              refine z_seti (y := (nI (kdn (z.2.2 k)))) h_10 ?_
              have h_11 : vp_in (nI k) 6 := by exact vp_in_nI (by omega) (by decide)
              refine z_iast C (pc := 68) 2 rfl h_11 (ws' := (mW cI b (upd i1 3 (nI (z.1 3 - 6))) (va_up r' 1 (upd (r' 1) (nI k).toNatClampNeg (nI (kdn (z.2.2 k))))) h)) rfl dX4_camp_68 ?_
              refine z_iinc C (pc := 69) (v := ((nI k) + 1)) (lv' := [(0, .ref (b 0)), (1, .int ((nI k) + 1))]) dX4_camp_69 rfl rfl (Nat.le_of_ble_eq_true rfl) rfl rfl ?_
              refine z_goto C (pc := 72) (tgt := 46) dX4_camp_72 (by decide) ?_
              refine z_lv (lv' := [(0, .ref (b 0)), (1, .int (nI (k + 1)))]) ⟨rfl, lki (nI_1 k), trivial⟩ ?_
              exact ih46 (k + 1) (va_up r' 1 (upd (r' 1) (nI k).toNatClampNeg (nI (kdn (z.2.2 k))))) (by omega) hk (fun q hq => (vup_n hq).trans (hr0 q hq)) (fun j hj => by rw [vup_s, nI_clamp (by omega)]; unfold upd; by_cases e : j = k; (rw [if_pos e, e]); (rw [if_neg e]; exact hr1 j (by omega)))
        refine z_lv (lv' := [(0, .ref (b 0)), (1, .int (nI 0))]) ⟨rfl, rfl, trivial⟩ ?_
        exact key46 (_ + 1) 0 r (Nat.lt_succ_self _) (Nat.zero_le _) (fun _ _ => rfl) (fun j hj => absurd hj (Nat.not_lt_zero j))
      · rw [hzf.i1, k1, end_6 _ (by omega)] at c_4
        have hl : ¬ z.1 3 = (scv z.2.2 (z.1 3) 0 0).2 + 5 := fun e => c_4 (by rw [← e])
        have hb : campb z.2.2 (z.1 3) = false := by
          unfold campb
          rw [decide_eq_false hl]; simp
        refine z_bipush C (pc := 33) (v := (-103)) dX4_camp_33 (by decide) ?_
        refine z_iret C (pc := 35) (i1, r) dX4_camp_35 ?_ rfl
        rw [show campF z = (-103, z) from if_neg (by rw [hb]; decide)]
        exact ⟨rfl, hzf⟩
