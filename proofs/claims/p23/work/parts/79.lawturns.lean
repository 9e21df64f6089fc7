set_option maxHeartbeats 4000000 in
set_option maxRecDepth 100000 in
theorem lw_as {pP : Program} {l : Launch} {eE : Env} {sS : State} {mM : MethodId} {aV : Array Value} {bB : List Frame} {mE : Method} {cC : Code} {D : va_G} {AA : Nat → Prop} {QQ : State → Prop} {cI : ClassId} {tt : Nat × Nat × Nat} {bb L : Nat} {xs : Nat → Int32} {a : Nat → Nat} {ab ad ac ar aT : Nat} {fb ft : Nat → Int32} (C : Cx pP sS mM aV mE cC RL cL_law 15 ret D cI tt AA) (hX : va_X bb L xs sS sS.heap) (hbl : bb < sS.heap.size) (hbA : ¬ AA bb) (hL : L ≤ 260) (z : SG) (i : Nat → Int32) (r : Nat → Nat → Int32) (fd fc fr : Nat → Int32) (hz : Cls z i r) (vz : VS z) (hl : LI z fb fd) (kk : ∀ (i' : Nat → Int32) (r' : Nat → Nat → Int32), Cls z i' r' → Z pP l eE room_1 sS mM aV bB mE cC D AA 15 24 168 QQ 178 [(0, .ref bb), (1, .ref (a 0)), (2, .ref ab), (3, .ref ad), (4, .ref ac), (5, .ref ar)] [] ((cW cI a i' r') ++ [(ab, .inl (cI, 7, .inl fb)), (ad, .inl (cI, 9, .inl fd)), (ar, .inl (cI, 3, .inl fr)), (ac, .inl (cI, 9, .inl fc)), (aT, .inl (cI, 15, .inl ft))])) : Z pP l eE room_1 sS mM aV bB mE cC D AA 15 (24) (168) QQ 95 [(0, .ref bb), (1, .ref (a 0)), (2, .ref ab), (3, .ref ad), (4, .ref ac), (5, .ref ar)] [] ((cW cI a i r) ++ [(ab, .inl (cI, 7, .inl fb)), (ad, .inl (cI, 9, .inl fd)), (ar, .inl (cI, 3, .inl fr)), (ac, .inl (cI, 9, .inl fc)), (aT, .inl (cI, 15, .inl ft))]) := by
  have v4 : z.1 4 ≤ 6 := vz.2.2.2.1
  have v5 : z.1 5 < 2 ^ z.1 4 := vz.2.2.2.2.1
  have hx6 := pow_le6 v4
  obtain ⟨li0, li1, li2, li3, li4, li5, li6⟩ := id hl
  have hbv := hl.bv vz
  have hdv := hl.dv vz
  refine z_iconst C (pc := 95) (v := nI 0) dL_law_95 (by decide) ?_
  refine z_istore C (pc := 96) (lv' := [(0, .ref bb), (1, .ref (a 0)), (2, .ref ab), (3, .ref ad), (4, .ref ac), (5, .ref ar), (8, .int (nI 0))]) dL_law_96 (Nat.le_of_ble_eq_true rfl) rfl rfl ?_
  have key98 : ∀ (fu98 : Nat) (k : Nat) (i' : Nat → Int32) (r' : Nat → Nat → Int32), z.1 4 - k < fu98 → (k ≤ z.1 4) → (Cls z i' r') → Z pP l eE room_1 sS mM aV bB mE cC D AA 15 (24) (168) QQ 98 [(0, .ref bb), (1, .ref (a 0)), (2, .ref ab), (3, .ref ad), (4, .ref ac), (5, .ref ar), (8, .int (nI k))] [] ((cW cI a i' r') ++ [(ab, .inl (cI, 7, .inl fb)), (ad, .inl (cI, 9, .inl fd)), (ar, .inl (cI, 3, .inl fr)), (ac, .inl (cI, 9, .inl fc)), (aT, .inl (cI, 15, .inl ft))]) := by
    intro fu98
    induction fu98 with
    | zero => intro k i' r' hfu98; exact absurd hfu98 (Nat.not_lt_zero _)
    | succ fu98 ih98 =>
      intro k i' r' hfu98 hkn hz'
      refine z_iload C (pc := 98) dL_law_98 rfl ?_
      refine z_aload_n C (pc := 100) dL_law_100 rfl ?_
      refine z_iconst C (pc := 101) (v := nI 0) dL_law_101 (by decide) ?_
      have h_1 : vp_in (nI 0) 7 := by exact vp_in_nI (by omega) (by decide)
      refine z_iald C (pc := 102) 19 rfl h_1 dL_law_102 ?_
      refine z_seti (y := (fb 0)) (by rw [nI_clamp (by omega)]) ?_
      refine z_seti (y := nI (z.1 4)) li0 ?_
      refine z_icmp_ge C (pc := 103) (tgt := 178) dL_law_103 (by decide) (fun c_2 => ?_) (fun c_2 => ?_)
      · refine z_lv (lv' := [(0, .ref bb), (1, .ref (a 0)), (2, .ref ab), (3, .ref ad), (4, .ref ac), (5, .ref ar)]) ⟨rfl, rfl, rfl, rfl, rfl, rfl, trivial⟩ ?_
        exact kk _ _ hz'
      · have hk : k < z.1 4 := lt_of_nI c_2 (by omega)
        have hbk := hbv.2.2 k hk
        refine z_iconst C (pc := 106) (v := nI 0) dL_law_106 (by decide) ?_
        refine z_istore C (pc := 107) (lv' := [(0, .ref bb), (1, .ref (a 0)), (2, .ref ab), (3, .ref ad), (4, .ref ac), (5, .ref ar), (8, .int (nI k)), (9, .int (nI 0))]) dL_law_107 (Nat.le_of_ble_eq_true rfl) rfl rfl ?_
        have key109 : ∀ (fu109 : Nat) (q : Nat) (i2 : Nat → Int32) (r2 : Nat → Nat → Int32), 5 - q < fu109 → (q ≤ 5) → (Cls z i2 r2) → Z pP l eE room_1 sS mM aV bB mE cC D AA 15 (24) (168) QQ 109 [(0, .ref bb), (1, .ref (a 0)), (2, .ref ab), (3, .ref ad), (4, .ref ac), (5, .ref ar), (8, .int (nI k)), (9, .int (nI q))] [] ((cW cI a i2 r2) ++ [(ab, .inl (cI, 7, .inl fb)), (ad, .inl (cI, 9, .inl fd)), (ar, .inl (cI, 3, .inl fr)), (ac, .inl (cI, 9, .inl fc)), (aT, .inl (cI, 15, .inl ft))]) := by
          intro fu109
          induction fu109 with
          | zero => intro q i2 r2 hfu109; exact absurd hfu109 (Nat.not_lt_zero _)
          | succ fu109 ih109 =>
            intro q i2 r2 hfu109 hq5 hz2
            refine z_iload C (pc := 109) dL_law_109 rfl ?_
            refine z_iconst C (pc := 111) (v := nI 5) dL_law_111 (by decide) ?_
            refine z_icmp_ge C (pc := 112) (tgt := 172) dL_law_112 (by decide) (fun c_3 => ?_) (fun c_3 => ?_)
            · refine z_iinc C (pc := 172) (v := ((nI k) + 1)) (lv' := [(0, .ref bb), (1, .ref (a 0)), (2, .ref ab), (3, .ref ad), (4, .ref ac), (5, .ref ar), (8, .int ((nI k) + 1)), (9, .int (nI q))]) dL_law_172 rfl rfl (Nat.le_of_ble_eq_true rfl) rfl rfl ?_
              refine z_goto C (pc := 175) (tgt := 98) dL_law_175 (by decide) ?_
              refine z_lv (lv' := [(0, .ref bb), (1, .ref (a 0)), (2, .ref ab), (3, .ref ad), (4, .ref ac), (5, .ref ar), (8, .int (nI (k + 1)))]) ⟨rfl, rfl, rfl, rfl, rfl, rfl, lki (nI_1 k), trivial⟩ ?_
              exact ih98 (k + 1) i2 r2 (by omega) hk hz2
            · have hq : q < 5 := lt_of_nI (n := 5) c_3 (by omega)
              refine z_aload_n C (pc := 115) dL_law_115 rfl ?_
              refine z_iload C (pc := 116) dL_law_116 rfl ?_
              refine z_iload C (pc := 118) dL_law_118 rfl ?_
              refine z_calliL C (by exact fun _ => cW_ad) (runV C (wc := (cW cI a i2 r2)) (pc := 120) (rY' := rm 1 21) (nn := 2) (As := [.int (nI k), .int (nI q)]) (rest := []) (c_as l D cI tt a i2 r2 (nI k) (nI q) z hz2 vz) (apL_hC _ _) (full_nd _) ⟨rfl, rfl, ⟨Nat.le_of_ble_eq_true rfl, Nat.le_of_ble_eq_true rfl⟩, (by show 24 ≤ 600000; omega), (by show 168 ≤ 7302250; omega)⟩ wl_L_96 wm_X3_as we_X3_as wi_X3 wc_X3_as (by decide +kernel) rfl 0 rfl rfl rfl rfl (Nat.le_of_ble_eq_true rfl) dL_law_120) (fun q_4 u_4 h_4 => ?_)
              obtain ⟨i4, r4⟩ := u_4
              try dsimp only at h_4
              obtain ⟨k0, hz4⟩ := h_4
              refine z_ws (st' := [.int q_4]) (ws' := ((cW cI a i4 r4) ++ [(ab, .inl (cI, 7, .inl fb)), (ad, .inl (cI, 9, .inl fd)), (ar, .inl (cI, 3, .inl fr)), (ac, .inl (cI, 9, .inl fc)), (aT, .inl (cI, 15, .inl ft))])) rfl rfl ?_
              refine z_seti (y := (asv (z.2.1 1 k) q k)) (k0.trans (as_in v4 hk hq)) ?_
              refine z_iload C (pc := 123) dL_law_123 rfl ?_
              refine z_if_eq C (pc := 125) (tgt := 155) dL_law_125 (by decide) (fun c_5 => ?_) (fun c_5 => ?_)
              · have hq0 : q = 0 := nI_z (by omega) c_5
                refine z_iload C (pc := 155) dL_law_155 rfl ?_
                refine z_goto C (pc := 157) (tgt := 161) dL_law_157 (by decide) ?_
                refine z_icmp_eq C (pc := 161) (tgt := 166) dL_law_161 (by decide) (fun c_6 => ?_) (fun c_6 => ?_)
                · refine z_iinc C (pc := 166) (v := ((nI q) + 1)) (lv' := [(0, .ref bb), (1, .ref (a 0)), (2, .ref ab), (3, .ref ad), (4, .ref ac), (5, .ref ar), (8, .int (nI k)), (9, .int ((nI q) + 1))]) dL_law_166 rfl rfl (Nat.le_of_ble_eq_true rfl) rfl rfl ?_
                  refine z_goto C (pc := 169) (tgt := 109) dL_law_169 (by decide) ?_
                  refine z_lv (lv' := [(0, .ref bb), (1, .ref (a 0)), (2, .ref ab), (3, .ref ad), (4, .ref ac), (5, .ref ar), (8, .int (nI k)), (9, .int (nI (q + 1)))]) ⟨rfl, rfl, rfl, rfl, rfl, rfl, rfl, lki (nI_1 q), trivial⟩ ?_
                  exact ih109 (q + 1) i4 r4 (by omega) hq hz4
                · exact absurd (asv_y hbk.2 hq (Or.inl hq0)) c_6
              · have hq0 : q ≠ 0 := nI_nz c_5
                refine z_iload C (pc := 128) dL_law_128 rfl ?_
                refine z_aload_n C (pc := 130) dL_law_130 rfl ?_
                refine z_iconst C (pc := 131) (v := nI 1) dL_law_131 (by decide) ?_
                refine z_iload C (pc := 132) dL_law_132 rfl ?_
                refine z_iadd C (pc := 134) dL_law_134 ?_
                refine z_seti (y := nI (1 + k)) (nI_add _ _) ?_
                have h_7 : vp_in (nI (1 + k)) 7 := by exact vp_in_nI (by omega) (by decide)
                refine z_iald C (pc := 135) 19 rfl h_7 dL_law_135 ?_
                refine z_seti (y := (fb (1 + k))) (by rw [nI_clamp (by omega)]) ?_
                refine z_seti (y := nI (z.2.1 1 k)) (by rw [Nat.add_comm]; exact hbk.1) ?_
                refine z_icmp_eq C (pc := 136) (tgt := 155) dL_law_136 (by decide) (fun c_8 => ?_) (fun c_8 => ?_)
                · have hqk : q = (z.2.1 1 k) := (nI_eq (by omega) (by have := hbk.2; omega)).mp c_8
                  refine z_iload C (pc := 155) dL_law_155 rfl ?_
                  refine z_goto C (pc := 157) (tgt := 161) dL_law_157 (by decide) ?_
                  refine z_icmp_eq C (pc := 161) (tgt := 166) dL_law_161 (by decide) (fun c_9 => ?_) (fun c_9 => ?_)
                  · refine z_iinc C (pc := 166) (v := ((nI q) + 1)) (lv' := [(0, .ref bb), (1, .ref (a 0)), (2, .ref ab), (3, .ref ad), (4, .ref ac), (5, .ref ar), (8, .int (nI k)), (9, .int ((nI q) + 1))]) dL_law_166 rfl rfl (Nat.le_of_ble_eq_true rfl) rfl rfl ?_
                    refine z_goto C (pc := 169) (tgt := 109) dL_law_169 (by decide) ?_
                    refine z_lv (lv' := [(0, .ref bb), (1, .ref (a 0)), (2, .ref ab), (3, .ref ad), (4, .ref ac), (5, .ref ar), (8, .int (nI k)), (9, .int (nI (q + 1)))]) ⟨rfl, rfl, rfl, rfl, rfl, rfl, rfl, lki (nI_1 q), trivial⟩ ?_
                    exact ih109 (q + 1) i4 r4 (by omega) hq hz4
                  · exact absurd (asv_y hbk.2 hq (Or.inr (Or.inl hqk))) c_9
                · have hqk : q ≠ (z.2.1 1 k) := fun e => c_8 (by rw [← e])
                  refine z_iload C (pc := 139) dL_law_139 rfl ?_
                  refine z_iconst C (pc := 141) (v := nI 2) dL_law_141 (by decide) ?_
                  refine z_icmp_ne C (pc := 142) (tgt := 160) dL_law_142 (by decide) (fun c_10 => ?_) (fun c_10 => ?_)
                  · have hq2 : q ≠ 2 := fun e => c_10 (by rw [e])
                    refine z_iconst C (pc := 160) (v := (-1)) dL_law_160 (by decide) ?_
                    refine z_icmp_eq C (pc := 161) (tgt := 166) dL_law_161 (by decide) (fun c_11 => ?_) (fun c_11 => ?_)
                    · refine z_iinc C (pc := 166) (v := ((nI q) + 1)) (lv' := [(0, .ref bb), (1, .ref (a 0)), (2, .ref ab), (3, .ref ad), (4, .ref ac), (5, .ref ar), (8, .int (nI k)), (9, .int ((nI q) + 1))]) dL_law_166 rfl rfl (Nat.le_of_ble_eq_true rfl) rfl rfl ?_
                      refine z_goto C (pc := 169) (tgt := 109) dL_law_169 (by decide) ?_
                      refine z_lv (lv' := [(0, .ref bb), (1, .ref (a 0)), (2, .ref ab), (3, .ref ad), (4, .ref ac), (5, .ref ar), (8, .int (nI k)), (9, .int (nI (q + 1)))]) ⟨rfl, rfl, rfl, rfl, rfl, rfl, rfl, lki (nI_1 q), trivial⟩ ?_
                      exact ih109 (q + 1) i4 r4 (by omega) hq hz4
                    · exact absurd (asv_n hbk.2 hq (fun h => h.elim hq0 (fun h => h.elim hqk (fun h => hq2 h.1)))) c_11
                  · have hq2 : q = 2 := (nI_eq (by omega) (by decide)).mp c_10
                    refine z_aload_n C (pc := 145) dL_law_145 rfl ?_
                    refine z_iconst C (pc := 146) (v := nI 1) dL_law_146 (by decide) ?_
                    refine z_iload C (pc := 147) dL_law_147 rfl ?_
                    refine z_iadd C (pc := 149) dL_law_149 ?_
                    refine z_seti (y := nI (1 + k)) (nI_add _ _) ?_
                    have h_12 : vp_in (nI (1 + k)) 7 := by exact vp_in_nI (by omega) (by decide)
                    refine z_iald C (pc := 150) 19 rfl h_12 dL_law_150 ?_
                    refine z_seti (y := (fb (1 + k))) (by rw [nI_clamp (by omega)]) ?_
                    refine z_seti (y := nI (z.2.1 1 k)) (by rw [Nat.add_comm]; exact hbk.1) ?_
                    refine z_iconst C (pc := 151) (v := nI 4) dL_law_151 (by decide) ?_
                    refine z_icmp_ne C (pc := 152) (tgt := 160) dL_law_152 (by decide) (fun c_13 => ?_) (fun c_13 => ?_)
                    · have hk4 : (z.2.1 1 k) ≠ 4 := fun e => c_13 (by rw [e])
                      refine z_iconst C (pc := 160) (v := (-1)) dL_law_160 (by decide) ?_
                      refine z_icmp_eq C (pc := 161) (tgt := 166) dL_law_161 (by decide) (fun c_14 => ?_) (fun c_14 => ?_)
                      · refine z_iinc C (pc := 166) (v := ((nI q) + 1)) (lv' := [(0, .ref bb), (1, .ref (a 0)), (2, .ref ab), (3, .ref ad), (4, .ref ac), (5, .ref ar), (8, .int (nI k)), (9, .int ((nI q) + 1))]) dL_law_166 rfl rfl (Nat.le_of_ble_eq_true rfl) rfl rfl ?_
                        refine z_goto C (pc := 169) (tgt := 109) dL_law_169 (by decide) ?_
                        refine z_lv (lv' := [(0, .ref bb), (1, .ref (a 0)), (2, .ref ab), (3, .ref ad), (4, .ref ac), (5, .ref ar), (8, .int (nI k)), (9, .int (nI (q + 1)))]) ⟨rfl, rfl, rfl, rfl, rfl, rfl, rfl, lki (nI_1 q), trivial⟩ ?_
                        exact ih109 (q + 1) i4 r4 (by omega) hq hz4
                      · exact absurd (asv_n hbk.2 hq (fun h => h.elim hq0 (fun h => h.elim hqk (fun h => hk4 h.2)))) c_14
                    · have hk4 : (z.2.1 1 k) = 4 := (nI_eq (by have := hbk.2; omega) (by decide)).mp c_13
                      refine z_iload C (pc := 155) dL_law_155 rfl ?_
                      refine z_goto C (pc := 157) (tgt := 161) dL_law_157 (by decide) ?_
                      refine z_icmp_eq C (pc := 161) (tgt := 166) dL_law_161 (by decide) (fun c_15 => ?_) (fun c_15 => ?_)
                      · refine z_iinc C (pc := 166) (v := ((nI q) + 1)) (lv' := [(0, .ref bb), (1, .ref (a 0)), (2, .ref ab), (3, .ref ad), (4, .ref ac), (5, .ref ar), (8, .int (nI k)), (9, .int ((nI q) + 1))]) dL_law_166 rfl rfl (Nat.le_of_ble_eq_true rfl) rfl rfl ?_
                        refine z_goto C (pc := 169) (tgt := 109) dL_law_169 (by decide) ?_
                        refine z_lv (lv' := [(0, .ref bb), (1, .ref (a 0)), (2, .ref ab), (3, .ref ad), (4, .ref ac), (5, .ref ar), (8, .int (nI k)), (9, .int (nI (q + 1)))]) ⟨rfl, rfl, rfl, rfl, rfl, rfl, rfl, lki (nI_1 q), trivial⟩ ?_
                        exact ih109 (q + 1) i4 r4 (by omega) hq hz4
                      · exact absurd (asv_y hbk.2 hq (Or.inr (Or.inr ⟨hq2, hk4⟩))) c_15
        refine z_lv (lv' := [(0, .ref bb), (1, .ref (a 0)), (2, .ref ab), (3, .ref ad), (4, .ref ac), (5, .ref ar), (8, .int (nI k)), (9, .int (nI 0))]) ⟨rfl, rfl, rfl, rfl, rfl, rfl, rfl, rfl, trivial⟩ ?_
        exact key109 (_ + 1) 0 i' r' (Nat.lt_succ_self _) (Nat.zero_le _) hz'
  refine z_lv (lv' := [(0, .ref bb), (1, .ref (a 0)), (2, .ref ab), (3, .ref ad), (4, .ref ac), (5, .ref ar), (8, .int (nI 0))]) ⟨rfl, rfl, rfl, rfl, rfl, rfl, rfl, trivial⟩ ?_
  exact key98 (_ + 1) 0 i r (Nat.lt_succ_self _) (Nat.zero_le _) hz

set_option maxHeartbeats 4000000 in
set_option maxRecDepth 100000 in
theorem lw_turns {pP : Program} {l : Launch} {eE : Env} {sS : State} {mM : MethodId} {aV : Array Value} {bB : List Frame} {mE : Method} {cC : Code} {D : va_G} {AA : Nat → Prop} {QQ : State → Prop} {cI : ClassId} {tt : Nat × Nat × Nat} {bb L : Nat} {xs : Nat → Int32} {a : Nat → Nat} {ab ad ac ar aT : Nat} {fb ft : Nat → Int32} (C : Cx pP sS mM aV mE cC RL cL_law 15 ret D cI tt AA) (hX : va_X bb L xs sS sS.heap) (hbl : bb < sS.heap.size) (hbA : ¬ AA bb) (hL : L ≤ 260) (z0 : SG) (i0 : Nat → Int32) (r0 : Nat → Nat → Int32) (d0 c0 q0 : Nat → Int32) (hz0 : Cls z0 i0 r0) (vz0 : VS z0) (hl0 : LI z0 fb d0) (hend : ∀ (z : SG) (i : Nat → Int32) (r : Nat → Nat → Int32) (fd fc fr : Nat → Int32), Cls z i r → VS z → LI z fb fd → Z pP l eE room_1 sS mM aV bB mE cC D AA 15 72 600 QQ 493 [(0, .ref bb), (1, .ref (a 0)), (2, .ref ab), (3, .ref ad), (4, .ref ac), (5, .ref ar), (8, .int (nI 24))] [] ((cW cI a i r) ++ [(ab, .inl (cI, 7, .inl fb)), (ad, .inl (cI, 9, .inl fd)), (ar, .inl (cI, 3, .inl fr)), (ac, .inl (cI, 9, .inl fc)), (aT, .inl (cI, 15, .inl ft))])) : Z pP l eE room_1 sS mM aV bB mE cC D AA 15 (24) (168) QQ 178 [(0, .ref bb), (1, .ref (a 0)), (2, .ref ab), (3, .ref ad), (4, .ref ac), (5, .ref ar)] [] ((cW cI a i0 r0) ++ [(ab, .inl (cI, 7, .inl fb)), (ad, .inl (cI, 9, .inl d0)), (ar, .inl (cI, 3, .inl q0)), (ac, .inl (cI, 9, .inl c0)), (aT, .inl (cI, 15, .inl ft))]) := by
  refine z_iconst C (pc := 178) (v := nI 0) dL_law_178 (by decide) ?_
  refine z_istore C (pc := 179) (lv' := [(0, .ref bb), (1, .ref (a 0)), (2, .ref ab), (3, .ref ad), (4, .ref ac), (5, .ref ar), (8, .int (nI 0))]) dL_law_179 (Nat.le_of_ble_eq_true rfl) rfl rfl ?_
  have key181 : ∀ (fu181 : Nat) (tn : Nat) (z : SG) (i : Nat → Int32) (r : Nat → Nat → Int32) (fd fc fr : Nat → Int32), 24 - tn < fu181 → (tn ≤ 24) → (Cls z i r) → (VS z) → (LI z fb fd) → Z pP l eE room_1 sS mM aV bB mE cC D AA 15 (24 + 2 * tn) (168 + 18 * tn) QQ 181 [(0, .ref bb), (1, .ref (a 0)), (2, .ref ab), (3, .ref ad), (4, .ref ac), (5, .ref ar), (8, .int (nI tn))] [] ((cW cI a i r) ++ [(ab, .inl (cI, 7, .inl fb)), (ad, .inl (cI, 9, .inl fd)), (ar, .inl (cI, 3, .inl fr)), (ac, .inl (cI, 9, .inl fc)), (aT, .inl (cI, 15, .inl ft))]) := by
    intro fu181
    induction fu181 with
    | zero => intro tn z i r fd fc fr hfu181; exact absurd hfu181 (Nat.not_lt_zero _)
    | succ fu181 ih181 =>
      intro tn z i r fd fc fr hfu181 ht hz vz hl
      refine z_iload C (pc := 181) dL_law_181 rfl ?_
      refine z_bipush C (pc := 183) (v := nI 24) dL_law_183 (by decide) ?_
      refine z_icmp_ge C (pc := 185) (tgt := 493) dL_law_185 (by decide) (fun c_1 => ?_) (fun c_1 => ?_)
      · have hte : tn = 24 := by
          have := ge_of_nI (n := 24) c_1 (by decide)
          omega
        subst hte
        refine z_widen (ce' := 72) (sl' := 600) (by decide) (by decide) ?_
        exact hend z i r fd fc fr hz vz hl
      · have htl : tn < 24 := lt_of_nI (n := 24) c_1 (by omega)
        have v4 : z.1 4 ≤ 6 := vz.2.2.2.1
        have v5 : z.1 5 < 2 ^ z.1 4 := vz.2.2.2.2.1
        have hx6 := pow_le6 v4
        obtain ⟨li0, li1, li2, li3, li4, li5, li6⟩ := id hl
        have hbv := hl.bv vz
        have hdv := hl.dv vz
        have hp4 : 4 ≤ 2 ^ z.1 4 := Nat.pow_le_pow_right (n := 2) (by decide) li6
        refine z_aload_n C (pc := 188) dL_law_188 rfl ?_
        refine z_iconst C (pc := 189) (v := nI 2) dL_law_189 (by decide) ?_
        refine z_iload C (pc := 190) dL_law_190 rfl ?_
        refine z_iadd C (pc := 192) dL_law_192 ?_
        refine z_seti (y := nI (2 + tn)) (nI_add _ _) ?_
        refine z_callcell C (pc := 193) (rest := []) (k := (2 + tn)) hX hbl hbA hL (by omega) ⟨Nat.le_of_ble_eq_true rfl, Nat.le_of_ble_eq_true rfl, (by show 24 + 2 * tn ≤ 600000; omega), (by show 168 + 18 * tn ≤ 7302250; omega)⟩ rfl dL_law_193 (Nat.le_of_ble_eq_true rfl) (fun x_2 => ?_)
        refine z_ws (st' := [.int x_2]) (ws' := ((cW cI a i r) ++ [(ab, .inl (cI, 7, .inl fb)), (ad, .inl (cI, 9, .inl fd)), (ar, .inl (cI, 3, .inl fr)), (ac, .inl (cI, 9, .inl fc)), (aT, .inl (cI, 15, .inl ft))])) rfl rfl ?_
        refine z_istore C (pc := 196) (lv' := [(0, .ref bb), (1, .ref (a 0)), (2, .ref ab), (3, .ref ad), (4, .ref ac), (5, .ref ar), (8, .int (nI tn)), (9, .int x_2)]) dL_law_196 (Nat.le_of_ble_eq_true rfl) rfl rfl ?_
        refine z_iload C (pc := 198) dL_law_198 rfl ?_
        refine z_bipush C (pc := 200) (v := nI 8) dL_law_200 (by decide) ?_
        refine z_calli C (isC := []) rfl (by exact fun _ => rfl) (runS C (wc := []) (pc := 202) (rY' := rm 0 0) (nn := 2) (As := [.int x_2, .int (nI 8)]) (rest := []) (g_at l D cI tt x_2 8 (by omega) (by omega)) rfl rfl ⟨rfl, rfl, ⟨Nat.le_of_ble_eq_true rfl, Nat.le_of_ble_eq_true rfl⟩, (by show 24 + 2 * tn ≤ 600000; omega), (by show 168 + 18 * tn ≤ 7302250; omega)⟩ wl_L_8 ws_L_at wi_L wc_L_at (by decide +kernel) rfl rfl (Nat.le_of_ble_eq_true rfl) dL_law_202) (fun r_3 u_3 h_3 => ?_)
        obtain ⟨k1, hk1, ek1⟩ := h_3
        subst ek1
        refine z_ws (st' := [.int (nI k1)]) (ws' := ((cW cI a i r) ++ [(ab, .inl (cI, 7, .inl fb)), (ad, .inl (cI, 9, .inl fd)), (ar, .inl (cI, 3, .inl fr)), (ac, .inl (cI, 9, .inl fc)), (aT, .inl (cI, 15, .inl ft))])) rfl rfl ?_
        refine z_istore C (pc := 205) (lv' := [(0, .ref bb), (1, .ref (a 0)), (2, .ref ab), (3, .ref ad), (4, .ref ac), (5, .ref ar), (8, .int (nI tn)), (9, .int x_2), (10, .int (nI k1))]) dL_law_205 (Nat.le_of_ble_eq_true rfl) rfl rfl ?_
        have join476 : ∀ (z' : SG) (i' : Nat → Int32) (r' : Nat → Nat → Int32) (fd' fc' fr' : Nat → Int32), (Cls z' i' r') → (VS z') → (LI z' fb fd') → Z pP l eE room_1 sS mM aV bB mE cC D AA 15 (24 + 2 * (tn + 1)) (168 + 18 * (tn + 1)) QQ 476 [(0, .ref bb), (1, .ref (a 0)), (2, .ref ab), (3, .ref ad), (4, .ref ac), (5, .ref ar), (8, .int (nI tn))] [] ((cW cI a i' r') ++ [(ab, .inl (cI, 7, .inl fb)), (ad, .inl (cI, 9, .inl fd')), (ar, .inl (cI, 3, .inl fr')), (ac, .inl (cI, 9, .inl fc')), (aT, .inl (cI, 15, .inl ft))]) := by
          intro z' i' r' fd' fc' fr' hz' vz' hl'
          refine z_aload_n C (pc := 476) dL_law_476 rfl ?_
          refine z_aload_n C (pc := 477) dL_law_477 rfl ?_
          refine z_aload_n C (pc := 478) dL_law_478 rfl ?_
          refine z_ws (st' := [.ref ad, .ref ab, .ref (a 0)]) (ws' := ((cW cI a i' r') ++ ([(ab, .inl (cI, 7, .inl fb)), (ad, .inl (cI, 9, .inl fd'))] : va_W)) ++ ([(ar, .inl (cI, 3, .inl fr')), (ac, .inl (cI, 9, .inl fc')), (aT, .inl (cI, 15, .inl ft))] : va_W)) (List.append_assoc (cW cI a i' r') ([(ab, .inl (cI, 7, .inl fb)), (ad, .inl (cI, 9, .inl fd'))] : va_W) ([(ar, .inl (cI, 3, .inl fr')), (ac, .inl (cI, 9, .inl fc')), (aT, .inl (cI, 15, .inl ft))] : va_W)).symm rfl ?_
          refine z_calliL C (by exact fun _ => rfl) (runS C (wc := ((cW cI a i' r') ++ ([(ab, .inl (cI, 7, .inl fb)), (ad, .inl (cI, 9, .inl fd'))] : va_W))) (pc := 479) (rY' := rm 7 166) (nn := 3) (As := [.ref (a 0), .ref ab, .ref ad]) (rest := []) (g_stands l D cI tt a i' r' ab ad fb fd' z' hz' vz' hl') (apL_hC _ _) (full_nd _) ⟨rfl, rfl, ⟨Nat.le_of_ble_eq_true rfl, Nat.le_of_ble_eq_true rfl⟩, (by show 24 + 2 * (tn + 1) ≤ 600000; omega), (by show 168 + 18 * (tn + 1) ≤ 7302250; omega)⟩ wl_L_92 ws_L_stands wi_L wc_L_stands (by decide +kernel) rfl rfl (Nat.le_of_ble_eq_true rfl) dL_law_479) (fun r_4 u_4 h_4 => ?_)
          obtain ⟨i4, r4⟩ := u_4
          try dsimp only at h_4
          obtain ⟨k0, hz4⟩ := h_4
          refine z_ws (st' := [.int r_4]) (ws' := ((cW cI a i4 r4) ++ [(ab, .inl (cI, 7, .inl fb)), (ad, .inl (cI, 9, .inl fd')), (ar, .inl (cI, 3, .inl fr')), (ac, .inl (cI, 9, .inl fc')), (aT, .inl (cI, 15, .inl ft))])) (List.append_assoc (cW cI a i4 r4) ([(ab, .inl (cI, 7, .inl fb)), (ad, .inl (cI, 9, .inl fd'))] : va_W) ([(ar, .inl (cI, 3, .inl fr')), (ac, .inl (cI, 9, .inl fc')), (aT, .inl (cI, 15, .inl ft))] : va_W)) rfl ?_
          refine z_seti (y := (nI 1)) k0 ?_
          refine z_if_ne C (pc := 482) (tgt := 487) dL_law_482 (by decide) (fun c_5 => ?_) (fun c_5 => ?_)
          · refine z_iinc C (pc := 487) (v := ((nI tn) + 1)) (lv' := [(0, .ref bb), (1, .ref (a 0)), (2, .ref ab), (3, .ref ad), (4, .ref ac), (5, .ref ar), (8, .int ((nI tn) + 1))]) dL_law_487 rfl rfl (Nat.le_of_ble_eq_true rfl) rfl rfl ?_
            refine z_goto C (pc := 490) (tgt := 181) dL_law_490 (by decide) ?_
            refine z_lv (lv' := [(0, .ref bb), (1, .ref (a 0)), (2, .ref ab), (3, .ref ad), (4, .ref ac), (5, .ref ar), (8, .int (nI (tn + 1)))]) ⟨rfl, rfl, rfl, rfl, rfl, rfl, lki (nI_1 tn), trivial⟩ ?_
            exact ih181 (tn + 1) z' i4 r4 fd' fc' fr' (by omega) htl hz4 vz' hl'
          · exact absurd c_5 (by decide)
        refine z_iload C (pc := 207) dL_law_207 rfl ?_
        refine z_iconst C (pc := 209) (v := nI 5) dL_law_209 (by decide) ?_
        refine z_icmp_ge C (pc := 210) (tgt := 230) dL_law_210 (by decide) (fun c_6 => ?_) (fun c_6 => ?_)
        · refine z_iload C (pc := 230) dL_law_230 rfl ?_
          refine z_bipush C (pc := 232) (v := nI 7) dL_law_232 (by decide) ?_
          refine z_icmp_ge C (pc := 234) (tgt := 438) dL_law_234 (by decide) (fun c_7 => ?_) (fun c_7 => ?_)
          · refine z_aload_n C (pc := 438) dL_law_438 rfl ?_
            refine z_aload_n C (pc := 439) dL_law_439 rfl ?_
            refine z_aload_n C (pc := 440) dL_law_440 rfl ?_
            refine z_aload C (pc := 441) dL_law_441 rfl ?_
            refine z_iconst C (pc := 443) (v := nI 1) dL_law_443 (by decide) ?_
            refine z_iload C (pc := 444) dL_law_444 rfl ?_
            refine z_iconst C (pc := 446) (v := nI 3) dL_law_446 (by decide) ?_
            refine z_ishr C (pc := 447) dL_law_447 ?_
            refine z_bipush C (pc := 448) (v := nI 20) dL_law_448 (by decide) ?_
            refine z_calli C (isC := []) rfl (by exact fun _ => rfl) (runS C (wc := []) (pc := 450) (rY' := rm 0 0) (nn := 2) (As := [.int (x_2 >>> ((nI 3) &&& 31)), .int (nI 20)]) (rest := [.int (nI 1), .ref ar, .ref ad, .ref ab, .ref (a 0)]) (g_at l D cI tt (x_2 >>> ((nI 3) &&& 31)) 20 (by omega) (by omega)) rfl rfl ⟨rfl, rfl, ⟨Nat.le_of_ble_eq_true rfl, Nat.le_of_ble_eq_true rfl⟩, (by show 24 + 2 * tn ≤ 600000; omega), (by show 168 + 18 * tn ≤ 7302250; omega)⟩ wl_L_8 ws_L_at wi_L wc_L_at (by decide +kernel) rfl rfl (Nat.le_of_ble_eq_true rfl) dL_law_450) (fun r_8 u_8 h_8 => ?_)
            obtain ⟨k7, hk7, ek7⟩ := h_8
            subst ek7
            refine z_ws (st' := [.int (nI k7), .int (nI 1), .ref ar, .ref ad, .ref ab, .ref (a 0)]) (ws' := ((cW cI a i r) ++ [(ab, .inl (cI, 7, .inl fb)), (ad, .inl (cI, 9, .inl fd)), (ar, .inl (cI, 3, .inl fr)), (ac, .inl (cI, 9, .inl fc)), (aT, .inl (cI, 15, .inl ft))])) rfl rfl ?_
            refine z_iadd C (pc := 453) dL_law_453 ?_
            refine z_seti (y := nI (1 + k7)) (nI_add _ _) ?_
            refine z_aload_n C (pc := 454) dL_law_454 rfl ?_
            refine z_bipush C (pc := 455) (v := nI 26) dL_law_455 (by decide) ?_
            refine z_iload C (pc := 457) dL_law_457 rfl ?_
            refine z_iconst C (pc := 459) (v := nI 4) dL_law_459 (by decide) ?_
            refine z_irem C (pc := 460) dL_law_460 (by decide) ?_
            refine z_seti (y := nI (tn % 4)) (pk_rem (by omega) (by decide) (by decide)) ?_
            refine z_iadd C (pc := 461) dL_law_461 ?_
            refine z_seti (y := nI (26 + (tn % 4))) (nI_add _ _) ?_
            refine z_callcell C (pc := 462) (rest := [.int (nI (1 + k7)), .ref ar, .ref ad, .ref ab, .ref (a 0)]) (k := (26 + (tn % 4))) hX hbl hbA hL (by omega) ⟨Nat.le_of_ble_eq_true rfl, Nat.le_of_ble_eq_true rfl, (by show 24 + 2 * tn ≤ 600000; omega), (by show 168 + 18 * tn ≤ 7302250; omega)⟩ rfl dL_law_462 (Nat.le_of_ble_eq_true rfl) (fun x_9 => ?_)
            refine z_ws (st' := [.int x_9, .int (nI (1 + k7)), .ref ar, .ref ad, .ref ab, .ref (a 0)]) (ws' := ((cW cI a i r) ++ [(ab, .inl (cI, 7, .inl fb)), (ad, .inl (cI, 9, .inl fd)), (ar, .inl (cI, 3, .inl fr)), (ac, .inl (cI, 9, .inl fc)), (aT, .inl (cI, 15, .inl ft))])) rfl rfl ?_
            refine z_ldc C (pc := 465) (v := 2147483647) wl_L_107 dL_law_465 ?_
            refine z_iand C (pc := 467) dL_law_467 ?_
            obtain ⟨sd, hsd, esd⟩ := pk_andE x_9 (m := 2147483647) 31 (by decide)
            refine z_seti (y := nI sd) esd ?_
            refine z_ws (st' := [.int (nI sd), .int (nI (1 + k7)), .ref ar, .ref ad, .ref ab, .ref (a 0)]) (ws' := ((cW cI a i r) ++ ([(ab, .inl (cI, 7, .inl fb)), (ad, .inl (cI, 9, .inl fd)), (ar, .inl (cI, 3, .inl fr))] : va_W)) ++ ([(ac, .inl (cI, 9, .inl fc)), (aT, .inl (cI, 15, .inl ft))] : va_W)) (List.append_assoc (cW cI a i r) ([(ab, .inl (cI, 7, .inl fb)), (ad, .inl (cI, 9, .inl fd)), (ar, .inl (cI, 3, .inl fr))] : va_W) ([(ac, .inl (cI, 9, .inl fc)), (aT, .inl (cI, 15, .inl ft))] : va_W)).symm rfl ?_
            refine z_calliNL C (by exact fun _ => rfl) (runSNw C (isC := List.range (((cW cI a i r) ++ ([(ab, .inl (cI, 7, .inl fb)), (ad, .inl (cI, 9, .inl fd)), (ar, .inl (cI, 3, .inl fr))] : va_W))).length) (wc := ((cW cI a i r) ++ ([(ab, .inl (cI, 7, .inl fb)), (ad, .inl (cI, 9, .inl fd)), (ar, .inl (cI, 3, .inl fr))] : va_W))) (pc := 468) (rY' := { frames := 7, cells := 2, slots := 18, locals := 164 }) (nn := 6) (As := [.ref (a 0), .ref ab, .ref ad, .ref ar, .int (nI (1 + k7)), .int (nI sd)]) (rest := []) (g_winters l D cI tt a i r ab ad ar fb fd fr z hz vz hl (1 + k7) sd (by omega) (by omega) (by omega)) (apL_hC _ _) (full_nd ((cW cI a i r) ++ ([(ab, .inl (cI, 7, .inl fb)), (ad, .inl (cI, 9, .inl fd)), (ar, .inl (cI, 3, .inl fr))] : va_W))) ⟨rfl, rfl, ⟨Nat.le_of_ble_eq_true rfl, Nat.le_of_ble_eq_true rfl⟩, (by show 24 + 2 * tn + 2 ≤ 600000; omega), (by show 168 + 18 * tn + 18 ≤ 7302250; omega)⟩ wl_L_108 ws_L_winters wi_L wc_L_winters (by decide +kernel) rfl rfl (Nat.le_of_ble_eq_true rfl) dL_law_468) (fun q_w_10 u_w_10 h_w_10 => ?_)
            obtain ⟨iw_10, rw_10, frw_10⟩ := u_w_10
            try dsimp only at h_w_10
            obtain ⟨k0, hzw_10⟩ := h_w_10
            refine z_ws (st' := [.int q_w_10]) (ws' := ((cW cI a iw_10 rw_10) ++ [(ab, .inl (cI, 7, .inl fb)), (ad, .inl (cI, 9, .inl fd)), (ar, .inl (cI, 3, .inl frw_10)), (ac, .inl (cI, 9, .inl fc)), (aT, .inl (cI, 15, .inl ft))])) (List.append_assoc (cW cI a iw_10 rw_10) ([(ab, .inl (cI, 7, .inl fb)), (ad, .inl (cI, 9, .inl fd)), (ar, .inl (cI, 3, .inl frw_10))] : va_W) ([(ac, .inl (cI, 9, .inl fc)), (aT, .inl (cI, 15, .inl ft))] : va_W)) rfl ?_
            refine z_seti (y := nI 1) k0 ?_
            refine z_if_ne C (pc := 471) (tgt := 476) dL_law_471 (by decide) (fun c_11 => ?_) (fun c_11 => ?_)
            · refine z_widen (ce' := 24 + 2 * (tn + 1)) (sl' := 168 + 18 * (tn + 1)) (by omega) (by omega) ?_
              refine z_lv (lv' := [(0, .ref bb), (1, .ref (a 0)), (2, .ref ab), (3, .ref ad), (4, .ref ac), (5, .ref ar), (8, .int (nI tn))]) ⟨rfl, rfl, rfl, rfl, rfl, rfl, rfl, trivial⟩ ?_
              exact join476 z iw_10 rw_10 fd fc frw_10 hzw_10 vz hl
            · exact absurd c_11 (by decide)
          · refine z_iconst C (pc := 237) (v := nI 1) dL_law_237 (by decide) ?_
            refine z_iload C (pc := 238) dL_law_238 rfl ?_
            refine z_iconst C (pc := 240) (v := nI 3) dL_law_240 (by decide) ?_
            refine z_ishr C (pc := 241) dL_law_241 ?_
            refine z_iconst C (pc := 242) (v := nI 1) dL_law_242 (by decide) ?_
            refine z_aload_n C (pc := 243) dL_law_243 rfl ?_
            refine z_iconst C (pc := 244) (v := nI 0) dL_law_244 (by decide) ?_
            have h_12 : vp_in (nI 0) 7 := by exact vp_in_nI (by omega) (by decide)
            refine z_iald C (pc := 245) 19 rfl h_12 dL_law_245 ?_
            refine z_seti (y := (fb 0)) (by rw [nI_clamp (by omega)]) ?_
            refine z_seti (y := nI (z.1 4)) li0 ?_
            refine z_ishl C (pc := 246) dL_law_246 ?_
            refine z_iconst C (pc := 247) (v := nI 1) dL_law_247 (by decide) ?_
            refine z_isub C (pc := 248) dL_law_248 ?_
            refine z_seti (y := nI (2 ^ z.1 4 - 1)) (one_shl (z.1 4) v4) ?_
            refine z_calli C (isC := []) rfl (by exact fun _ => rfl) (runS C (wc := []) (pc := 249) (rY' := rm 0 0) (nn := 2) (As := [.int (x_2 >>> ((nI 3) &&& 31)), .int (nI (2 ^ z.1 4 - 1))]) (rest := [.int (nI 1)]) (g_at l D cI tt (x_2 >>> ((nI 3) &&& 31)) (2 ^ z.1 4 - 1) (by omega) (by omega)) rfl rfl ⟨rfl, rfl, ⟨Nat.le_of_ble_eq_true rfl, Nat.le_of_ble_eq_true rfl⟩, (by show 24 + 2 * tn ≤ 600000; omega), (by show 168 + 18 * tn ≤ 7302250; omega)⟩ wl_L_8 ws_L_at wi_L wc_L_at (by decide +kernel) rfl rfl (Nat.le_of_ble_eq_true rfl) dL_law_249) (fun r_13 u_13 h_13 => ?_)
            obtain ⟨k3, hk3, ek3⟩ := h_13
            subst ek3
            refine z_ws (st' := [.int (nI k3), .int (nI 1)]) (ws' := ((cW cI a i r) ++ [(ab, .inl (cI, 7, .inl fb)), (ad, .inl (cI, 9, .inl fd)), (ar, .inl (cI, 3, .inl fr)), (ac, .inl (cI, 9, .inl fc)), (aT, .inl (cI, 15, .inl ft))])) rfl rfl ?_
            refine z_iadd C (pc := 252) dL_law_252 ?_
            refine z_seti (y := nI (1 + k3)) (nI_add _ _) ?_
            refine z_istore C (pc := 253) (lv' := [(0, .ref bb), (1, .ref (a 0)), (2, .ref ab), (3, .ref ad), (4, .ref ac), (5, .ref ar), (8, .int (nI tn)), (9, .int x_2), (10, .int (nI k1)), (11, .int (nI (1 + k3)))]) dL_law_253 (Nat.le_of_ble_eq_true rfl) rfl rfl ?_
            refine z_iconst C (pc := 255) (v := nI 1) dL_law_255 (by decide) ?_
            refine z_iload C (pc := 256) dL_law_256 rfl ?_
            refine z_bipush C (pc := 258) (v := nI 9) dL_law_258 (by decide) ?_
            refine z_ishr C (pc := 260) dL_law_260 ?_
            refine z_bipush C (pc := 261) (v := nI 6) dL_law_261 (by decide) ?_
            refine z_calli C (isC := []) rfl (by exact fun _ => rfl) (runS C (wc := []) (pc := 263) (rY' := rm 0 0) (nn := 2) (As := [.int (x_2 >>> ((nI 9) &&& 31)), .int (nI 6)]) (rest := [.int (nI 1)]) (g_at l D cI tt (x_2 >>> ((nI 9) &&& 31)) 6 (by omega) (by omega)) rfl rfl ⟨rfl, rfl, ⟨Nat.le_of_ble_eq_true rfl, Nat.le_of_ble_eq_true rfl⟩, (by show 24 + 2 * tn ≤ 600000; omega), (by show 168 + 18 * tn ≤ 7302250; omega)⟩ wl_L_8 ws_L_at wi_L wc_L_at (by decide +kernel) rfl rfl (Nat.le_of_ble_eq_true rfl) dL_law_263) (fun r_14 u_14 h_14 => ?_)
            obtain ⟨k5, hk5, ek5⟩ := h_14
            subst ek5
            refine z_ws (st' := [.int (nI k5), .int (nI 1)]) (ws' := ((cW cI a i r) ++ [(ab, .inl (cI, 7, .inl fb)), (ad, .inl (cI, 9, .inl fd)), (ar, .inl (cI, 3, .inl fr)), (ac, .inl (cI, 9, .inl fc)), (aT, .inl (cI, 15, .inl ft))])) rfl rfl ?_
            refine z_iadd C (pc := 266) dL_law_266 ?_
            refine z_seti (y := nI (1 + k5)) (nI_add _ _) ?_
            refine z_istore C (pc := 267) (lv' := [(0, .ref bb), (1, .ref (a 0)), (2, .ref ab), (3, .ref ad), (4, .ref ac), (5, .ref ar), (8, .int (nI tn)), (9, .int x_2), (10, .int (nI k1)), (11, .int (nI (1 + k3))), (12, .int (nI (1 + k5)))]) dL_law_267 (Nat.le_of_ble_eq_true rfl) rfl rfl ?_
            refine z_iload C (pc := 269) dL_law_269 rfl ?_
            refine z_bipush C (pc := 271) (v := nI 12) dL_law_271 (by decide) ?_
            refine z_ishr C (pc := 273) dL_law_273 ?_
            refine z_bipush C (pc := 274) (v := nI 41) dL_law_274 (by decide) ?_
            refine z_calli C (isC := []) rfl (by exact fun _ => rfl) (runS C (wc := []) (pc := 276) (rY' := rm 0 0) (nn := 2) (As := [.int (x_2 >>> ((nI 12) &&& 31)), .int (nI 41)]) (rest := []) (g_at l D cI tt (x_2 >>> ((nI 12) &&& 31)) 41 (by omega) (by omega)) rfl rfl ⟨rfl, rfl, ⟨Nat.le_of_ble_eq_true rfl, Nat.le_of_ble_eq_true rfl⟩, (by show 24 + 2 * tn ≤ 600000; omega), (by show 168 + 18 * tn ≤ 7302250; omega)⟩ wl_L_8 ws_L_at wi_L wc_L_at (by decide +kernel) rfl rfl (Nat.le_of_ble_eq_true rfl) dL_law_276) (fun r_15 u_15 h_15 => ?_)
            obtain ⟨k6, hk6, ek6⟩ := h_15
            subst ek6
            refine z_ws (st' := [.int (nI k6)]) (ws' := ((cW cI a i r) ++ [(ab, .inl (cI, 7, .inl fb)), (ad, .inl (cI, 9, .inl fd)), (ar, .inl (cI, 3, .inl fr)), (ac, .inl (cI, 9, .inl fc)), (aT, .inl (cI, 15, .inl ft))])) rfl rfl ?_
            refine z_istore C (pc := 279) (lv' := [(0, .ref bb), (1, .ref (a 0)), (2, .ref ab), (3, .ref ad), (4, .ref ac), (5, .ref ar), (8, .int (nI tn)), (9, .int x_2), (10, .int (nI k1)), (11, .int (nI (1 + k3))), (12, .int (nI (1 + k5))), (13, .int (nI k6))]) dL_law_279 (Nat.le_of_ble_eq_true rfl) rfl rfl ?_
            refine z_iload C (pc := 281) dL_law_281 rfl ?_
            refine z_aload_n C (pc := 283) dL_law_283 rfl ?_
            refine z_bipush C (pc := 284) (v := nI 6) dL_law_284 (by decide) ?_
            have h_16 : vp_in (nI 6) 9 := by exact vp_in_nI (by omega) (by decide)
            refine z_iald C (pc := 286) 20 rfl h_16 dL_law_286 ?_
            refine z_seti (y := (fd 6)) (by rw [nI_clamp (by omega)]) ?_
            refine z_seti (y := nI (z.1 5)) li3 ?_
            refine z_iconst C (pc := 287) (v := (-1)) dL_law_287 (by decide) ?_
            refine z_ixor C (pc := 288) dL_law_288 ?_
            refine z_iand C (pc := 289) dL_law_289 ?_
            refine z_if_ne C (pc := 290) (tgt := 297) dL_law_290 (by decide) (fun c_17 => ?_) (fun c_17 => ?_)
            · have hdd : ¬ deadv (nI (1 + k3)) (nI (z.1 5)) = 0 := c_17
              refine z_iconst C (pc := 297) (v := nI 0) dL_law_297 (by decide) ?_
              refine z_istore C (pc := 298) (lv' := [(0, .ref bb), (1, .ref (a 0)), (2, .ref ab), (3, .ref ad), (4, .ref ac), (5, .ref ar), (8, .int (nI tn)), (9, .int x_2), (10, .int (nI k1)), (11, .int (nI (1 + k3))), (12, .int (nI (1 + k5))), (13, .int (nI k6)), (14, .int (nI 0))]) dL_law_298 (Nat.le_of_ble_eq_true rfl) rfl rfl ?_
              refine z_aload C (pc := 300) dL_law_300 rfl ?_
              refine z_aload_n C (pc := 302) dL_law_302 rfl ?_
              refine z_callv C (isC := [22, 20]) rfl (by exact fun _ => rfl) (runS C (wc := [(ac, .inl (cI, 9, .inl fc)), (ad, .inl (cI, 9, .inl fd))]) (pc := 303) (rY' := rm 0 0) (nn := 2) (As := [.ref ac, .ref ad]) (rest := []) (g_over l D cI tt ac ad fc fd) rfl rfl ⟨rfl, rfl, ⟨Nat.le_of_ble_eq_true rfl, Nat.le_of_ble_eq_true rfl⟩, (by show 24 + 2 * tn ≤ 600000; omega), (by show 168 + 18 * tn ≤ 7302250; omega)⟩ wl_L_34 ws_L_over wi_L wc_L_over (by decide +kernel) rfl rfl (Nat.le_of_ble_eq_true rfl) dL_law_303) (fun u_18 h_18 => ?_)
              have hdc := DV_eq hdv h_18
              refine z_ws (st' := []) (ws' := ((cW cI a i r) ++ [(ab, .inl (cI, 7, .inl fb)), (ad, .inl (cI, 9, .inl fd)), (ar, .inl (cI, 3, .inl fr)), (ac, .inl (cI, 9, .inl u_18)), (aT, .inl (cI, 15, .inl ft))])) rfl rfl ?_
              refine z_aload_n C (pc := 306) dL_law_306 rfl ?_
              refine z_aload C (pc := 307) dL_law_307 rfl ?_
              refine z_aload C (pc := 309) dL_law_309 rfl ?_
              refine z_iload C (pc := 311) dL_law_311 rfl ?_
              refine z_iload C (pc := 313) dL_law_313 rfl ?_
              refine z_iload C (pc := 315) dL_law_315 rfl ?_
              refine z_callv C (isC := [19, 22, 21]) rfl (by exact fun _ => rfl) (runS C (wc := [(ab, .inl (cI, 7, .inl fb)), (ac, .inl (cI, 9, .inl u_18)), (ar, .inl (cI, 3, .inl fr))]) (pc := 317) (rY' := rm 2 45) (nn := 6) (As := [.ref ab, .ref ac, .ref ar, .int (nI (1 + k3)), .int (nI (1 + k5)), .int (nI k6)]) (rest := []) (g_march l D cI tt ab ac ar fb u_18 fr (z.2.1 1) (z.1 4) hbv (z.2.1 2) hdc (1 + k3) (1 + k5) k6 (by omega) (by omega) (by omega)) rfl rfl ⟨rfl, rfl, ⟨Nat.le_of_ble_eq_true rfl, Nat.le_of_ble_eq_true rfl⟩, (by show 24 + 2 * tn ≤ 600000; omega), (by show 168 + 18 * tn ≤ 7302250; omega)⟩ wl_L_38 ws_L_march wi_L wc_L_march (by decide +kernel) rfl rfl (Nat.le_of_ble_eq_true rfl) dL_law_317) (fun u_19 h_19 => ?_)
              obtain ⟨fc19, fr19⟩ := u_19
              try dsimp only at h_19
              have hm : LM u_18 fc19 fr19 (marS z (1 + k3) (1 + k5) k6) := h_19
              refine z_ws (st' := []) (ws' := ((cW cI a i r) ++ [(ab, .inl (cI, 7, .inl fb)), (ad, .inl (cI, 9, .inl fd)), (ar, .inl (cI, 3, .inl fr19)), (ac, .inl (cI, 9, .inl fc19)), (aT, .inl (cI, 15, .inl ft))])) rfl rfl ?_
              refine z_aload_n C (pc := 320) dL_law_320 rfl ?_
              refine z_iload C (pc := 321) dL_law_321 rfl ?_
              refine z_iload C (pc := 323) dL_law_323 rfl ?_
              refine z_iload C (pc := 325) dL_law_325 rfl ?_
              refine z_iconst C (pc := 327) (v := nI 0) dL_law_327 (by decide) ?_
              refine z_calliL C (by exact fun _ => cW_ad) (runV C (wc := (cW cI a i r)) (pc := 328) (rY' := rm 4 92) (nn := 4) (As := [.int (nI (1 + k3)), .int (nI (1 + k5)), .int (nI k6), .int (nI 0)]) (rest := []) (c_would l D cI tt a i r (nI (1 + k3)) (nI (1 + k5)) (nI k6) (nI 0) z hz vz) (apL_hC _ _) (full_nd _) ⟨rfl, rfl, ⟨Nat.le_of_ble_eq_true rfl, Nat.le_of_ble_eq_true rfl⟩, (by show 24 + 2 * tn ≤ 600000; omega), (by show 168 + 18 * tn ≤ 7302250; omega)⟩ wl_L_103 wm_X3_would we_X3_would wi_X3 wc_X3_would (by decide +kernel) rfl 0 rfl rfl rfl rfl (Nat.le_of_ble_eq_true rfl) dL_law_328) (fun q_20 u_20 h_20 => ?_)
              obtain ⟨i20, r20⟩ := u_20
              try dsimp only at h_20
              obtain ⟨k0, hz20⟩ := h_20
              refine z_ws (st' := [.int q_20]) (ws' := ((cW cI a i20 r20) ++ [(ab, .inl (cI, 7, .inl fb)), (ad, .inl (cI, 9, .inl fd)), (ar, .inl (cI, 3, .inl fr19)), (ac, .inl (cI, 9, .inl fc19)), (aT, .inl (cI, 15, .inl ft))])) rfl rfl ?_
              refine z_seti (y := (-103)) (k0.trans (would_out (w := nI 0) v4 (by omega) (by omega) (by omega) (by omega) (by omega) (by decide) (by decide) hdd)) ?_
              refine z_iload C (pc := 331) dL_law_331 rfl ?_
              refine z_if_eq C (pc := 333) (tgt := 343) dL_law_333 (by decide) (fun c_21 => ?_) (fun c_21 => ?_)
              · refine z_bipush C (pc := 343) (v := (-103)) dL_law_343 (by decide) ?_
                refine z_icmp_ne C (pc := 345) (tgt := 433) dL_law_345 (by decide) (fun c_22 => ?_) (fun c_22 => ?_)
                · exact absurd c_22 (by decide)
                · refine z_aload_n C (pc := 348) dL_law_348 rfl ?_
                  refine z_iload C (pc := 349) dL_law_349 rfl ?_
                  refine z_iload C (pc := 351) dL_law_351 rfl ?_
                  refine z_iload C (pc := 353) dL_law_353 rfl ?_
                  refine z_iconst C (pc := 355) (v := nI 1) dL_law_355 (by decide) ?_
                  refine z_calliL C (by exact fun _ => cW_ad) (runV C (wc := (cW cI a i20 r20)) (pc := 356) (rY' := rm 4 92) (nn := 4) (As := [.int (nI (1 + k3)), .int (nI (1 + k5)), .int (nI k6), .int (nI 1)]) (rest := []) (c_would l D cI tt a i20 r20 (nI (1 + k3)) (nI (1 + k5)) (nI k6) (nI 1) z hz20 vz) (apL_hC _ _) (full_nd _) ⟨rfl, rfl, ⟨Nat.le_of_ble_eq_true rfl, Nat.le_of_ble_eq_true rfl⟩, (by show 24 + 2 * tn ≤ 600000; omega), (by show 168 + 18 * tn ≤ 7302250; omega)⟩ wl_L_103 wm_X3_would we_X3_would wi_X3 wc_X3_would (by decide +kernel) rfl 0 rfl rfl rfl rfl (Nat.le_of_ble_eq_true rfl) dL_law_356) (fun q_23 u_23 h_23 => ?_)
                  obtain ⟨i23, r23⟩ := u_23
                  try dsimp only at h_23
                  obtain ⟨k0, hz23⟩ := h_23
                  refine z_ws (st' := [.int q_23]) (ws' := ((cW cI a i23 r23) ++ [(ab, .inl (cI, 7, .inl fb)), (ad, .inl (cI, 9, .inl fd)), (ar, .inl (cI, 3, .inl fr19)), (ac, .inl (cI, 9, .inl fc19)), (aT, .inl (cI, 15, .inl ft))])) rfl rfl ?_
                  refine z_seti (y := (-103)) (k0.trans (would_out (w := nI 1) v4 (by omega) (by omega) (by omega) (by omega) (by omega) (by decide) (by decide) hdd)) ?_
                  refine z_iload C (pc := 359) dL_law_359 rfl ?_
                  refine z_if_eq C (pc := 361) (tgt := 371) dL_law_361 (by decide) (fun c_24 => ?_) (fun c_24 => ?_)
                  · refine z_bipush C (pc := 371) (v := (-103)) dL_law_371 (by decide) ?_
                    refine z_icmp_ne C (pc := 373) (tgt := 433) dL_law_373 (by decide) (fun c_25 => ?_) (fun c_25 => ?_)
                    · exact absurd c_25 (by decide)
                    · refine z_aload_n C (pc := 376) dL_law_376 rfl ?_
                      refine z_iload C (pc := 377) dL_law_377 rfl ?_
                      refine z_iload C (pc := 379) dL_law_379 rfl ?_
                      refine z_iload C (pc := 381) dL_law_381 rfl ?_
                      refine z_iconst C (pc := 383) (v := nI 2) dL_law_383 (by decide) ?_
                      refine z_calliL C (by exact fun _ => cW_ad) (runV C (wc := (cW cI a i23 r23)) (pc := 384) (rY' := rm 4 92) (nn := 4) (As := [.int (nI (1 + k3)), .int (nI (1 + k5)), .int (nI k6), .int (nI 2)]) (rest := []) (c_would l D cI tt a i23 r23 (nI (1 + k3)) (nI (1 + k5)) (nI k6) (nI 2) z hz23 vz) (apL_hC _ _) (full_nd _) ⟨rfl, rfl, ⟨Nat.le_of_ble_eq_true rfl, Nat.le_of_ble_eq_true rfl⟩, (by show 24 + 2 * tn ≤ 600000; omega), (by show 168 + 18 * tn ≤ 7302250; omega)⟩ wl_L_103 wm_X3_would we_X3_would wi_X3 wc_X3_would (by decide +kernel) rfl 0 rfl rfl rfl rfl (Nat.le_of_ble_eq_true rfl) dL_law_384) (fun q_26 u_26 h_26 => ?_)
                      obtain ⟨i26, r26⟩ := u_26
                      try dsimp only at h_26
                      obtain ⟨k0, hz26⟩ := h_26
                      refine z_ws (st' := [.int q_26]) (ws' := ((cW cI a i26 r26) ++ [(ab, .inl (cI, 7, .inl fb)), (ad, .inl (cI, 9, .inl fd)), (ar, .inl (cI, 3, .inl fr19)), (ac, .inl (cI, 9, .inl fc19)), (aT, .inl (cI, 15, .inl ft))])) rfl rfl ?_
                      refine z_seti (y := (-103)) (k0.trans (would_out (w := nI 2) v4 (by omega) (by omega) (by omega) (by omega) (by omega) (by decide) (by decide) hdd)) ?_
                      refine z_iload C (pc := 387) dL_law_387 rfl ?_
                      refine z_if_eq C (pc := 389) (tgt := 400) dL_law_389 (by decide) (fun c_27 => ?_) (fun c_27 => ?_)
                      · refine z_bipush C (pc := 400) (v := (-103)) dL_law_400 (by decide) ?_
                        refine z_icmp_ne C (pc := 402) (tgt := 433) dL_law_402 (by decide) (fun c_28 => ?_) (fun c_28 => ?_)
                        · exact absurd c_28 (by decide)
                        · refine z_aload_n C (pc := 405) dL_law_405 rfl ?_
                          refine z_iload C (pc := 406) dL_law_406 rfl ?_
                          refine z_iload C (pc := 408) dL_law_408 rfl ?_
                          refine z_iload C (pc := 410) dL_law_410 rfl ?_
                          refine z_iconst C (pc := 412) (v := nI 3) dL_law_412 (by decide) ?_
                          refine z_calliL C (by exact fun _ => cW_ad) (runV C (wc := (cW cI a i26 r26)) (pc := 413) (rY' := rm 4 92) (nn := 4) (As := [.int (nI (1 + k3)), .int (nI (1 + k5)), .int (nI k6), .int (nI 3)]) (rest := []) (c_would l D cI tt a i26 r26 (nI (1 + k3)) (nI (1 + k5)) (nI k6) (nI 3) z hz26 vz) (apL_hC _ _) (full_nd _) ⟨rfl, rfl, ⟨Nat.le_of_ble_eq_true rfl, Nat.le_of_ble_eq_true rfl⟩, (by show 24 + 2 * tn ≤ 600000; omega), (by show 168 + 18 * tn ≤ 7302250; omega)⟩ wl_L_103 wm_X3_would we_X3_would wi_X3 wc_X3_would (by decide +kernel) rfl 0 rfl rfl rfl rfl (Nat.le_of_ble_eq_true rfl) dL_law_413) (fun q_29 u_29 h_29 => ?_)
                          obtain ⟨i29, r29⟩ := u_29
                          try dsimp only at h_29
                          obtain ⟨k0, hz29⟩ := h_29
                          refine z_ws (st' := [.int q_29]) (ws' := ((cW cI a i29 r29) ++ [(ab, .inl (cI, 7, .inl fb)), (ad, .inl (cI, 9, .inl fd)), (ar, .inl (cI, 3, .inl fr19)), (ac, .inl (cI, 9, .inl fc19)), (aT, .inl (cI, 15, .inl ft))])) rfl rfl ?_
                          refine z_seti (y := (-103)) (k0.trans (would_out (w := nI 3) v4 (by omega) (by omega) (by omega) (by omega) (by omega) (by decide) (by decide) hdd)) ?_
                          refine z_iload C (pc := 416) dL_law_416 rfl ?_
                          refine z_if_eq C (pc := 418) (tgt := 428) dL_law_418 (by decide) (fun c_30 => ?_) (fun c_30 => ?_)
                          · refine z_bipush C (pc := 428) (v := (-103)) dL_law_428 (by decide) ?_
                            refine z_icmp_eq C (pc := 430) (tgt := 435) dL_law_430 (by decide) (fun c_31 => ?_) (fun c_31 => ?_)
                            · refine z_goto C (pc := 435) (tgt := 476) dL_law_435 (by decide) ?_
                              refine z_widen (ce' := 24 + 2 * (tn + 1)) (sl' := 168 + 18 * (tn + 1)) (by omega) (by omega) ?_
                              refine z_lv (lv' := [(0, .ref bb), (1, .ref (a 0)), (2, .ref ab), (3, .ref ad), (4, .ref ac), (5, .ref ar), (8, .int (nI tn))]) ⟨rfl, rfl, rfl, rfl, rfl, rfl, rfl, trivial⟩ ?_
                              exact join476 z i29 r29 fd fc19 fr19 hz29 vz hl
                            · exact absurd c_31 (by decide)
                          · exact absurd c_30 (by decide)
                      · exact absurd c_27 (by decide)
                  · exact absurd c_24 (by decide)
              · exact absurd c_21 (by decide)
            · have hdd : deadv (nI (1 + k3)) (nI (z.1 5)) = 0 := c_17
              refine z_iconst C (pc := 293) (v := nI 1) dL_law_293 (by decide) ?_
              refine z_goto C (pc := 294) (tgt := 298) dL_law_294 (by decide) ?_
              refine z_istore C (pc := 298) (lv' := [(0, .ref bb), (1, .ref (a 0)), (2, .ref ab), (3, .ref ad), (4, .ref ac), (5, .ref ar), (8, .int (nI tn)), (9, .int x_2), (10, .int (nI k1)), (11, .int (nI (1 + k3))), (12, .int (nI (1 + k5))), (13, .int (nI k6)), (14, .int (nI 1))]) dL_law_298 (Nat.le_of_ble_eq_true rfl) rfl rfl ?_
              refine z_aload C (pc := 300) dL_law_300 rfl ?_
              refine z_aload_n C (pc := 302) dL_law_302 rfl ?_
              refine z_callv C (isC := [22, 20]) rfl (by exact fun _ => rfl) (runS C (wc := [(ac, .inl (cI, 9, .inl fc)), (ad, .inl (cI, 9, .inl fd))]) (pc := 303) (rY' := rm 0 0) (nn := 2) (As := [.ref ac, .ref ad]) (rest := []) (g_over l D cI tt ac ad fc fd) rfl rfl ⟨rfl, rfl, ⟨Nat.le_of_ble_eq_true rfl, Nat.le_of_ble_eq_true rfl⟩, (by show 24 + 2 * tn ≤ 600000; omega), (by show 168 + 18 * tn ≤ 7302250; omega)⟩ wl_L_34 ws_L_over wi_L wc_L_over (by decide +kernel) rfl rfl (Nat.le_of_ble_eq_true rfl) dL_law_303) (fun u_32 h_32 => ?_)
              have hdc := DV_eq hdv h_32
              refine z_ws (st' := []) (ws' := ((cW cI a i r) ++ [(ab, .inl (cI, 7, .inl fb)), (ad, .inl (cI, 9, .inl fd)), (ar, .inl (cI, 3, .inl fr)), (ac, .inl (cI, 9, .inl u_32)), (aT, .inl (cI, 15, .inl ft))])) rfl rfl ?_
              refine z_aload_n C (pc := 306) dL_law_306 rfl ?_
              refine z_aload C (pc := 307) dL_law_307 rfl ?_
              refine z_aload C (pc := 309) dL_law_309 rfl ?_
              refine z_iload C (pc := 311) dL_law_311 rfl ?_
              refine z_iload C (pc := 313) dL_law_313 rfl ?_
              refine z_iload C (pc := 315) dL_law_315 rfl ?_
              refine z_callv C (isC := [19, 22, 21]) rfl (by exact fun _ => rfl) (runS C (wc := [(ab, .inl (cI, 7, .inl fb)), (ac, .inl (cI, 9, .inl u_32)), (ar, .inl (cI, 3, .inl fr))]) (pc := 317) (rY' := rm 2 45) (nn := 6) (As := [.ref ab, .ref ac, .ref ar, .int (nI (1 + k3)), .int (nI (1 + k5)), .int (nI k6)]) (rest := []) (g_march l D cI tt ab ac ar fb u_32 fr (z.2.1 1) (z.1 4) hbv (z.2.1 2) hdc (1 + k3) (1 + k5) k6 (by omega) (by omega) (by omega)) rfl rfl ⟨rfl, rfl, ⟨Nat.le_of_ble_eq_true rfl, Nat.le_of_ble_eq_true rfl⟩, (by show 24 + 2 * tn ≤ 600000; omega), (by show 168 + 18 * tn ≤ 7302250; omega)⟩ wl_L_38 ws_L_march wi_L wc_L_march (by decide +kernel) rfl rfl (Nat.le_of_ble_eq_true rfl) dL_law_317) (fun u_33 h_33 => ?_)
              obtain ⟨fc33, fr33⟩ := u_33
              try dsimp only at h_33
              have hm : LM u_32 fc33 fr33 (marS z (1 + k3) (1 + k5) k6) := h_33
              refine z_ws (st' := []) (ws' := ((cW cI a i r) ++ [(ab, .inl (cI, 7, .inl fb)), (ad, .inl (cI, 9, .inl fd)), (ar, .inl (cI, 3, .inl fr33)), (ac, .inl (cI, 9, .inl fc33)), (aT, .inl (cI, 15, .inl ft))])) rfl rfl ?_
              refine z_aload_n C (pc := 320) dL_law_320 rfl ?_
              refine z_iload C (pc := 321) dL_law_321 rfl ?_
              refine z_iload C (pc := 323) dL_law_323 rfl ?_
              refine z_iload C (pc := 325) dL_law_325 rfl ?_
              refine z_iconst C (pc := 327) (v := nI 0) dL_law_327 (by decide) ?_
              refine z_calliL C (by exact fun _ => cW_ad) (runV C (wc := (cW cI a i r)) (pc := 328) (rY' := rm 4 92) (nn := 4) (As := [.int (nI (1 + k3)), .int (nI (1 + k5)), .int (nI k6), .int (nI 0)]) (rest := []) (c_would l D cI tt a i r (nI (1 + k3)) (nI (1 + k5)) (nI k6) (nI 0) z hz vz) (apL_hC _ _) (full_nd _) ⟨rfl, rfl, ⟨Nat.le_of_ble_eq_true rfl, Nat.le_of_ble_eq_true rfl⟩, (by show 24 + 2 * tn ≤ 600000; omega), (by show 168 + 18 * tn ≤ 7302250; omega)⟩ wl_L_103 wm_X3_would we_X3_would wi_X3 wc_X3_would (by decide +kernel) rfl 0 rfl rfl rfl rfl (Nat.le_of_ble_eq_true rfl) dL_law_328) (fun q_34 u_34 h_34 => ?_)
              obtain ⟨i34, r34⟩ := u_34
              try dsimp only at h_34
              obtain ⟨k0, hz34⟩ := h_34
              refine z_ws (st' := [.int q_34]) (ws' := ((cW cI a i34 r34) ++ [(ab, .inl (cI, 7, .inl fb)), (ad, .inl (cI, 9, .inl fd)), (ar, .inl (cI, 3, .inl fr33)), (ac, .inl (cI, 9, .inl fc33)), (aT, .inl (cI, 15, .inl ft))])) rfl rfl ?_
              refine z_seti (y := (nI (marS z (1 + k3) (1 + k5) k6).1)) (k0.trans ((would_in (w := nI 0) v4 (by omega) (by omega) (by omega) (by omega) (by omega) (by decide) (by decide) hdd).trans (if_pos (by decide)))) ?_
              refine z_iload C (pc := 331) dL_law_331 rfl ?_
              refine z_if_eq C (pc := 333) (tgt := 343) dL_law_333 (by decide) (fun c_35 => ?_) (fun c_35 => ?_)
              · exact absurd c_35 (by decide)
              · refine z_aload C (pc := 336) dL_law_336 rfl ?_
                refine z_iconst C (pc := 338) (v := nI 0) dL_law_338 (by decide) ?_
                have h_36 : vp_in (nI 0) 3 := by exact vp_in_nI (by omega) (by decide)
                refine z_iald C (pc := 339) 21 rfl h_36 dL_law_339 ?_
                refine z_seti (y := (fr33 0)) (by rw [nI_clamp (by omega)]) ?_
                refine z_seti (y := nI (marS z (1 + k3) (1 + k5) k6).1) hm.1 ?_
                refine z_goto C (pc := 340) (tgt := 345) dL_law_340 (by decide) ?_
                refine z_icmp_ne C (pc := 345) (tgt := 433) dL_law_345 (by decide) (fun c_37 => ?_) (fun c_37 => ?_)
                · exact absurd rfl c_37
                · refine z_aload_n C (pc := 348) dL_law_348 rfl ?_
                  refine z_iload C (pc := 349) dL_law_349 rfl ?_
                  refine z_iload C (pc := 351) dL_law_351 rfl ?_
                  refine z_iload C (pc := 353) dL_law_353 rfl ?_
                  refine z_iconst C (pc := 355) (v := nI 1) dL_law_355 (by decide) ?_
                  refine z_calliL C (by exact fun _ => cW_ad) (runV C (wc := (cW cI a i34 r34)) (pc := 356) (rY' := rm 4 92) (nn := 4) (As := [.int (nI (1 + k3)), .int (nI (1 + k5)), .int (nI k6), .int (nI 1)]) (rest := []) (c_would l D cI tt a i34 r34 (nI (1 + k3)) (nI (1 + k5)) (nI k6) (nI 1) z hz34 vz) (apL_hC _ _) (full_nd _) ⟨rfl, rfl, ⟨Nat.le_of_ble_eq_true rfl, Nat.le_of_ble_eq_true rfl⟩, (by show 24 + 2 * tn ≤ 600000; omega), (by show 168 + 18 * tn ≤ 7302250; omega)⟩ wl_L_103 wm_X3_would we_X3_would wi_X3 wc_X3_would (by decide +kernel) rfl 0 rfl rfl rfl rfl (Nat.le_of_ble_eq_true rfl) dL_law_356) (fun q_38 u_38 h_38 => ?_)
                  obtain ⟨i38, r38⟩ := u_38
                  try dsimp only at h_38
                  obtain ⟨k0, hz38⟩ := h_38
                  refine z_ws (st' := [.int q_38]) (ws' := ((cW cI a i38 r38) ++ [(ab, .inl (cI, 7, .inl fb)), (ad, .inl (cI, 9, .inl fd)), (ar, .inl (cI, 3, .inl fr33)), (ac, .inl (cI, 9, .inl fc33)), (aT, .inl (cI, 15, .inl ft))])) rfl rfl ?_
                  refine z_seti (y := (nI (marS z (1 + k3) (1 + k5) k6).2.1)) (k0.trans ((would_in (w := nI 1) v4 (by omega) (by omega) (by omega) (by omega) (by omega) (by decide) (by decide) hdd).trans ((if_neg (by decide)).trans (if_pos (by decide))))) ?_
                  refine z_iload C (pc := 359) dL_law_359 rfl ?_
                  refine z_if_eq C (pc := 361) (tgt := 371) dL_law_361 (by decide) (fun c_39 => ?_) (fun c_39 => ?_)
                  · exact absurd c_39 (by decide)
                  · refine z_aload C (pc := 364) dL_law_364 rfl ?_
                    refine z_iconst C (pc := 366) (v := nI 1) dL_law_366 (by decide) ?_
                    have h_40 : vp_in (nI 1) 3 := by exact vp_in_nI (by omega) (by decide)
                    refine z_iald C (pc := 367) 21 rfl h_40 dL_law_367 ?_
                    refine z_seti (y := (fr33 1)) (by rw [nI_clamp (by omega)]) ?_
                    refine z_seti (y := nI (marS z (1 + k3) (1 + k5) k6).2.1) hm.2.1 ?_
                    refine z_goto C (pc := 368) (tgt := 373) dL_law_368 (by decide) ?_
                    refine z_icmp_ne C (pc := 373) (tgt := 433) dL_law_373 (by decide) (fun c_41 => ?_) (fun c_41 => ?_)
                    · exact absurd rfl c_41
                    · refine z_aload_n C (pc := 376) dL_law_376 rfl ?_
                      refine z_iload C (pc := 377) dL_law_377 rfl ?_
                      refine z_iload C (pc := 379) dL_law_379 rfl ?_
                      refine z_iload C (pc := 381) dL_law_381 rfl ?_
                      refine z_iconst C (pc := 383) (v := nI 2) dL_law_383 (by decide) ?_
                      refine z_calliL C (by exact fun _ => cW_ad) (runV C (wc := (cW cI a i38 r38)) (pc := 384) (rY' := rm 4 92) (nn := 4) (As := [.int (nI (1 + k3)), .int (nI (1 + k5)), .int (nI k6), .int (nI 2)]) (rest := []) (c_would l D cI tt a i38 r38 (nI (1 + k3)) (nI (1 + k5)) (nI k6) (nI 2) z hz38 vz) (apL_hC _ _) (full_nd _) ⟨rfl, rfl, ⟨Nat.le_of_ble_eq_true rfl, Nat.le_of_ble_eq_true rfl⟩, (by show 24 + 2 * tn ≤ 600000; omega), (by show 168 + 18 * tn ≤ 7302250; omega)⟩ wl_L_103 wm_X3_would we_X3_would wi_X3 wc_X3_would (by decide +kernel) rfl 0 rfl rfl rfl rfl (Nat.le_of_ble_eq_true rfl) dL_law_384) (fun q_42 u_42 h_42 => ?_)
                      obtain ⟨i42, r42⟩ := u_42
                      try dsimp only at h_42
                      obtain ⟨k0, hz42⟩ := h_42
                      refine z_ws (st' := [.int q_42]) (ws' := ((cW cI a i42 r42) ++ [(ab, .inl (cI, 7, .inl fb)), (ad, .inl (cI, 9, .inl fd)), (ar, .inl (cI, 3, .inl fr33)), (ac, .inl (cI, 9, .inl fc33)), (aT, .inl (cI, 15, .inl ft))])) rfl rfl ?_
                      refine z_seti (y := (nI (sumN (marS z (1 + k3) (1 + k5) k6).2.2.1))) (k0.trans ((would_in (w := nI 2) v4 (by omega) (by omega) (by omega) (by omega) (by omega) (by decide) (by decide) hdd).trans ((if_neg (by decide)).trans ((if_neg (by decide)).trans (if_pos (by decide)))))) ?_
                      refine z_iload C (pc := 387) dL_law_387 rfl ?_
                      refine z_if_eq C (pc := 389) (tgt := 400) dL_law_389 (by decide) (fun c_43 => ?_) (fun c_43 => ?_)
                      · exact absurd c_43 (by decide)
                      · refine z_aload C (pc := 392) dL_law_392 rfl ?_
                        refine z_calli C (isC := [22]) rfl (by exact fun _ => rfl) (runS C (wc := [(ac, .inl (cI, 9, .inl fc33))]) (pc := 394) (rY' := rm 0 0) (nn := 1) (As := [.ref ac]) (rest := [.int (nI (sumN (marS z (1 + k3) (1 + k5) k6).2.2.1))]) (g_lying l D cI tt ac fc33 (marS z (1 + k3) (1 + k5) k6).2.2.1 hm.2.2.2.1) rfl rfl ⟨rfl, rfl, ⟨Nat.le_of_ble_eq_true rfl, Nat.le_of_ble_eq_true rfl⟩, (by show 24 + 2 * tn ≤ 600000; omega), (by show 168 + 18 * tn ≤ 7302250; omega)⟩ wl_L_62 ws_L_lying wi_L wc_L_lying (by decide +kernel) rfl rfl (Nat.le_of_ble_eq_true rfl) dL_law_394) (fun r_44 u_44 h_44 => ?_)
                        subst h_44
                        refine z_ws (st' := [.int (nI (sumN (marS z (1 + k3) (1 + k5) k6).2.2.1)), .int (nI (sumN (marS z (1 + k3) (1 + k5) k6).2.2.1))]) (ws' := ((cW cI a i42 r42) ++ [(ab, .inl (cI, 7, .inl fb)), (ad, .inl (cI, 9, .inl fd)), (ar, .inl (cI, 3, .inl fr33)), (ac, .inl (cI, 9, .inl fc33)), (aT, .inl (cI, 15, .inl ft))])) rfl rfl ?_
                        refine z_goto C (pc := 397) (tgt := 402) dL_law_397 (by decide) ?_
                        refine z_icmp_ne C (pc := 402) (tgt := 433) dL_law_402 (by decide) (fun c_45 => ?_) (fun c_45 => ?_)
                        · exact absurd rfl c_45
                        · refine z_aload_n C (pc := 405) dL_law_405 rfl ?_
                          refine z_iload C (pc := 406) dL_law_406 rfl ?_
                          refine z_iload C (pc := 408) dL_law_408 rfl ?_
                          refine z_iload C (pc := 410) dL_law_410 rfl ?_
                          refine z_iconst C (pc := 412) (v := nI 3) dL_law_412 (by decide) ?_
                          refine z_calliL C (by exact fun _ => cW_ad) (runV C (wc := (cW cI a i42 r42)) (pc := 413) (rY' := rm 4 92) (nn := 4) (As := [.int (nI (1 + k3)), .int (nI (1 + k5)), .int (nI k6), .int (nI 3)]) (rest := []) (c_would l D cI tt a i42 r42 (nI (1 + k3)) (nI (1 + k5)) (nI k6) (nI 3) z hz42 vz) (apL_hC _ _) (full_nd _) ⟨rfl, rfl, ⟨Nat.le_of_ble_eq_true rfl, Nat.le_of_ble_eq_true rfl⟩, (by show 24 + 2 * tn ≤ 600000; omega), (by show 168 + 18 * tn ≤ 7302250; omega)⟩ wl_L_103 wm_X3_would we_X3_would wi_X3 wc_X3_would (by decide +kernel) rfl 0 rfl rfl rfl rfl (Nat.le_of_ble_eq_true rfl) dL_law_413) (fun q_46 u_46 h_46 => ?_)
                          obtain ⟨i46, r46⟩ := u_46
                          try dsimp only at h_46
                          obtain ⟨k0, hz46⟩ := h_46
                          refine z_ws (st' := [.int q_46]) (ws' := ((cW cI a i46 r46) ++ [(ab, .inl (cI, 7, .inl fb)), (ad, .inl (cI, 9, .inl fd)), (ar, .inl (cI, 3, .inl fr33)), (ac, .inl (cI, 9, .inl fc33)), (aT, .inl (cI, 15, .inl ft))])) rfl rfl ?_
                          refine z_seti (y := (nI (marS z (1 + k3) (1 + k5) k6).2.2.2)) (k0.trans ((would_in (w := nI 3) v4 (by omega) (by omega) (by omega) (by omega) (by omega) (by decide) (by decide) hdd).trans ((if_neg (by decide)).trans ((if_neg (by decide)).trans ((if_neg (by decide)).trans (rfl)))))) ?_
                          refine z_iload C (pc := 416) dL_law_416 rfl ?_
                          refine z_if_eq C (pc := 418) (tgt := 428) dL_law_418 (by decide) (fun c_47 => ?_) (fun c_47 => ?_)
                          · exact absurd c_47 (by decide)
                          · refine z_aload C (pc := 421) dL_law_421 rfl ?_
                            refine z_iconst C (pc := 423) (v := nI 2) dL_law_423 (by decide) ?_
                            have h_48 : vp_in (nI 2) 3 := by exact vp_in_nI (by omega) (by decide)
                            refine z_iald C (pc := 424) 21 rfl h_48 dL_law_424 ?_
                            refine z_seti (y := (fr33 2)) (by rw [nI_clamp (by omega)]) ?_
                            refine z_seti (y := nI (marS z (1 + k3) (1 + k5) k6).2.2.2) hm.2.2.1 ?_
                            refine z_goto C (pc := 425) (tgt := 430) dL_law_425 (by decide) ?_
                            refine z_icmp_eq C (pc := 430) (tgt := 435) dL_law_430 (by decide) (fun c_49 => ?_) (fun c_49 => ?_)
                            · refine z_goto C (pc := 435) (tgt := 476) dL_law_435 (by decide) ?_
                              refine z_widen (ce' := 24 + 2 * (tn + 1)) (sl' := 168 + 18 * (tn + 1)) (by omega) (by omega) ?_
                              refine z_lv (lv' := [(0, .ref bb), (1, .ref (a 0)), (2, .ref ab), (3, .ref ad), (4, .ref ac), (5, .ref ar), (8, .int (nI tn))]) ⟨rfl, rfl, rfl, rfl, rfl, rfl, rfl, trivial⟩ ?_
                              exact join476 z i46 r46 fd fc33 fr33 hz46 vz hl
                            · exact absurd rfl c_49
        · refine z_aload_n C (pc := 213) dL_law_213 rfl ?_
          refine z_aload_n C (pc := 214) dL_law_214 rfl ?_
          refine z_aload_n C (pc := 215) dL_law_215 rfl ?_
          refine z_aload C (pc := 216) dL_law_216 rfl ?_
          refine z_iload C (pc := 218) dL_law_218 rfl ?_
          refine z_iconst C (pc := 220) (v := nI 3) dL_law_220 (by decide) ?_
          refine z_ishr C (pc := 221) dL_law_221 ?_
          refine z_ws (st' := [.int (x_2 >>> ((nI 3) &&& 31)), .ref ar, .ref ad, .ref ab, .ref (a 0)]) (ws' := ((cW cI a i r) ++ ([(ab, .inl (cI, 7, .inl fb)), (ad, .inl (cI, 9, .inl fd)), (ar, .inl (cI, 3, .inl fr))] : va_W)) ++ ([(ac, .inl (cI, 9, .inl fc)), (aT, .inl (cI, 15, .inl ft))] : va_W)) (List.append_assoc (cW cI a i r) ([(ab, .inl (cI, 7, .inl fb)), (ad, .inl (cI, 9, .inl fd)), (ar, .inl (cI, 3, .inl fr))] : va_W) ([(ac, .inl (cI, 9, .inl fc)), (aT, .inl (cI, 15, .inl ft))] : va_W)).symm rfl ?_
          refine z_calliL C (by exact fun _ => rfl) (runS C (wc := ((cW cI a i r) ++ ([(ab, .inl (cI, 7, .inl fb)), (ad, .inl (cI, 9, .inl fd)), (ar, .inl (cI, 3, .inl fr))] : va_W))) (pc := 222) (rY' := rm 5 115) (nn := 5) (As := [.ref (a 0), .ref ab, .ref ad, .ref ar, .int (x_2 >>> ((nI 3) &&& 31))]) (rest := []) (g_does l D cI tt a i r ab ad ar fb fd fr (x_2 >>> ((nI 3) &&& 31)) z hz vz hl) (apL_hC _ _) (full_nd _) ⟨rfl, rfl, ⟨Nat.le_of_ble_eq_true rfl, Nat.le_of_ble_eq_true rfl⟩, (by show 24 + 2 * tn ≤ 600000; omega), (by show 168 + 18 * tn ≤ 7302250; omega)⟩ wl_L_99 ws_L_does wi_L wc_L_does (by decide +kernel) rfl rfl (Nat.le_of_ble_eq_true rfl) dL_law_222) (fun r_50 u_50 h_50 => ?_)
          obtain ⟨i50, r50, fd50, fr50⟩ := u_50
          try dsimp only at h_50
          obtain ⟨k0, z50, hz50, vz50, hl50⟩ := h_50
          refine z_ws (st' := [.int r_50]) (ws' := ((cW cI a i50 r50) ++ [(ab, .inl (cI, 7, .inl fb)), (ad, .inl (cI, 9, .inl fd50)), (ar, .inl (cI, 3, .inl fr50)), (ac, .inl (cI, 9, .inl fc)), (aT, .inl (cI, 15, .inl ft))])) (List.append_assoc (cW cI a i50 r50) ([(ab, .inl (cI, 7, .inl fb)), (ad, .inl (cI, 9, .inl fd50)), (ar, .inl (cI, 3, .inl fr50))] : va_W) ([(ac, .inl (cI, 9, .inl fc)), (aT, .inl (cI, 15, .inl ft))] : va_W)) rfl ?_
          refine z_seti (y := (nI 1)) k0 ?_
          refine z_if_ne C (pc := 225) (tgt := 476) dL_law_225 (by decide) (fun c_51 => ?_) (fun c_51 => ?_)
          · refine z_widen (ce' := 24 + 2 * (tn + 1)) (sl' := 168 + 18 * (tn + 1)) (by omega) (by omega) ?_
            refine z_lv (lv' := [(0, .ref bb), (1, .ref (a 0)), (2, .ref ab), (3, .ref ad), (4, .ref ac), (5, .ref ar), (8, .int (nI tn))]) ⟨rfl, rfl, rfl, rfl, rfl, rfl, rfl, trivial⟩ ?_
            exact join476 z50 i50 r50 fd50 fc fr50 hz50 vz50 hl50
          · exact absurd c_51 (by decide)
  refine z_widen (ce' := 24 + 2 * 0) (sl' := 168 + 18 * 0) (by decide) (by decide) ?_
  refine z_lv (lv' := [(0, .ref bb), (1, .ref (a 0)), (2, .ref ab), (3, .ref ad), (4, .ref ac), (5, .ref ar), (8, .int (nI 0))]) ⟨rfl, rfl, rfl, rfl, rfl, rfl, rfl, trivial⟩ ?_
  exact key181 (_ + 1) 0 z0 i0 r0 d0 c0 q0 (Nat.lt_succ_self _) (Nat.zero_le _) hz0 vz0 hl0
