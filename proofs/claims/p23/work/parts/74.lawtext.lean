/-! a camp by the numbers, its text -/
def cod : Nat → Nat | 0 => 109 | 1 => 112 | 2 => 100 | 3 => 98 | _ => 104
theorem cod_k : ∀ t, t < 5 → kindOfv (nI (cod t)) ≠ -1 ∧ nI (cod t) ≠ 59 ∧ kdn (nI (cod t)) = t ∧ 1 ≤ cod t ∧ cod t ≤ 126 := by decide +kernel
theorem dig_k : ∀ v, v < 10 → 48 ≤ nI (48 + v) ∧ nI (48 + v) ≤ 57 ∧ fdn (nI (48 + v)) = v := by decide +kernel
def TX (f : Nat → Int32) (kd : Nat → Nat) (N : Nat) (c : Nat → Nat) : Prop := (∀ j, j < N → f j = nI (cod (kd j)) ∧ kd j ≤ 4) ∧ f N = nI 59 ∧ ∀ j, j < 5 → f (N + 1 + j) = nI (48 + c j) ∧ c j ≤ 9
theorem gdb_kin {f : Nat → Int32} {p t : Nat} (hp : p < 6) (hf : f p = nI (cod t)) (ht : t ≤ 4) : gdb f p 0 = true ∧ gde f p 0 = 0 := by
  obtain ⟨h1, h2, -⟩ := cod_k t (by omega)
  refine ⟨?_, ?_⟩
  · unfold gdb
    rw [if_neg (by decide), hf, decide_eq_true hp, decide_eq_true h1]
    simp
  · unfold gde
    rw [if_neg (by decide), if_neg (fun h => h2 (hf.symm.trans h.1))]
theorem gdb_dig {f : Nat → Int32} {p en v : Nat} (he : en ≠ 0) (hp : p < en + 5) (hf : f p = nI (48 + v)) (hv : v ≤ 9) : gdb f p en = true ∧ gde f p en = en := by
  obtain ⟨h1, h2, -⟩ := dig_k v (by omega)
  refine ⟨?_, ?_⟩
  · unfold gdb
    rw [if_pos he, hf, decide_eq_true hp, decide_eq_true h1, decide_eq_true h2]; rfl
  · unfold gde
    rw [if_pos he]
theorem scan_kin {f : Nat → Int32} {kd c : Nat → Nat} {N : Nat} (h6 : N ≤ 6) (h : TX f kd N c) : ∀ p, p ≤ N → scv f (N + 6) 0 0 = scv f (N + 6 - p) p 0
  | 0, _ => rfl
  | p + 1, hp => by
    obtain ⟨h1, h2⟩ := gdb_kin (p := p) (by omega) (h.1 p (by omega)).1 (h.1 p (by omega)).2
    rw [scan_kin h6 h p (by omega), show N + 6 - p = (N + 6 - (p + 1)) + 1 by omega, scv_t h1, h2]
theorem scan_dig {f : Nat → Int32} {kd c : Nat → Nat} {N : Nat} (h : TX f kd N c) : ∀ q, q ≤ 5 → scv f 5 (N + 1) (N + 1) = scv f (5 - q) (N + 1 + q) (N + 1)
  | 0, _ => rfl
  | q + 1, hq => by
    obtain ⟨h1, h2⟩ := gdb_dig (p := N + 1 + q) (en := N + 1) (Nat.succ_ne_zero N) (by omega) (h.2.2 q (by omega)).1 (h.2.2 q (by omega)).2
    rw [scan_dig h q (by omega), show 5 - q = (5 - (q + 1)) + 1 by omega, scv_t h1, h2]
    rfl
theorem scan_text {f : Nat → Int32} {kd c : Nat → Nat} {N : Nat} (h2 : 2 ≤ N) (h6 : N ≤ 6) (h : TX f kd N c) : scv f (N + 6) 0 0 = (N + 6, N + 1) := by
  rw [scan_kin h6 h N (Nat.le_refl _), show N + 6 - N = 5 + 1 by omega]
  have g1 : gdb f N 0 = true := by
    unfold gdb
    rw [if_neg (by decide), h.2.1, decide_eq_true h2]
    rfl
  have g2 : gde f N 0 = N + 1 := by
    unfold gde
    rw [if_neg (by decide), if_pos ⟨h.2.1, h2⟩]
  rw [scv_t g1, g2, scan_dig h 5 (Nat.le_refl _)]
  rfl
theorem camp_text {f : Nat → Int32} {kd c : Nat → Nat} {N : Nat} (h2 : 2 ≤ N) (h6 : N ≤ 6) (h : TX f kd N c) : campb f (N + 6) = true := by
  unfold campb
  rw [scan_text h2 h6 h]
  simp
theorem letter_ok {z : SG} {x : Int32} {k : Nat} (hx : x = nI k) (h1 : 1 ≤ k) (h2 : k ≤ 126) (h3 : z.1 3 < 15) : letterF z x = (nI (z.1 3 + 1), (upG z.1 3 (z.1 3 + 1), z.2.1, upd z.2.2 (z.1 3) x)) := by
  unfold letterF
  rw [if_neg (fun h => h.elim (fun h => absurd h (by rw [hx]; exact nI_nlt (b := 1) h1 (by omega))) (fun h => h (by rw [hx]; exact nI_le (b := 126) h2 (by decide)))), if_neg (by omega)]
/-- the law's own numbers hold the state -/
def LI (z : SG) (fb fd : Nat → Int32) : Prop := fb 0 = nI (z.1 4) ∧ (∀ k, k < z.1 4 → fb (k + 1) = nI (z.2.1 1 k)) ∧ (∀ k, k < 5 → fd (k + 1) = nI (z.2.1 2 k)) ∧ fd 6 = nI (z.1 5) ∧ fd 7 = nI (z.1 6) ∧ fd 8 = nI (z.1 7) ∧ 2 ≤ z.1 4
theorem LI.bv {z : SG} {fb fd : Nat → Int32} (h : LI z fb fd) (v : VS z) : BV fb (z.2.1 1) (z.1 4) := ⟨h.1, v.2.2.2.1, fun k hk => ⟨h.2.1 k hk, v.2.2.2.2.2.2.1 k hk⟩⟩
theorem LI.dv {z : SG} {fb fd : Nat → Int32} (h : LI z fb fd) (v : VS z) : DV fd (z.2.1 2) := fun k hk => ⟨h.2.2.1 k hk, v.2.2.2.2.2.2.2.1 k hk⟩
/-- the camp that is read out of it -/
theorem camp_li {z : SG} {fb fd ft : Nat → Int32} {kd c : Nat → Nat} {N : Nat} (h2 : 2 ≤ N) (hb : BV fb kd N) (hd : DV fd c) (d6 : fd 6 = nI (2 ^ N - 1)) (d7 : fd 7 = nI 0) (d8 : fd 8 = nI 0) (h : TX ft kd N c) (h3 : z.1 3 = N + 6) (hz : ∀ j, j < N + 6 → z.2.2 j = ft j) :
    faultF z = nI (N + 6) ∧ (campF z).1 = nI N ∧ LI (campF z).2 fb fd := by
  have hT : TX z.2.2 kd N c := ⟨fun j hj => by rw [hz j (by omega)]; exact h.1 j hj, by rw [hz N (by omega)]; exact h.2.1, fun j hj => by rw [hz (N + 1 + j) (by omega)]; exact h.2.2 j hj⟩
  have hc := camp_text h2 hb.2.1 hT
  refine ⟨?_, ?_, ?_⟩
  · unfold faultF
    rw [h3, scan_text h2 hb.2.1 hT]
  · unfold campF
    rw [h3, if_pos hc]
    rfl
  · unfold campF
    rw [h3, if_pos hc]
    refine ⟨?_, fun k hk => ?_, fun k hk => ?_, ?_, ?_, ?_, ?_⟩
    · show fb 0 = nI (z.1 3 - 6)
      rw [h3]; exact hb.1
    · have hk' : k < z.1 3 - 6 := hk
      show fb (k + 1) = nI (kdn (z.2.2 k))
      rw [(hT.1 k (by omega)).1, (cod_k _ (by have := (hT.1 k (by omega)).2; omega)).2.2.1]
      exact (hb.2.2 k (by omega)).1
    · show fd (k + 1) = nI (fdn (z.2.2 (N + 6 - 5 + k)))
      rw [show N + 6 - 5 + k = N + 1 + k by omega, (hT.2.2 k hk).1, (dig_k _ (by have := (hT.2.2 k hk).2; omega)).2.2]
      exact (hd k hk).1
    · show fd 6 = nI (2 ^ (z.1 3 - 6) - 1)
      rw [h3]; exact d6
    · exact d7
    · exact d8
    · show 2 ≤ z.1 3 - 6
      omega
set_option maxHeartbeats 4000000 in
set_option maxRecDepth 100000 in
theorem g_campText (l : Launch) (D : va_G) (cI : ClassId) (tt : Nat × Nat × Nat) (x y : Int32) (ab ad aT : Nat) (fb fd ft : Nat → Int32) : MetI (S := ((Nat → Int32) × (Nat → Int32) × (Nat → Int32))) l yL_campText cL_campText 7 (some .int) (rm 1 21) D cI tt [.int x, .int y, .ref ab, .ref ad, .ref aT] [(ab, .inl (cI, 7, .inl fb)), (ad, .inl (cI, 9, .inl fd)), (aT, .inl (cI, 15, .inl ft))] (fun q u => ∃ (N : Nat) (kd c : Nat → Nat), 2 ≤ N ∧ q = nI (N + 6) ∧ BV u.1 kd N ∧ DV u.2.1 c ∧ u.2.1 6 = nI (2 ^ N - 1) ∧ u.2.1 7 = nI 0 ∧ u.2.1 8 = nI 0 ∧ TX u.2.2 kd N c) (fun u => [(ab, .inl (cI, 7, .inl u.1)), (ad, .inl (cI, 9, .inl u.2.1)), (aT, .inl (cI, 15, .inl u.2.2))]) := by
  refine met_ofI (by decide) (Nat.le_of_ble_eq_true rfl) ?_
  intro pP eE sS mM aV bB mE cC AA C hin
  refine z_conv (lv' := [(0, .int x), (1, .int y), (2, .ref ab), (3, .ref ad), (4, .ref aT)]) ⟨rfl, rfl, rfl, rfl, rfl, trivial⟩ rfl rfl ?_
  refine z_iconst C (pc := 0) (v := nI 0) dL_campText_0 (by decide) ?_
  refine z_istore C (pc := 1) (lv' := [(0, .int x), (1, .int y), (2, .ref ab), (3, .ref ad), (4, .ref aT), (5, .int (nI 0))]) dL_campText_1 (Nat.le_of_ble_eq_true rfl) rfl rfl ?_
  refine z_aload_n C (pc := 3) dL_campText_3 rfl ?_
  refine z_iconst C (pc := 4) (v := nI 0) dL_campText_4 (by decide) ?_
  refine z_iconst C (pc := 5) (v := nI 2) dL_campText_5 (by decide) ?_
  refine z_iload_n C (pc := 6) dL_campText_6 rfl ?_
  refine z_iconst C (pc := 7) (v := nI 5) dL_campText_7 (by decide) ?_
  refine z_calli C (isC := []) rfl (by exact fun _ => rfl) (runS C (wc := []) (pc := 8) (rY' := rm 0 0) (nn := 2) (As := [.int x, .int (nI 5)]) (rest := [.int (nI 2), .int (nI 0), .ref ab]) (g_at l D cI tt x 5 (by decide) (by decide)) rfl rfl ⟨rfl, rfl, ⟨Nat.le_of_ble_eq_true rfl, Nat.le_of_ble_eq_true rfl⟩, Nat.le_of_ble_eq_true rfl, Nat.le_of_ble_eq_true rfl⟩ wl_L_8 ws_L_at wi_L wc_L_at (by decide +kernel) rfl rfl (Nat.le_of_ble_eq_true rfl) dL_campText_8) (fun r_1 u_1 h_1 => ?_)
  obtain ⟨k0, hk0, ek0⟩ := h_1
  subst ek0
  refine z_ws (st' := [.int (nI k0), .int (nI 2), .int (nI 0), .ref ab]) (ws' := [(ab, .inl (cI, 7, .inl fb)), (ad, .inl (cI, 9, .inl fd)), (aT, .inl (cI, 15, .inl ft))]) rfl rfl ?_
  refine z_iadd C (pc := 11) dL_campText_11 ?_
  refine z_seti (y := nI (2 + k0)) (nI_add _ _) ?_
  have h_2 : vp_in (nI 0) 7 := by exact vp_in_nI (by omega) (by decide)
  refine z_iast C (pc := 12) 0 rfl h_2 (ws' := [(ab, .inl (cI, 7, .inl (upd fb 0 (nI (2 + k0))))), (ad, .inl (cI, 9, .inl fd)), (aT, .inl (cI, 15, .inl ft))]) (by rw [nI_clamp (by omega)]; rfl) dL_campText_12 ?_
  obtain ⟨N, hN⟩ : ∃ N, N = 2 + k0 := ⟨_, rfl⟩
  rw [← hN]
  have hN2 : 2 ≤ N := by omega
  have hN6 : N ≤ 6 := by omega
  refine z_iconst C (pc := 13) (v := nI 0) dL_campText_13 (by decide) ?_
  refine z_istore C (pc := 14) (lv' := [(0, .int x), (1, .int y), (2, .ref ab), (3, .ref ad), (4, .ref aT), (5, .int (nI 0)), (6, .int (nI 0))]) dL_campText_14 (Nat.le_of_ble_eq_true rfl) rfl rfl ?_
  have key16 : ∀ (fu16 : Nat) (m : Nat) (kd : Nat → Nat) (fb' ft' : Nat → Int32), N - m < fu16 → (m ≤ N) → (fb' 0 = nI N) → (∀ j, j < m → fb' (j + 1) = nI (kd j) ∧ kd j ≤ 4 ∧ ft' j = nI (cod (kd j))) → Z pP l eE (rm 1 21) sS mM aV bB mE cC D AA 7 0 0 (MQ bB (va_Qi (S := ((Nat → Int32) × (Nat → Int32) × (Nat → Int32))) (fun q u => ∃ (N : Nat) (kd c : Nat → Nat), 2 ≤ N ∧ q = nI (N + 6) ∧ BV u.1 kd N ∧ DV u.2.1 c ∧ u.2.1 6 = nI (2 ^ N - 1) ∧ u.2.1 7 = nI 0 ∧ u.2.1 8 = nI 0 ∧ TX u.2.2 kd N c) (fun u t => va_P D vwCl ((fun u => [(ab, .inl (cI, 7, .inl u.1)), (ad, .inl (cI, 9, .inl u.2.1)), (aT, .inl (cI, 15, .inl u.2.2))]) u) t.heap) AA) aV sS 0 0 AA) 16 [(0, .int x), (1, .int y), (2, .ref ab), (3, .ref ad), (4, .ref aT), (5, .int (nI m)), (6, .int (nI m))] [] [(ab, .inl (cI, 7, .inl fb')), (ad, .inl (cI, 9, .inl fd)), (aT, .inl (cI, 15, .inl ft'))] := by
    intro fu16
    induction fu16 with
    | zero => intro m kd fb' ft' hfu16; exact absurd hfu16 (Nat.not_lt_zero _)
    | succ fu16 ih16 =>
      intro m kd fb' ft' hfu16 hmN hb0 hbk
      refine z_iload C (pc := 16) dL_campText_16 rfl ?_
      refine z_aload_n C (pc := 18) dL_campText_18 rfl ?_
      refine z_iconst C (pc := 19) (v := nI 0) dL_campText_19 (by decide) ?_
      have h_3 : vp_in (nI 0) 7 := by exact vp_in_nI (by omega) (by decide)
      refine z_iald C (pc := 20) 0 rfl h_3 dL_campText_20 ?_
      refine z_seti (y := (fb' 0)) (by rw [nI_clamp (by omega)]) ?_
      refine z_seti (y := nI N) hb0 ?_
      refine z_icmp_ge C (pc := 21) (tgt := 117) dL_campText_21 (by decide) (fun c_4 => ?_) (fun c_4 => ?_)
      · have hme : m = N := by
          have := ge_of_nI c_4 (by omega)
          omega
        subst hme
        refine z_aload C (pc := 117) dL_campText_117 rfl ?_
        refine z_iload C (pc := 119) dL_campText_119 rfl ?_
        refine z_iinc C (pc := 121) (v := ((nI m) + 1)) (lv' := [(0, .int x), (1, .int y), (2, .ref ab), (3, .ref ad), (4, .ref aT), (5, .int ((nI m) + 1)), (6, .int (nI m))]) dL_campText_121 rfl rfl (Nat.le_of_ble_eq_true rfl) rfl rfl ?_
        refine z_bipush C (pc := 124) (v := nI 59) dL_campText_124 (by decide) ?_
        have h_5 : vp_in (nI m) 15 := by exact vp_in_nI (by omega) (by decide)
        refine z_iast C (pc := 126) 2 rfl h_5 (ws' := [(ab, .inl (cI, 7, .inl fb')), (ad, .inl (cI, 9, .inl fd)), (aT, .inl (cI, 15, .inl (upd ft' m (nI 59))))]) (by rw [nI_clamp (by omega)]; rfl) dL_campText_126 ?_
        refine z_iconst C (pc := 127) (v := nI 0) dL_campText_127 (by decide) ?_
        refine z_istore C (pc := 128) (lv' := [(0, .int x), (1, .int y), (2, .ref ab), (3, .ref ad), (4, .ref aT), (5, .int ((nI m) + 1)), (6, .int (nI 0))]) dL_campText_128 (Nat.le_of_ble_eq_true rfl) rfl rfl ?_
        have key130 : ∀ (fu130 : Nat) (k : Nat) (fd' : Nat → Int32), 9 - k < fu130 → (k ≤ 9) → (∀ j, j < k → fd' j = nI 0) → Z pP l eE (rm 1 21) sS mM aV bB mE cC D AA 7 0 0 (MQ bB (va_Qi (S := ((Nat → Int32) × (Nat → Int32) × (Nat → Int32))) (fun q u => ∃ (N : Nat) (kd c : Nat → Nat), 2 ≤ N ∧ q = nI (N + 6) ∧ BV u.1 kd N ∧ DV u.2.1 c ∧ u.2.1 6 = nI (2 ^ N - 1) ∧ u.2.1 7 = nI 0 ∧ u.2.1 8 = nI 0 ∧ TX u.2.2 kd N c) (fun u t => va_P D vwCl ((fun u => [(ab, .inl (cI, 7, .inl u.1)), (ad, .inl (cI, 9, .inl u.2.1)), (aT, .inl (cI, 15, .inl u.2.2))]) u) t.heap) AA) aV sS 0 0 AA) 130 [(0, .int x), (1, .int y), (2, .ref ab), (3, .ref ad), (4, .ref aT), (5, .int (nI (m + 1))), (6, .int (nI k))] [] [(ab, .inl (cI, 7, .inl fb')), (ad, .inl (cI, 9, .inl fd')), (aT, .inl (cI, 15, .inl (upd ft' m (nI 59))))] := by
          intro fu130
          induction fu130 with
          | zero => intro k fd' hfu130; exact absurd hfu130 (Nat.not_lt_zero _)
          | succ fu130 ih130 =>
            intro k fd' hfu130 hk9 hz
            refine z_iload C (pc := 130) dL_campText_130 rfl ?_
            refine z_bipush C (pc := 132) (v := nI 9) dL_campText_132 (by decide) ?_
            refine z_icmp_ge C (pc := 134) (tgt := 148) dL_campText_134 (by decide) (fun c_6 => ?_) (fun c_6 => ?_)
            · have hke : k = 9 := by
                have := ge_of_nI (n := 9) c_6 (by decide)
                omega
              subst hke
              refine z_iconst C (pc := 148) (v := nI 1) dL_campText_148 (by decide) ?_
              refine z_istore C (pc := 149) (lv' := [(0, .int x), (1, .int y), (2, .ref ab), (3, .ref ad), (4, .ref aT), (5, .int (nI (m + 1))), (6, .int (nI 1))]) dL_campText_149 (Nat.le_of_ble_eq_true rfl) rfl rfl ?_
              have key151 : ∀ (fu151 : Nat) (k q : Nat) (cc : Nat → Nat) (fd2 ft2 : Nat → Int32), 5 - k < fu151 → (q = k + 1) → (k ≤ 5) → (∀ j, j < k → fd2 (j + 1) = nI (cc j) ∧ cc j ≤ 9 ∧ ft2 (m + 1 + j) = nI (48 + cc j)) → (∀ j, j ≤ m → ft2 j = upd ft' m (nI 59) j) → (∀ j, j = 0 ∨ (5 < j ∧ j < 9) → fd2 j = nI 0) → Z pP l eE (rm 1 21) sS mM aV bB mE cC D AA 7 0 0 (MQ bB (va_Qi (S := ((Nat → Int32) × (Nat → Int32) × (Nat → Int32))) (fun q u => ∃ (N : Nat) (kd c : Nat → Nat), 2 ≤ N ∧ q = nI (N + 6) ∧ BV u.1 kd N ∧ DV u.2.1 c ∧ u.2.1 6 = nI (2 ^ N - 1) ∧ u.2.1 7 = nI 0 ∧ u.2.1 8 = nI 0 ∧ TX u.2.2 kd N c) (fun u t => va_P D vwCl ((fun u => [(ab, .inl (cI, 7, .inl u.1)), (ad, .inl (cI, 9, .inl u.2.1)), (aT, .inl (cI, 15, .inl u.2.2))]) u) t.heap) AA) aV sS 0 0 AA) 151 [(0, .int x), (1, .int y), (2, .ref ab), (3, .ref ad), (4, .ref aT), (5, .int (nI (m + 1 + k))), (6, .int (nI q))] [] [(ab, .inl (cI, 7, .inl fb')), (ad, .inl (cI, 9, .inl fd2)), (aT, .inl (cI, 15, .inl ft2))] := by
                intro fu151
                induction fu151 with
                | zero => intro k q cc fd2 ft2 hfu151; exact absurd hfu151 (Nat.not_lt_zero _)
                | succ fu151 ih151 =>
                  intro k q cc fd2 ft2 hfu151 hq hk5 hc3 ht3 hd3
                  refine z_iload C (pc := 151) dL_campText_151 rfl ?_
                  refine z_bipush C (pc := 153) (v := nI 6) dL_campText_153 (by decide) ?_
                  refine z_icmp_ge C (pc := 155) (tgt := 194) dL_campText_155 (by decide) (fun c_7 => ?_) (fun c_7 => ?_)
                  · have hke : k = 5 := by
                      have := ge_of_nI (n := 6) (j := q) c_7 (by decide)
                      omega
                    subst hke
                    refine z_aload_n C (pc := 194) dL_campText_194 rfl ?_
                    refine z_bipush C (pc := 195) (v := nI 6) dL_campText_195 (by decide) ?_
                    refine z_iconst C (pc := 197) (v := nI 1) dL_campText_197 (by decide) ?_
                    refine z_aload_n C (pc := 198) dL_campText_198 rfl ?_
                    refine z_iconst C (pc := 199) (v := nI 0) dL_campText_199 (by decide) ?_
                    have h_8 : vp_in (nI 0) 7 := by exact vp_in_nI (by omega) (by decide)
                    refine z_iald C (pc := 200) 0 rfl h_8 dL_campText_200 ?_
                    refine z_seti (y := (fb' 0)) (by rw [nI_clamp (by omega)]) ?_
                    refine z_seti (y := nI m) hb0 ?_
                    refine z_ishl C (pc := 201) dL_campText_201 ?_
                    refine z_iconst C (pc := 202) (v := nI 1) dL_campText_202 (by decide) ?_
                    refine z_isub C (pc := 203) dL_campText_203 ?_
                    refine z_seti (y := nI (2 ^ m - 1)) (one_shl m (by omega)) ?_
                    have h_9 : vp_in (nI 6) 9 := by exact vp_in_nI (by omega) (by decide)
                    refine z_iast C (pc := 204) 1 rfl h_9 (ws' := [(ab, .inl (cI, 7, .inl fb')), (ad, .inl (cI, 9, .inl (upd fd2 6 (nI (2 ^ m - 1))))), (aT, .inl (cI, 15, .inl ft2))]) (by rw [nI_clamp (by omega)]; rfl) dL_campText_204 ?_
                    refine z_iload C (pc := 205) dL_campText_205 rfl ?_
                    refine z_iret C (pc := 207) (fb', (upd fd2 6 (nI (2 ^ m - 1))), ft2) dL_campText_207 ?_ rfl
                    refine ⟨m, kd, cc, hN2, rfl, ⟨hb0, hN6, fun k hk => ⟨(hbk k hk).1, (hbk k hk).2.1⟩⟩, fun k hk => ?_, upd_s (f := fd2) (k := 6) (v := nI (2 ^ m - 1)), (upd_n (f := fd2) (k := 6) (j := 7) (v := nI (2 ^ m - 1)) (by decide)).trans (hd3 7 (by omega)), (upd_n (f := fd2) (k := 6) (j := 8) (v := nI (2 ^ m - 1)) (by decide)).trans (hd3 8 (by omega)), fun j hj => ?_, ?_, fun j hj => ?_⟩
                    · exact ⟨(upd_n (by omega)).trans (hc3 k hk).1, (hc3 k hk).2.1⟩
                    · refine ⟨?_, (hbk j hj).2.1⟩
                      show ft2 j = _
                      rw [ht3 j (by omega), upd_n (by omega)]
                      exact (hbk j hj).2.2
                    · show ft2 m = _
                      rw [ht3 m (Nat.le_refl _)]
                      exact upd_s
                    · exact ⟨(hc3 j hj).2.2, (hc3 j hj).2.1⟩
                  · have hk : k < 5 := by
                      have := lt_of_nI (n := 6) (j := q) c_7 (by omega)
                      omega
                    refine z_aload_n C (pc := 158) dL_campText_158 rfl ?_
                    refine z_iload C (pc := 159) dL_campText_159 rfl ?_
                    refine z_iload_n C (pc := 161) dL_campText_161 rfl ?_
                    refine z_iconst C (pc := 162) (v := nI 4) dL_campText_162 (by decide) ?_
                    refine z_iload C (pc := 163) dL_campText_163 rfl ?_
                    refine z_imul C (pc := 165) dL_campText_165 ?_
                    refine z_ishr C (pc := 166) dL_campText_166 ?_
                    refine z_bipush C (pc := 167) (v := nI 10) dL_campText_167 (by decide) ?_
                    refine z_calli C (isC := []) rfl (by exact fun _ => rfl) (runS C (wc := []) (pc := 169) (rY' := rm 0 0) (nn := 2) (As := [.int (y >>> (((nI 4) * (nI q)) &&& 31)), .int (nI 10)]) (rest := [.int (nI q), .ref ad]) (g_at l D cI tt (y >>> (((nI 4) * (nI q)) &&& 31)) 10 (by decide) (by decide)) rfl rfl ⟨rfl, rfl, ⟨Nat.le_of_ble_eq_true rfl, Nat.le_of_ble_eq_true rfl⟩, Nat.le_of_ble_eq_true rfl, Nat.le_of_ble_eq_true rfl⟩ wl_L_8 ws_L_at wi_L wc_L_at (by decide +kernel) rfl rfl (Nat.le_of_ble_eq_true rfl) dL_campText_169) (fun r_10 u_10 h_10 => ?_)
                    obtain ⟨vv, hvv, evv⟩ := h_10
                    subst evv
                    refine z_ws (st' := [.int (nI vv), .int (nI q), .ref ad]) (ws' := [(ab, .inl (cI, 7, .inl fb')), (ad, .inl (cI, 9, .inl fd2)), (aT, .inl (cI, 15, .inl ft2))]) rfl rfl ?_
                    have h_11 : vp_in (nI q) 9 := by exact vp_in_nI (by omega) (by decide)
                    refine z_iast C (pc := 172) 1 rfl h_11 (ws' := [(ab, .inl (cI, 7, .inl fb')), (ad, .inl (cI, 9, .inl (upd fd2 q (nI vv)))), (aT, .inl (cI, 15, .inl ft2))]) (by rw [nI_clamp (by omega)]; rfl) dL_campText_172 ?_
                    refine z_aload C (pc := 173) dL_campText_173 rfl ?_
                    refine z_iload C (pc := 175) dL_campText_175 rfl ?_
                    refine z_iinc C (pc := 177) (v := ((nI (m + 1 + k)) + 1)) (lv' := [(0, .int x), (1, .int y), (2, .ref ab), (3, .ref ad), (4, .ref aT), (5, .int ((nI (m + 1 + k)) + 1)), (6, .int (nI q))]) dL_campText_177 rfl rfl (Nat.le_of_ble_eq_true rfl) rfl rfl ?_
                    refine z_bipush C (pc := 180) (v := nI 48) dL_campText_180 (by decide) ?_
                    refine z_aload_n C (pc := 182) dL_campText_182 rfl ?_
                    refine z_iload C (pc := 183) dL_campText_183 rfl ?_
                    have h_12 : vp_in (nI q) 9 := by exact vp_in_nI (by omega) (by decide)
                    refine z_iald C (pc := 185) 1 rfl h_12 dL_campText_185 ?_
                    refine z_seti (y := ((upd fd2 q (nI vv)) q)) (by rw [nI_clamp (by omega)]) ?_
                    refine z_seti (y := nI vv) upd_s ?_
                    refine z_iadd C (pc := 186) dL_campText_186 ?_
                    refine z_seti (y := nI (48 + vv)) (nI_add _ _) ?_
                    have h_13 : vp_in (nI (m + 1 + k)) 15 := by exact vp_in_nI (by omega) (by decide)
                    refine z_iast C (pc := 187) 2 rfl h_13 (ws' := [(ab, .inl (cI, 7, .inl fb')), (ad, .inl (cI, 9, .inl (upd fd2 q (nI vv)))), (aT, .inl (cI, 15, .inl (upd ft2 (m + 1 + k) (nI (48 + vv)))))]) (by rw [nI_clamp (by omega)]; rfl) dL_campText_187 ?_
                    refine z_iinc C (pc := 188) (v := ((nI q) + 1)) (lv' := [(0, .int x), (1, .int y), (2, .ref ab), (3, .ref ad), (4, .ref aT), (5, .int ((nI (m + 1 + k)) + 1)), (6, .int ((nI q) + 1))]) dL_campText_188 rfl rfl (Nat.le_of_ble_eq_true rfl) rfl rfl ?_
                    refine z_goto C (pc := 191) (tgt := 151) dL_campText_191 (by decide) ?_
                    refine z_lv (lv' := [(0, .int x), (1, .int y), (2, .ref ab), (3, .ref ad), (4, .ref aT), (5, .int (nI (m + 1 + (k + 1)))), (6, .int (nI (q + 1)))]) ⟨rfl, rfl, rfl, rfl, rfl, lki (nI_1 _), lki (nI_1 q), trivial⟩ ?_
                    exact ih151 (k + 1) (q + 1) (upN cc k vv) (upd fd2 q (nI vv)) (upd ft2 (m + 1 + k) (nI (48 + vv))) (by omega) (by omega) (by omega) (fun j hj => by unfold upN; by_cases e : j = k; (rw [if_pos e, e, show k + 1 = q by omega]; exact ⟨upd_s, by omega, upd_s⟩); (rw [if_neg e, upd_n (by omega), upd_n (by omega)]; exact hc3 j (by omega))) (fun j hj => by rw [upd_n (by omega)]; exact ht3 j hj) (fun j hj => by rw [upd_n (by omega)]; exact hd3 j hj)
              refine z_lv (lv' := [(0, .int x), (1, .int y), (2, .ref ab), (3, .ref ad), (4, .ref aT), (5, .int (nI (m + 1 + 0))), (6, .int (nI 1))]) ⟨rfl, rfl, rfl, rfl, rfl, rfl, rfl, trivial⟩ ?_
              exact key151 (_ + 1) 0 1 (fun _ => 0) fd' (upd ft' m (nI 59)) (Nat.lt_succ_self _) rfl (Nat.zero_le _) (fun j hj => absurd hj (Nat.not_lt_zero j)) (fun _ _ => rfl) (fun j hj => hz j (by omega))
            · have hk : k < 9 := lt_of_nI (n := 9) c_6 (by omega)
              refine z_aload_n C (pc := 137) dL_campText_137 rfl ?_
              refine z_iload C (pc := 138) dL_campText_138 rfl ?_
              refine z_iconst C (pc := 140) (v := nI 0) dL_campText_140 (by decide) ?_
              have h_14 : vp_in (nI k) 9 := by exact vp_in_nI (by omega) (by decide)
              refine z_iast C (pc := 141) 1 rfl h_14 (ws' := [(ab, .inl (cI, 7, .inl fb')), (ad, .inl (cI, 9, .inl (upd fd' k (nI 0)))), (aT, .inl (cI, 15, .inl (upd ft' m (nI 59))))]) (by rw [nI_clamp (by omega)]; rfl) dL_campText_141 ?_
              refine z_iinc C (pc := 142) (v := ((nI k) + 1)) (lv' := [(0, .int x), (1, .int y), (2, .ref ab), (3, .ref ad), (4, .ref aT), (5, .int (nI (m + 1))), (6, .int ((nI k) + 1))]) dL_campText_142 rfl rfl (Nat.le_of_ble_eq_true rfl) rfl rfl ?_
              refine z_goto C (pc := 145) (tgt := 130) dL_campText_145 (by decide) ?_
              refine z_lv (lv' := [(0, .int x), (1, .int y), (2, .ref ab), (3, .ref ad), (4, .ref aT), (5, .int (nI (m + 1))), (6, .int (nI (k + 1)))]) ⟨rfl, rfl, rfl, rfl, rfl, rfl, lki (nI_1 k), trivial⟩ ?_
              exact ih130 (k + 1) (upd fd' k (nI 0)) (by omega) hk (fun j hj => by unfold upd; by_cases e : j = k; (rw [if_pos e]); (rw [if_neg e]; exact hz j (by omega)))
        refine z_lv (lv' := [(0, .int x), (1, .int y), (2, .ref ab), (3, .ref ad), (4, .ref aT), (5, .int (nI (m + 1))), (6, .int (nI 0))]) ⟨rfl, rfl, rfl, rfl, rfl, lki (nI_1 m), rfl, trivial⟩ ?_
        exact key130 (_ + 1) 0 fd (Nat.lt_succ_self _) (Nat.zero_le _) (fun j hj => absurd hj (Nat.not_lt_zero j))
      · have hm : m < N := lt_of_nI c_4 (by omega)
        refine z_aload_n C (pc := 24) dL_campText_24 rfl ?_
        refine z_iconst C (pc := 25) (v := nI 1) dL_campText_25 (by decide) ?_
        refine z_iload C (pc := 26) dL_campText_26 rfl ?_
        refine z_iadd C (pc := 28) dL_campText_28 ?_
        refine z_seti (y := nI (1 + m)) (nI_add _ _) ?_
        refine z_iload_n C (pc := 29) dL_campText_29 rfl ?_
        refine z_iconst C (pc := 30) (v := nI 3) dL_campText_30 (by decide) ?_
        refine z_iconst C (pc := 31) (v := nI 3) dL_campText_31 (by decide) ?_
        refine z_iload C (pc := 32) dL_campText_32 rfl ?_
        refine z_imul C (pc := 34) dL_campText_34 ?_
        refine z_iadd C (pc := 35) dL_campText_35 ?_
        refine z_ishr C (pc := 36) dL_campText_36 ?_
        refine z_iconst C (pc := 37) (v := nI 5) dL_campText_37 (by decide) ?_
        refine z_calli C (isC := []) rfl (by exact fun _ => rfl) (runS C (wc := []) (pc := 38) (rY' := rm 0 0) (nn := 2) (As := [.int (x >>> (((nI 3) + ((nI 3) * (nI m))) &&& 31)), .int (nI 5)]) (rest := [.int (nI (1 + m)), .ref ab]) (g_at l D cI tt (x >>> (((nI 3) + ((nI 3) * (nI m))) &&& 31)) 5 (by decide) (by decide)) rfl rfl ⟨rfl, rfl, ⟨Nat.le_of_ble_eq_true rfl, Nat.le_of_ble_eq_true rfl⟩, Nat.le_of_ble_eq_true rfl, Nat.le_of_ble_eq_true rfl⟩ wl_L_8 ws_L_at wi_L wc_L_at (by decide +kernel) rfl rfl (Nat.le_of_ble_eq_true rfl) dL_campText_38) (fun r_15 u_15 h_15 => ?_)
        obtain ⟨kk, hkk, ekk⟩ := h_15
        subst ekk
        refine z_ws (st' := [.int (nI kk), .int (nI (1 + m)), .ref ab]) (ws' := [(ab, .inl (cI, 7, .inl fb')), (ad, .inl (cI, 9, .inl fd)), (aT, .inl (cI, 15, .inl ft'))]) rfl rfl ?_
        have h_16 : vp_in (nI (1 + m)) 7 := by exact vp_in_nI (by omega) (by decide)
        refine z_iast C (pc := 41) 0 rfl h_16 (ws' := [(ab, .inl (cI, 7, .inl (upd fb' (1 + m) (nI kk)))), (ad, .inl (cI, 9, .inl fd)), (aT, .inl (cI, 15, .inl ft'))]) (by rw [nI_clamp (by omega)]; rfl) dL_campText_41 ?_
        refine z_aload C (pc := 42) dL_campText_42 rfl ?_
        refine z_iload C (pc := 44) dL_campText_44 rfl ?_
        refine z_iinc C (pc := 46) (v := ((nI m) + 1)) (lv' := [(0, .int x), (1, .int y), (2, .ref ab), (3, .ref ad), (4, .ref aT), (5, .int ((nI m) + 1)), (6, .int (nI m))]) dL_campText_46 rfl rfl (Nat.le_of_ble_eq_true rfl) rfl rfl ?_
        refine z_aload_n C (pc := 49) dL_campText_49 rfl ?_
        refine z_iconst C (pc := 50) (v := nI 1) dL_campText_50 (by decide) ?_
        refine z_iload C (pc := 51) dL_campText_51 rfl ?_
        refine z_iadd C (pc := 53) dL_campText_53 ?_
        refine z_seti (y := nI (1 + m)) (nI_add _ _) ?_
        have h_17 : vp_in (nI (1 + m)) 7 := by exact vp_in_nI (by omega) (by decide)
        refine z_iald C (pc := 54) 0 rfl h_17 dL_campText_54 ?_
        refine z_seti (y := ((upd fb' (1 + m) (nI kk)) (1 + m))) (by rw [nI_clamp (by omega)]) ?_
        refine z_seti (y := nI kk) upd_s ?_
        refine z_if_ne C (pc := 55) (tgt := 63) dL_campText_55 (by decide) (fun c_18 => ?_) (fun c_18 => ?_)
        · have hk0 : ¬ kk = 0 := fun e => c_18 (by rw [e]; rfl)
          refine z_aload_n C (pc := 63) dL_campText_63 rfl ?_
          refine z_iconst C (pc := 64) (v := nI 1) dL_campText_64 (by decide) ?_
          refine z_iload C (pc := 65) dL_campText_65 rfl ?_
          refine z_iadd C (pc := 67) dL_campText_67 ?_
          refine z_seti (y := nI (1 + m)) (nI_add _ _) ?_
          have h_19 : vp_in (nI (1 + m)) 7 := by exact vp_in_nI (by omega) (by decide)
          refine z_iald C (pc := 68) 0 rfl h_19 dL_campText_68 ?_
          refine z_seti (y := ((upd fb' (1 + m) (nI kk)) (1 + m))) (by rw [nI_clamp (by omega)]) ?_
          refine z_seti (y := nI kk) upd_s ?_
          refine z_iconst C (pc := 69) (v := nI 1) dL_campText_69 (by decide) ?_
          refine z_icmp_ne C (pc := 70) (tgt := 78) dL_campText_70 (by decide) (fun c_20 => ?_) (fun c_20 => ?_)
          · have hk1 : ¬ kk = 1 := fun e => c_20 (by rw [e])
            refine z_aload_n C (pc := 78) dL_campText_78 rfl ?_
            refine z_iconst C (pc := 79) (v := nI 1) dL_campText_79 (by decide) ?_
            refine z_iload C (pc := 80) dL_campText_80 rfl ?_
            refine z_iadd C (pc := 82) dL_campText_82 ?_
            refine z_seti (y := nI (1 + m)) (nI_add _ _) ?_
            have h_21 : vp_in (nI (1 + m)) 7 := by exact vp_in_nI (by omega) (by decide)
            refine z_iald C (pc := 83) 0 rfl h_21 dL_campText_83 ?_
            refine z_seti (y := ((upd fb' (1 + m) (nI kk)) (1 + m))) (by rw [nI_clamp (by omega)]) ?_
            refine z_seti (y := nI kk) upd_s ?_
            refine z_iconst C (pc := 84) (v := nI 2) dL_campText_84 (by decide) ?_
            refine z_icmp_ne C (pc := 85) (tgt := 93) dL_campText_85 (by decide) (fun c_22 => ?_) (fun c_22 => ?_)
            · have hk2 : ¬ kk = 2 := fun e => c_22 (by rw [e])
              refine z_aload_n C (pc := 93) dL_campText_93 rfl ?_
              refine z_iconst C (pc := 94) (v := nI 1) dL_campText_94 (by decide) ?_
              refine z_iload C (pc := 95) dL_campText_95 rfl ?_
              refine z_iadd C (pc := 97) dL_campText_97 ?_
              refine z_seti (y := nI (1 + m)) (nI_add _ _) ?_
              have h_23 : vp_in (nI (1 + m)) 7 := by exact vp_in_nI (by omega) (by decide)
              refine z_iald C (pc := 98) 0 rfl h_23 dL_campText_98 ?_
              refine z_seti (y := ((upd fb' (1 + m) (nI kk)) (1 + m))) (by rw [nI_clamp (by omega)]) ?_
              refine z_seti (y := nI kk) upd_s ?_
              refine z_iconst C (pc := 99) (v := nI 3) dL_campText_99 (by decide) ?_
              refine z_icmp_ne C (pc := 100) (tgt := 108) dL_campText_100 (by decide) (fun c_24 => ?_) (fun c_24 => ?_)
              · have hk3 : ¬ kk = 3 := fun e => c_24 (by rw [e])
                have hkk : kk = 4 := by omega
                refine z_bipush C (pc := 108) (v := nI 104) dL_campText_108 (by decide) ?_
                have h_25 : vp_in (nI m) 15 := by exact vp_in_nI (by omega) (by decide)
                refine z_iast C (pc := 110) 2 rfl h_25 (ws' := [(ab, .inl (cI, 7, .inl (upd fb' (1 + m) (nI kk)))), (ad, .inl (cI, 9, .inl fd)), (aT, .inl (cI, 15, .inl (upd ft' m (nI 104))))]) (by rw [nI_clamp (by omega)]; rfl) dL_campText_110 ?_
                refine z_iinc C (pc := 111) (v := ((nI m) + 1)) (lv' := [(0, .int x), (1, .int y), (2, .ref ab), (3, .ref ad), (4, .ref aT), (5, .int ((nI m) + 1)), (6, .int ((nI m) + 1))]) dL_campText_111 rfl rfl (Nat.le_of_ble_eq_true rfl) rfl rfl ?_
                refine z_goto C (pc := 114) (tgt := 16) dL_campText_114 (by decide) ?_
                refine z_lv (lv' := [(0, .int x), (1, .int y), (2, .ref ab), (3, .ref ad), (4, .ref aT), (5, .int (nI (m + 1))), (6, .int (nI (m + 1)))]) ⟨rfl, rfl, rfl, rfl, rfl, lki (nI_1 m), lki (nI_1 m), trivial⟩ ?_
                exact ih16 (m + 1) (upN kd m kk) (upd fb' (1 + m) (nI kk)) (upd ft' m (nI 104)) (by omega) hm ((upd_n (by omega)).trans hb0) (fun j hj => by unfold upN; by_cases e : j = m; (rw [if_pos e, e, show m + 1 = 1 + m from Nat.add_comm _ _]; exact ⟨upd_s, by omega, upd_s.trans (by rw [hkk]; rfl)⟩); (rw [if_neg e, upd_n (by omega), upd_n e]; exact hbk j (by omega)))
              · have hkk : kk = 3 := (nI_eq (b := 3) (by omega) (by decide)).mp c_24
                refine z_bipush C (pc := 103) (v := nI 98) dL_campText_103 (by decide) ?_
                refine z_goto C (pc := 105) (tgt := 110) dL_campText_105 (by decide) ?_
                have h_26 : vp_in (nI m) 15 := by exact vp_in_nI (by omega) (by decide)
                refine z_iast C (pc := 110) 2 rfl h_26 (ws' := [(ab, .inl (cI, 7, .inl (upd fb' (1 + m) (nI kk)))), (ad, .inl (cI, 9, .inl fd)), (aT, .inl (cI, 15, .inl (upd ft' m (nI 98))))]) (by rw [nI_clamp (by omega)]; rfl) dL_campText_110 ?_
                refine z_iinc C (pc := 111) (v := ((nI m) + 1)) (lv' := [(0, .int x), (1, .int y), (2, .ref ab), (3, .ref ad), (4, .ref aT), (5, .int ((nI m) + 1)), (6, .int ((nI m) + 1))]) dL_campText_111 rfl rfl (Nat.le_of_ble_eq_true rfl) rfl rfl ?_
                refine z_goto C (pc := 114) (tgt := 16) dL_campText_114 (by decide) ?_
                refine z_lv (lv' := [(0, .int x), (1, .int y), (2, .ref ab), (3, .ref ad), (4, .ref aT), (5, .int (nI (m + 1))), (6, .int (nI (m + 1)))]) ⟨rfl, rfl, rfl, rfl, rfl, lki (nI_1 m), lki (nI_1 m), trivial⟩ ?_
                exact ih16 (m + 1) (upN kd m kk) (upd fb' (1 + m) (nI kk)) (upd ft' m (nI 98)) (by omega) hm ((upd_n (by omega)).trans hb0) (fun j hj => by unfold upN; by_cases e : j = m; (rw [if_pos e, e, show m + 1 = 1 + m from Nat.add_comm _ _]; exact ⟨upd_s, by omega, upd_s.trans (by rw [hkk]; rfl)⟩); (rw [if_neg e, upd_n (by omega), upd_n e]; exact hbk j (by omega)))
            · have hkk : kk = 2 := (nI_eq (b := 2) (by omega) (by decide)).mp c_22
              refine z_bipush C (pc := 88) (v := nI 100) dL_campText_88 (by decide) ?_
              refine z_goto C (pc := 90) (tgt := 110) dL_campText_90 (by decide) ?_
              have h_27 : vp_in (nI m) 15 := by exact vp_in_nI (by omega) (by decide)
              refine z_iast C (pc := 110) 2 rfl h_27 (ws' := [(ab, .inl (cI, 7, .inl (upd fb' (1 + m) (nI kk)))), (ad, .inl (cI, 9, .inl fd)), (aT, .inl (cI, 15, .inl (upd ft' m (nI 100))))]) (by rw [nI_clamp (by omega)]; rfl) dL_campText_110 ?_
              refine z_iinc C (pc := 111) (v := ((nI m) + 1)) (lv' := [(0, .int x), (1, .int y), (2, .ref ab), (3, .ref ad), (4, .ref aT), (5, .int ((nI m) + 1)), (6, .int ((nI m) + 1))]) dL_campText_111 rfl rfl (Nat.le_of_ble_eq_true rfl) rfl rfl ?_
              refine z_goto C (pc := 114) (tgt := 16) dL_campText_114 (by decide) ?_
              refine z_lv (lv' := [(0, .int x), (1, .int y), (2, .ref ab), (3, .ref ad), (4, .ref aT), (5, .int (nI (m + 1))), (6, .int (nI (m + 1)))]) ⟨rfl, rfl, rfl, rfl, rfl, lki (nI_1 m), lki (nI_1 m), trivial⟩ ?_
              exact ih16 (m + 1) (upN kd m kk) (upd fb' (1 + m) (nI kk)) (upd ft' m (nI 100)) (by omega) hm ((upd_n (by omega)).trans hb0) (fun j hj => by unfold upN; by_cases e : j = m; (rw [if_pos e, e, show m + 1 = 1 + m from Nat.add_comm _ _]; exact ⟨upd_s, by omega, upd_s.trans (by rw [hkk]; rfl)⟩); (rw [if_neg e, upd_n (by omega), upd_n e]; exact hbk j (by omega)))
          · have hkk : kk = 1 := (nI_eq (b := 1) (by omega) (by decide)).mp c_20
            refine z_bipush C (pc := 73) (v := nI 112) dL_campText_73 (by decide) ?_
            refine z_goto C (pc := 75) (tgt := 110) dL_campText_75 (by decide) ?_
            have h_28 : vp_in (nI m) 15 := by exact vp_in_nI (by omega) (by decide)
            refine z_iast C (pc := 110) 2 rfl h_28 (ws' := [(ab, .inl (cI, 7, .inl (upd fb' (1 + m) (nI kk)))), (ad, .inl (cI, 9, .inl fd)), (aT, .inl (cI, 15, .inl (upd ft' m (nI 112))))]) (by rw [nI_clamp (by omega)]; rfl) dL_campText_110 ?_
            refine z_iinc C (pc := 111) (v := ((nI m) + 1)) (lv' := [(0, .int x), (1, .int y), (2, .ref ab), (3, .ref ad), (4, .ref aT), (5, .int ((nI m) + 1)), (6, .int ((nI m) + 1))]) dL_campText_111 rfl rfl (Nat.le_of_ble_eq_true rfl) rfl rfl ?_
            refine z_goto C (pc := 114) (tgt := 16) dL_campText_114 (by decide) ?_
            refine z_lv (lv' := [(0, .int x), (1, .int y), (2, .ref ab), (3, .ref ad), (4, .ref aT), (5, .int (nI (m + 1))), (6, .int (nI (m + 1)))]) ⟨rfl, rfl, rfl, rfl, rfl, lki (nI_1 m), lki (nI_1 m), trivial⟩ ?_
            exact ih16 (m + 1) (upN kd m kk) (upd fb' (1 + m) (nI kk)) (upd ft' m (nI 112)) (by omega) hm ((upd_n (by omega)).trans hb0) (fun j hj => by unfold upN; by_cases e : j = m; (rw [if_pos e, e, show m + 1 = 1 + m from Nat.add_comm _ _]; exact ⟨upd_s, by omega, upd_s.trans (by rw [hkk]; rfl)⟩); (rw [if_neg e, upd_n (by omega), upd_n e]; exact hbk j (by omega)))
        · have hkk : kk = 0 := (nI_eq (b := 0) (by omega) (by decide)).mp c_18
          refine z_bipush C (pc := 58) (v := nI 109) dL_campText_58 (by decide) ?_
          refine z_goto C (pc := 60) (tgt := 110) dL_campText_60 (by decide) ?_
          have h_29 : vp_in (nI m) 15 := by exact vp_in_nI (by omega) (by decide)
          refine z_iast C (pc := 110) 2 rfl h_29 (ws' := [(ab, .inl (cI, 7, .inl (upd fb' (1 + m) (nI kk)))), (ad, .inl (cI, 9, .inl fd)), (aT, .inl (cI, 15, .inl (upd ft' m (nI 109))))]) (by rw [nI_clamp (by omega)]; rfl) dL_campText_110 ?_
          refine z_iinc C (pc := 111) (v := ((nI m) + 1)) (lv' := [(0, .int x), (1, .int y), (2, .ref ab), (3, .ref ad), (4, .ref aT), (5, .int ((nI m) + 1)), (6, .int ((nI m) + 1))]) dL_campText_111 rfl rfl (Nat.le_of_ble_eq_true rfl) rfl rfl ?_
          refine z_goto C (pc := 114) (tgt := 16) dL_campText_114 (by decide) ?_
          refine z_lv (lv' := [(0, .int x), (1, .int y), (2, .ref ab), (3, .ref ad), (4, .ref aT), (5, .int (nI (m + 1))), (6, .int (nI (m + 1)))]) ⟨rfl, rfl, rfl, rfl, rfl, lki (nI_1 m), lki (nI_1 m), trivial⟩ ?_
          exact ih16 (m + 1) (upN kd m kk) (upd fb' (1 + m) (nI kk)) (upd ft' m (nI 109)) (by omega) hm ((upd_n (by omega)).trans hb0) (fun j hj => by unfold upN; by_cases e : j = m; (rw [if_pos e, e, show m + 1 = 1 + m from Nat.add_comm _ _]; exact ⟨upd_s, by omega, upd_s.trans (by rw [hkk]; rfl)⟩); (rw [if_neg e, upd_n (by omega), upd_n e]; exact hbk j (by omega)))
  refine z_lv (lv' := [(0, .int x), (1, .int y), (2, .ref ab), (3, .ref ad), (4, .ref aT), (5, .int (nI 0)), (6, .int (nI 0))]) ⟨rfl, rfl, rfl, rfl, rfl, rfl, rfl, trivial⟩ ?_
  exact key16 (_ + 1) 0 (fun _ => 0) (upd fb 0 (nI N)) ft (Nat.lt_succ_self _) (Nat.zero_le _) upd_s (fun j hj => absurd hj (Nat.not_lt_zero j))

set_option maxHeartbeats 4000000 in
set_option maxRecDepth 100000 in
theorem g_write (l : Launch) (D : va_G) (cI : ClassId) (tt : Nat × Nat × Nat) (a : Nat → Nat) (i : Nat → Int32) (r : Nat → Nat → Int32) (aT : Nat) (ft : Nat → Int32) (n : Nat) (hn : n ≤ 15) (tv : Nat → Nat) (hft : ∀ j, j < n → ft j = nI (tv j) ∧ 1 ≤ tv j ∧ tv j ≤ 126) (z0 : SG) (hz0 : Cls z0 i r) (vz0 : VS z0) (h30 : z0.1 3 = 0) : MetI (S := ((Nat → Int32) × (Nat → Nat → Int32))) l yL_write cL_write 4 (some .boolean) (rm 3 64) D cI tt [.ref (a 0), .ref aT, .int (nI n)] ((cW cI a i r) ++ [(aT, .inl (cI, 15, .inl ft))]) (fun q u => q = 1 ∧ ∃ z, Cls z u.1 u.2 ∧ VS z ∧ z.1 3 = n ∧ (∀ j, j < n → z.2.2 j = ft j) ∧ (∀ q, q ≠ 3 → z.1 q = z0.1 q) ∧ z.2.1 = z0.2.1) (fun u => (cW cI a u.1 u.2 ++ [(aT, .inl (cI, 15, .inl ft))])) := by
  refine met_ofI (by decide) (Nat.le_of_ble_eq_true rfl) ?_
  intro pP eE sS mM aV bB mE cC AA C hin
  refine z_conv (lv' := [(0, .ref (a 0)), (1, .ref aT), (2, .int (nI n))]) ⟨rfl, rfl, rfl, trivial⟩ rfl rfl ?_
  refine z_iconst C (pc := 0) (v := nI 0) dL_write_0 (by decide) ?_
  refine z_istore_n C (pc := 1) (lv' := [(0, .ref (a 0)), (1, .ref aT), (2, .int (nI n)), (3, .int (nI 0))]) dL_write_1 (Nat.le_of_ble_eq_true rfl) rfl rfl ?_
  have key2 : ∀ (fu2 : Nat) (k : Nat) (z : SG) (i' : Nat → Int32) (r' : Nat → Nat → Int32), n - k < fu2 → (k ≤ n) → (Cls z i' r') → (VS z) → (z.1 3 = k) → (∀ j, j < k → z.2.2 j = ft j) → (∀ q, q ≠ 3 → z.1 q = z0.1 q) → (z.2.1 = z0.2.1) → Z pP l eE (rm 3 64) sS mM aV bB mE cC D AA 4 0 0 (MQ bB (va_Qi (S := ((Nat → Int32) × (Nat → Nat → Int32))) (fun q u => q = 1 ∧ ∃ z, Cls z u.1 u.2 ∧ VS z ∧ z.1 3 = n ∧ (∀ j, j < n → z.2.2 j = ft j) ∧ (∀ q, q ≠ 3 → z.1 q = z0.1 q) ∧ z.2.1 = z0.2.1) (fun u t => va_P D vwCl ((fun u => (cW cI a u.1 u.2 ++ [(aT, .inl (cI, 15, .inl ft))])) u) t.heap) AA) aV sS 0 0 AA) 2 [(0, .ref (a 0)), (1, .ref aT), (2, .int (nI n)), (3, .int (nI k))] [] ((cW cI a i' r') ++ [(aT, .inl (cI, 15, .inl ft))]) := by
    intro fu2
    induction fu2 with
    | zero => intro k z i' r' hfu2; exact absurd hfu2 (Nat.not_lt_zero _)
    | succ fu2 ih2 =>
      intro k z i' r' hfu2 hkn hz vz h3 hpt ho1 ho2
      refine z_iload_n C (pc := 2) dL_write_2 rfl ?_
      refine z_iload_n C (pc := 3) dL_write_3 rfl ?_
      refine z_icmp_ge C (pc := 4) (tgt := 28) dL_write_4 (by decide) (fun c_1 => ?_) (fun c_1 => ?_)
      · refine z_iconst C (pc := 28) (v := nI 1) dL_write_28 (by decide) ?_
        refine z_zret C (pc := 29) (i', r') dL_write_29 rfl ?_ rfl
        have hke : k = n := by
          have := ge_of_nI c_1 (by omega)
          omega
        subst hke
        exact ⟨rfl, z, hz, vz, h3, hpt, ho1, ho2⟩
      · have hk : k < n := lt_of_nI c_1 (by omega)
        have hfk := hft k hk
        have hle := letter_ok (z := z) hfk.1 hfk.2.1 hfk.2.2 (by omega)
        refine z_aload_n C (pc := 7) dL_write_7 rfl ?_
        refine z_aload_n C (pc := 8) dL_write_8 rfl ?_
        refine z_iload_n C (pc := 9) dL_write_9 rfl ?_
        have h_2 : vp_in (nI k) 15 := by exact vp_in_nI (by omega) (by decide)
        refine z_iald C (pc := 10) 19 rfl h_2 dL_write_10 ?_
        refine z_seti (y := (ft k)) (by rw [nI_clamp (by omega)]) ?_
        refine z_calliL C (by exact fun _ => cW_ad) (runV C (wc := (cW cI a i' r')) (pc := 11) (rY' := rm 2 43) (nn := 1) (As := [.int (ft k)]) (rest := []) (c_letter l D cI tt a i' r' (ft k) z hz vz) (apL_hC _ _) (full_nd _) ⟨rfl, rfl, ⟨Nat.le_of_ble_eq_true rfl, Nat.le_of_ble_eq_true rfl⟩, Nat.le_of_ble_eq_true rfl, Nat.le_of_ble_eq_true rfl⟩ wl_L_14 wm_X3_letter we_X3_letter wi_X3 wc_X3_letter (by decide +kernel) rfl 0 rfl rfl rfl rfl (Nat.le_of_ble_eq_true rfl) dL_write_11) (fun q_3 u_3 h_3 => ?_)
        obtain ⟨i3, r3⟩ := u_3
        try dsimp only at h_3
        obtain ⟨k0, k1⟩ := h_3
        rw [hle] at k0 k1
        have v1 := vs_letter vz (ft k)
        rw [hle] at v1
        refine z_ws (st' := [.int q_3]) (ws' := ((cW cI a i3 r3) ++ [(aT, .inl (cI, 15, .inl ft))])) rfl rfl ?_
        refine z_seti (y := (nI (k + 1))) (k0.trans (by rw [h3])) ?_
        refine z_iload_n C (pc := 14) dL_write_14 rfl ?_
        refine z_iconst C (pc := 15) (v := nI 1) dL_write_15 (by decide) ?_
        refine z_iadd C (pc := 16) dL_write_16 ?_
        refine z_seti (y := nI (k + 1)) (nI_add _ _) ?_
        refine z_icmp_eq C (pc := 17) (tgt := 22) dL_write_17 (by decide) (fun c_4 => ?_) (fun c_4 => ?_)
        · refine z_iinc C (pc := 22) (v := ((nI k) + 1)) (lv' := [(0, .ref (a 0)), (1, .ref aT), (2, .int (nI n)), (3, .int ((nI k) + 1))]) dL_write_22 rfl rfl (Nat.le_of_ble_eq_true rfl) rfl rfl ?_
          refine z_goto C (pc := 25) (tgt := 2) dL_write_25 (by decide) ?_
          refine z_lv (lv' := [(0, .ref (a 0)), (1, .ref aT), (2, .int (nI n)), (3, .int (nI (k + 1)))]) ⟨rfl, rfl, rfl, lki (nI_1 k), trivial⟩ ?_
          exact ih2 (k + 1) (upG z.1 3 (z.1 3 + 1), z.2.1, upd z.2.2 (z.1 3) (ft k)) i3 r3 (by omega) hk k1 v1 (by show upG z.1 3 (z.1 3 + 1) 3 = k + 1; unfold upG; rw [if_pos rfl, h3]) (fun j hj => by show upd z.2.2 (z.1 3) (ft k) j = ft j; rw [h3]; unfold upd; by_cases e : j = k; (rw [if_pos e, e]); (rw [if_neg e]; exact hpt j (by omega))) (fun q hq => by show upG z.1 3 (z.1 3 + 1) q = z0.1 q; unfold upG; rw [if_neg hq]; exact ho1 q hq) ho2
        · exact absurd rfl c_4
  refine z_lv (lv' := [(0, .ref (a 0)), (1, .ref aT), (2, .int (nI n)), (3, .int (nI 0))]) ⟨rfl, rfl, rfl, rfl, trivial⟩ ?_
  exact key2 (_ + 1) 0 z0 i r (Nat.lt_succ_self _) (Nat.zero_le _) hz0 vz0 h30 (fun j hj => absurd hj (Nat.not_lt_zero j)) (fun _ _ => rfl) rfl
