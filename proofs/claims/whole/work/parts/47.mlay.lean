/-! the reference: LAY and TRY -/
def SQm (r r' : Nat → Nat → Int32) : Prop := ∀ k, k ≠ 3 ∧ k ≠ 5 → r' k = r k
theorem SQm.rf {r : Nat → Nat → Int32} : SQm r r := fun _ _ => rfl
theorem SQm.tr {i j k : Nat → Nat → Int32} (h : SQm i j) (h2 : SQm j k) : SQm i k := fun q hq => (h2 q hq).trans (h q hq)
theorem SQm.up {i j : Nat → Nat → Int32} (h : SQm i j) {v : Nat → Int32} : SQm i (va_up j 5 v) := fun q hq => by unfold va_up; rw [if_neg hq.2]; exact h q hq
theorem SRm.q {i j : Nat → Nat → Int32} (h : SRm i j) : SQm i j := fun q hq => h q hq.1
theorem PVm.sq {i i' : Nat → Int32} {r r' : Nat → Nat → Int32} {kd : Nat → Nat} {n : Nat} (h : PVm i r kd n) (hi : SPm i i') (hr : SQm r r') : PVm i' r' kd n := ⟨(hi 3 (by omega)).trans h.1, h.2.1, fun k hk => by rw [hr 1 (by decide)]; exact h.2.2 k hk⟩
/-- what is heard -/
def HVm (i : Nat → Int32) (r : Nat → Nat → Int32) (n hn : Nat) (hm hs hf hh : Nat → Nat) : Prop := i 15 = nI hn ∧ hn ≤ 6 ∧ ∀ k, k < hn → (r 4 (4 * k) = nI (hm k) ∧ hm k < 2 ^ n) ∧ (r 4 (4 * k + 1) = nI (hs k) ∧ hs k ≤ 6 ∧ 1 ≤ hs k) ∧ (r 4 (4 * k + 2) = nI (hf k) ∧ hf k ≤ 40) ∧ r 4 (4 * k + 3) = nI (hh k) ∧ hh k ≤ 1
theorem HVm.sq {i i' : Nat → Int32} {r r' : Nat → Nat → Int32} {n hn : Nat} {hm hs hf hh : Nat → Nat} (h : HVm i r n hn hm hs hf hh) (hi : SPm i i') (hr : SQm r r') : HVm i' r' n hn hm hs hf hh := ⟨(hi 15 (by omega)).trans h.1, h.2.1, fun k hk => by rw [hr 4 (by decide)]; exact h.2.2 k hk⟩
theorem four_nI (k : Nat) : 4 * nI k = nI (4 * k) := pk_mul 4 k
theorem four_1 (k : Nat) : nI (4 * k) + 4 = nI (4 * (k + 1)) := nI_add (4 * k) 4
def OCm (r' : Nat → Nat → Int32) (c : Nat → Nat) (q : Nat) : Prop := ∀ k, k < 5 → k ≠ q - 1 → r' 5 (k + 1) = nI (c k)
theorem ocm_up {r' : Nat → Nat → Int32} {c : Nat → Nat} {q v : Nat} (h : OCm r' c q) (hq : 1 ≤ q) : ∀ k, k < 5 → upd (r' 5) q (nI v) (k + 1) = nI (upN c (q - 1) v k) := fun k hk => by
  unfold upd upN
  by_cases e : k = q - 1
  · rw [if_pos (by omega), if_pos e]
  · rw [if_neg (by omega), if_neg e]; exact h k hk e
theorem ocm_of {r' : Nat → Nat → Int32} {c : Nat → Nat} {q v : Nat} (h : ∀ k, k < 5 → r' 5 (k + 1) = nI (upN c (q - 1) v k)) : OCm r' c q := fun k hk e => by rw [h k hk]; unfold upN; rw [if_neg e]
theorem b2_ne {x y : Bool} : b2 x = b2 y ↔ x = y := by cases x <;> cases y <;> simp [b2]
theorem draw_l {t : Nat} (ht : t < 2147483648) : ((1103515245 * (nI t).toInt64 + 12345) &&& 2147483647).toInt32 = nI (nxt t) := by
  rw [← nextSeed_nI ht]
  rw [Int64.toInt32_and, Int64.toInt32_add, Int64.toInt32_mul, Int32.toInt32_toInt64]
  rfl
theorem div_65536 {t : Nat} (h : t < 2147483648) : nI t / 65536 = nI (t / 65536) := pk_div (by omega) (by decide) (by decide)
theorem alls_n0 {S : Nat → Bool} {p : Nat} (h : alls S p = false) : alls S (p + 1) = false := by show (alls S p && S p) = false; rw [h]; rfl
set_option maxHeartbeats 4000000 in
set_option maxRecDepth 100000 in
theorem m_layOf (l : Launch) (D : va_G) (cI : ClassId) (tt : Nat × Nat × Nat) (b : Nat → Nat) (i : Nat → Int32) (r : Nat → Nat → Int32) (h : Int64) (kd : Nat → Nat) (n : Nat) (hv : PVm i r kd n) (c : Nat → Nat) (hc : ∀ k, k < 5 → r 2 (k + 1) = nI (c k) ∧ c k ≤ 9) (hn : Nat) (hm hs hf hh : Nat → Nat) (hh0 : HVm i r n hn hm hs hf hh) (q : Nat) (hq1 : 1 ≤ q) (hq5 : q < 6) : MetI (S := ((Nat → Int32) × (Nat → Nat → Int32))) l yX4_layOf cX4_layOf 7 (some .int) (rm 7 162) D cI tt [.ref (b 0), .int (nI q)] (mW cI b i r h) (fun z u => z = nI (layv kd n c hn hm hs hf hh q) ∧ SPm i u.1 ∧ SQm r u.2 ∧ OCm u.2 c q) (fun u => mW cI b u.1 u.2 h) := by
  have hn6 := hv.2.1
  have hx6 := pow_le6 hn6
  refine met_ofI (by decide) (Nat.le_of_ble_eq_true rfl) ?_
  intro pP eE sS mM aV bB mE cC AA C hin
  refine z_conv (lv' := [(0, .ref (b 0)), (1, .int (nI q))]) ⟨rfl, rfl, trivial⟩ rfl rfl ?_
  refine z_aload_n C (pc := 0) dX4_layOf_0 rfl ?_
  refine z_get C (pc := 1) 0 rfl rfl wf_X4 9 (by decide) rfl wl_X4_16 (v := .ref (b 3)) rfl dX4_layOf_1 ?_
  refine z_aload_n C (pc := 4) dX4_layOf_4 rfl ?_
  refine z_get C (pc := 5) 0 rfl rfl wf_X4 17 (by decide) rfl wl_X4_25 (v := .ref (b 6)) rfl dX4_layOf_5 ?_
  refine z_callv C (isC := [3, 6]) rfl (by exact fun _ => rfl) (runS C (wc := [(b 3, .inl (cI, 7, .inl (r 2))), (b 6, .inl (cI, 7, .inl (r 5)))]) (pc := 8) (rY' := rm 0 0) (nn := 2) (As := [.ref (b 3), .ref (b 6)]) (rest := []) (m_copy l D cI tt (b 3) 7 (b 6) 7 (r 2) (r 5) (by decide) (by decide)) rfl rfl ⟨rfl, rfl, ⟨Nat.le_of_ble_eq_true rfl, Nat.le_of_ble_eq_true rfl⟩, Nat.le_of_ble_eq_true rfl, Nat.le_of_ble_eq_true rfl⟩ wl_X4_148 ws_X4_copy wi_X4 wc_X4_copy (by decide +kernel) rfl rfl (Nat.le_of_ble_eq_true rfl) dX4_layOf_8) (fun u_1 h_1 => ?_)
  subst h_1
  refine z_ws (st' := []) (ws' := (mW cI b i (va_up r 5 (cqv (r 2) (r 5) 7)) h)) rfl rfl ?_
  refine z_iconst C (pc := 11) (v := 0) dX4_layOf_11 (by decide) ?_
  refine z_istore_n C (pc := 12) (lv' := [(0, .ref (b 0)), (1, .int (nI q)), (2, .int 0)]) dX4_layOf_12 (Nat.le_of_ble_eq_true rfl) rfl rfl ?_
  refine z_iconst C (pc := 13) (v := 0) dX4_layOf_13 (by decide) ?_
  refine z_istore_n C (pc := 14) (lv' := [(0, .ref (b 0)), (1, .int (nI q)), (2, .int 0), (3, .int 0)]) dX4_layOf_14 (Nat.le_of_ble_eq_true rfl) rfl rfl ?_
  have key15 : ∀ (fu15 : Nat) (v : Nat) (i' : Nat → Int32) (r' : Nat → Nat → Int32), 10 - v < fu15 → (v ≤ 10) → (SPm i i') → (SQm r r') → (OCm r' c q) → Z pP l eE (rm 7 162) sS mM aV bB mE cC D AA 7 0 0 (MQ bB (va_Qi (S := ((Nat → Int32) × (Nat → Nat → Int32))) (fun z u => z = nI (layv kd n c hn hm hs hf hh q) ∧ SPm i u.1 ∧ SQm r u.2 ∧ OCm u.2 c q) (fun u t => va_P D vwCl ((fun u => mW cI b u.1 u.2 h) u) t.heap) AA) aV sS 0 0 AA) 15 [(0, .ref (b 0)), (1, .int (nI q)), (2, .int (nI (lyv (fun v => alls (sob kd n hm hs hf hh (upN c (q - 1) v)) hn) v))), (3, .int (nI v))] [] (mW cI b i' r' h) := by
    intro fu15
    induction fu15 with
    | zero => intro v i' r' hfu15; exact absurd hfu15 (Nat.not_lt_zero _)
    | succ fu15 ih15 =>
      intro v i' r' hfu15 hv10 hsp hsr hoc
      refine z_iload_n C (pc := 15) dX4_layOf_15 rfl ?_
      refine z_bipush C (pc := 16) (v := 10) dX4_layOf_16 (by decide) ?_
      refine z_icmp_ge C (pc := 18) (tgt := 142) dX4_layOf_18 (by decide) (fun c_2 => ?_) (fun c_2 => ?_)
      · refine z_iload_n C (pc := 142) dX4_layOf_142 rfl ?_
        refine z_iret C (pc := 143) (i', r') dX4_layOf_143 ?_ rfl
        have hve : v = 10 := by
          have := ge_of_nI (n := 10) c_2 (by decide)
          omega
        subst hve
        exact ⟨rfl, hsp, hsr, hoc⟩
      · have hv9 : v ≤ 9 := by
          have := lt_of_nI (n := 10) c_2 (by omega)
          omega
        refine z_aload_n C (pc := 21) dX4_layOf_21 rfl ?_
        refine z_get C (pc := 22) 0 rfl rfl wf_X4 17 (by decide) rfl wl_X4_25 (v := .ref (b 6)) rfl dX4_layOf_22 ?_
        refine z_iload_n C (pc := 25) dX4_layOf_25 rfl ?_
        refine z_iload_n C (pc := 26) dX4_layOf_26 rfl ?_
        have h_3 : vp_in (nI q) 7 := by exact vp_in_nI (by omega) (by decide)
        refine z_iast C (pc := 27) 6 rfl h_3 (ws' := (mW cI b i' (va_up r' 5 (upd (r' 5) (nI q).toNatClampNeg (nI v))) h)) rfl dX4_layOf_27 ?_
        refine z_iconst C (pc := 28) (v := 1) dX4_layOf_28 (by decide) ?_
        refine z_istore C (pc := 29) (lv' := [(0, .ref (b 0)), (1, .int (nI q)), (2, .int (nI (lyv (fun v => alls (sob kd n hm hs hf hh (upN c (q - 1) v)) hn) v))), (3, .int (nI v)), (4, .int 1)]) dX4_layOf_29 (Nat.le_of_ble_eq_true rfl) rfl rfl ?_
        refine z_iconst C (pc := 31) (v := 0) dX4_layOf_31 (by decide) ?_
        refine z_istore C (pc := 32) (lv' := [(0, .ref (b 0)), (1, .int (nI q)), (2, .int (nI (lyv (fun v => alls (sob kd n hm hs hf hh (upN c (q - 1) v)) hn) v))), (3, .int (nI v)), (4, .int 1), (5, .int 0)]) dX4_layOf_32 (Nat.le_of_ble_eq_true rfl) rfl rfl ?_
        have key34 : ∀ (fu34 : Nat) (k : Nat) (i2 : Nat → Int32) (r2 : Nat → Nat → Int32), hn - k < fu34 → (k ≤ hn) → (SPm i i2) → (SQm r r2) → (∀ k, k < 5 → r2 5 (k + 1) = nI (upN c (q - 1) v k)) → Z pP l eE (rm 7 162) sS mM aV bB mE cC D AA 7 0 0 (MQ bB (va_Qi (S := ((Nat → Int32) × (Nat → Nat → Int32))) (fun z u => z = nI (layv kd n c hn hm hs hf hh q) ∧ SPm i u.1 ∧ SQm r u.2 ∧ OCm u.2 c q) (fun u t => va_P D vwCl ((fun u => mW cI b u.1 u.2 h) u) t.heap) AA) aV sS 0 0 AA) 34 [(0, .ref (b 0)), (1, .int (nI q)), (2, .int (nI (lyv (fun v => alls (sob kd n hm hs hf hh (upN c (q - 1) v)) hn) v))), (3, .int (nI v)), (4, .int (b2 (alls (sob kd n hm hs hf hh (upN c (q - 1) v)) k))), (5, .int (nI (4 * k)))] [] (mW cI b i2 r2 h) := by
          intro fu34
          induction fu34 with
          | zero => intro k i2 r2 hfu34; exact absurd hfu34 (Nat.not_lt_zero _)
          | succ fu34 ih34 =>
            intro k i2 r2 hfu34 hkn hsp2 hsr2 ho2
            refine z_iload C (pc := 34) dX4_layOf_34 rfl ?_
            refine z_iconst C (pc := 36) (v := 4) dX4_layOf_36 (by decide) ?_
            refine z_aload_n C (pc := 37) dX4_layOf_37 rfl ?_
            refine z_get C (pc := 38) 0 rfl rfl wf_X4 15 (by decide) rfl wl_X4_81 (v := .int (i2 15)) rfl dX4_layOf_38 ?_
            refine z_imul C (pc := 41) dX4_layOf_41 ?_
            refine z_icmp_ge C (pc := 42) (tgt := 121) dX4_layOf_42 (by decide) (fun c_4 => ?_) (fun c_4 => ?_)
            · rw [(hh0.sq hsp2 hsr2).1, four_nI] at c_4
              have hhn := hh0.2.1
              have hke : k = hn := by
                have := ge_of_nI c_4 (by omega)
                omega
              refine z_lv (lv' := [(0, .ref (b 0)), (1, .int (nI q)), (2, .int (nI (lyv (fun v => alls (sob kd n hm hs hf hh (upN c (q - 1) v)) hn) v))), (3, .int (nI v)), (4, .int (b2 (alls (sob kd n hm hs hf hh (upN c (q - 1) v)) hn)))]) ⟨rfl, rfl, rfl, rfl, lki (by rw [hke]), trivial⟩ ?_
              refine z_iload_n C (pc := 121) dX4_layOf_121 rfl ?_
              refine z_iload C (pc := 122) dX4_layOf_122 rfl ?_
              refine z_if_eq C (pc := 124) (tgt := 133) dX4_layOf_124 (by decide) (fun c_5 => ?_) (fun c_5 => ?_)
              · have hP := b2_f c_5
                refine z_iconst C (pc := 133) (v := 0) dX4_layOf_133 (by decide) ?_
                refine z_ior C (pc := 134) dX4_layOf_134 ?_
                refine z_istore_n C (pc := 135) (lv' := [(0, .ref (b 0)), (1, .int (nI q)), (2, .int ((nI (lyv (fun v => alls (sob kd n hm hs hf hh (upN c (q - 1) v)) hn) v)) ||| 0)), (3, .int (nI v)), (4, .int (b2 (alls (sob kd n hm hs hf hh (upN c (q - 1) v)) hn)))]) dX4_layOf_135 (Nat.le_of_ble_eq_true rfl) rfl rfl ?_
                refine z_iinc C (pc := 136) (v := ((nI v) + 1)) (lv' := [(0, .ref (b 0)), (1, .int (nI q)), (2, .int ((nI (lyv (fun v => alls (sob kd n hm hs hf hh (upN c (q - 1) v)) hn) v)) ||| 0)), (3, .int ((nI v) + 1)), (4, .int (b2 (alls (sob kd n hm hs hf hh (upN c (q - 1) v)) hn)))]) dX4_layOf_136 rfl rfl (Nat.le_of_ble_eq_true rfl) rfl rfl ?_
                refine z_goto C (pc := 139) (tgt := 15) dX4_layOf_139 (by decide) ?_
                refine z_lv (lv' := [(0, .ref (b 0)), (1, .int (nI q)), (2, .int (nI (lyv (fun v => alls (sob kd n hm hs hf hh (upN c (q - 1) v)) hn) (v + 1)))), (3, .int (nI (v + 1)))]) ⟨rfl, rfl, lki (by rw [lyv_f (P := (fun v => alls (sob kd n hm hs hf hh (upN c (q - 1) v)) hn)) hP]; exact Int32.or_zero), lki (nI_1 v), trivial⟩ ?_
                exact ih15 (v + 1) i2 r2 (by omega) (by omega) hsp2 hsr2 (ocm_of ho2)
              · have hP := b2_t c_5
                refine z_iconst C (pc := 127) (v := 1) dX4_layOf_127 (by decide) ?_
                refine z_iload_n C (pc := 128) dX4_layOf_128 rfl ?_
                refine z_ishl C (pc := 129) dX4_layOf_129 ?_
                refine z_goto C (pc := 130) (tgt := 134) dX4_layOf_130 (by decide) ?_
                refine z_ior C (pc := 134) dX4_layOf_134 ?_
                refine z_istore_n C (pc := 135) (lv' := [(0, .ref (b 0)), (1, .int (nI q)), (2, .int ((nI (lyv (fun v => alls (sob kd n hm hs hf hh (upN c (q - 1) v)) hn) v)) ||| (1 <<< ((nI v) &&& 31)))), (3, .int (nI v)), (4, .int (b2 (alls (sob kd n hm hs hf hh (upN c (q - 1) v)) hn)))]) dX4_layOf_135 (Nat.le_of_ble_eq_true rfl) rfl rfl ?_
                refine z_iinc C (pc := 136) (v := ((nI v) + 1)) (lv' := [(0, .ref (b 0)), (1, .int (nI q)), (2, .int ((nI (lyv (fun v => alls (sob kd n hm hs hf hh (upN c (q - 1) v)) hn) v)) ||| (1 <<< ((nI v) &&& 31)))), (3, .int ((nI v) + 1)), (4, .int (b2 (alls (sob kd n hm hs hf hh (upN c (q - 1) v)) hn)))]) dX4_layOf_136 rfl rfl (Nat.le_of_ble_eq_true rfl) rfl rfl ?_
                refine z_goto C (pc := 139) (tgt := 15) dX4_layOf_139 (by decide) ?_
                refine z_lv (lv' := [(0, .ref (b 0)), (1, .int (nI q)), (2, .int (nI (lyv (fun v => alls (sob kd n hm hs hf hh (upN c (q - 1) v)) hn) (v + 1)))), (3, .int (nI (v + 1)))]) ⟨rfl, rfl, lki (by rw [lyv_t (P := (fun v => alls (sob kd n hm hs hf hh (upN c (q - 1) v)) hn)) hP]; exact or_bit v (by omega) _ (lyv_lt _ v)), lki (nI_1 v), trivial⟩ ?_
                exact ih15 (v + 1) i2 r2 (by omega) (by omega) hsp2 hsr2 (ocm_of ho2)
            · rw [(hh0.sq hsp2 hsr2).1, four_nI] at c_4
              have hhn := hh0.2.1
              have hk : k < hn := by
                have := lt_of_nI c_4 (by omega)
                omega
              have hq0 := (hh0.sq hsp2 hsr2).2.2 k hk
              have hc3 : ∀ k, k < 5 → r2 5 (k + 1) = nI (upN c (q - 1) v k) ∧ upN c (q - 1) v k ≤ 9 := fun k hk => ⟨ho2 k hk, upN_le (fun k hk => (hc k hk).2) hv9 k hk⟩
              refine z_aload_n C (pc := 45) dX4_layOf_45 rfl ?_
              refine z_aload_n C (pc := 46) dX4_layOf_46 rfl ?_
              refine z_get C (pc := 47) 0 rfl rfl wf_X4 16 (by decide) rfl wl_X4_22 (v := .ref (b 5)) rfl dX4_layOf_47 ?_
              refine z_iload C (pc := 50) dX4_layOf_50 rfl ?_
              have h_6 : vp_in (nI (4 * k)) 24 := by exact vp_in_nI (by omega) (by decide)
              refine z_iald C (pc := 52) 5 rfl h_6 dX4_layOf_52 ?_
              refine z_seti (y := nI (hm k)) (by rw [nI_clamp (by omega)]; exact hq0.1.1) ?_
              refine z_aload_n C (pc := 53) dX4_layOf_53 rfl ?_
              refine z_get C (pc := 54) 0 rfl rfl wf_X4 16 (by decide) rfl wl_X4_22 (v := .ref (b 5)) rfl dX4_layOf_54 ?_
              refine z_iload C (pc := 57) dX4_layOf_57 rfl ?_
              refine z_iconst C (pc := 59) (v := 1) dX4_layOf_59 (by decide) ?_
              refine z_iadd C (pc := 60) dX4_layOf_60 ?_
              refine z_seti (y := nI (4 * k + 1)) (nI_add (4 * k) 1) ?_
              have h_7 : vp_in (nI (4 * k + 1)) 24 := by exact vp_in_nI (by omega) (by decide)
              refine z_iald C (pc := 61) 5 rfl h_7 dX4_layOf_61 ?_
              refine z_seti (y := nI (hs k)) (by rw [nI_clamp (by omega)]; exact hq0.2.1.1) ?_
              refine z_aload_n C (pc := 62) dX4_layOf_62 rfl ?_
              refine z_get C (pc := 63) 0 rfl rfl wf_X4 16 (by decide) rfl wl_X4_22 (v := .ref (b 5)) rfl dX4_layOf_63 ?_
              refine z_iload C (pc := 66) dX4_layOf_66 rfl ?_
              refine z_iconst C (pc := 68) (v := 2) dX4_layOf_68 (by decide) ?_
              refine z_iadd C (pc := 69) dX4_layOf_69 ?_
              refine z_seti (y := nI (4 * k + 2)) (nI_add (4 * k) 2) ?_
              have h_8 : vp_in (nI (4 * k + 2)) 24 := by exact vp_in_nI (by omega) (by decide)
              refine z_iald C (pc := 70) 5 rfl h_8 dX4_layOf_70 ?_
              refine z_seti (y := nI (hf k)) (by rw [nI_clamp (by omega)]; exact hq0.2.2.1.1) ?_
              refine z_aload_n C (pc := 71) dX4_layOf_71 rfl ?_
              refine z_get C (pc := 72) 0 rfl rfl wf_X4 17 (by decide) rfl wl_X4_25 (v := .ref (b 6)) rfl dX4_layOf_72 ?_
              refine z_calliF C (by exact fun _ => mW_ad) (runV C (wc := (mW cI b i2 r2 h)) (pc := 75) (rY' := rm 6 138) (nn := 4) (As := [.int (nI (hm k)), .int (nI (hs k)), .int (nI (hf k)), .ref (b 6)]) (rest := []) (m_comesHomeO l D cI tt b i2 r2 h kd n (hv.sq hsp2 hsr2) (hm k) (hs k) (hf k) hq0.1.2 hq0.2.1.2.1 hq0.2.2.1.2 (upN c (q - 1) v) hc3 hq0.2.1.2.2) (full_hC _) (full_nd _) ⟨rfl, rfl, ⟨Nat.le_of_ble_eq_true rfl, Nat.le_of_ble_eq_true rfl⟩, Nat.le_of_ble_eq_true rfl, Nat.le_of_ble_eq_true rfl⟩ wl_X4_184 wm_X4_comesHome we_X4_comesHome wi_X4 wc_X4_comesHome (by decide +kernel) rfl 0 rfl rfl rfl rfl (Nat.le_of_ble_eq_true rfl) dX4_layOf_75) (fun q_9 u_9 h_9 => ?_)
              obtain ⟨i9, r9⟩ := u_9
              try dsimp only at h_9
              obtain ⟨k0, k1, k2⟩ := h_9
              subst k0
              refine z_ws (st' := [.int (b2 (homeb kd n (hm k) (hs k) (upN c (q - 1) v) (hf k)))]) (ws' := (mW cI b i9 r9 h)) rfl rfl ?_
              refine z_istore C (pc := 78) (lv' := [(0, .ref (b 0)), (1, .int (nI q)), (2, .int (nI (lyv (fun v => alls (sob kd n hm hs hf hh (upN c (q - 1) v)) hn) v))), (3, .int (nI v)), (4, .int (b2 (alls (sob kd n hm hs hf hh (upN c (q - 1) v)) k))), (5, .int (nI (4 * k))), (6, .int (b2 (homeb kd n (hm k) (hs k) (upN c (q - 1) v) (hf k))))]) dX4_layOf_78 (Nat.le_of_ble_eq_true rfl) rfl rfl ?_
              refine z_iload C (pc := 80) dX4_layOf_80 rfl ?_
              refine z_if_eq C (pc := 82) (tgt := 112) dX4_layOf_82 (by decide) (fun c_10 => ?_) (fun c_10 => ?_)
              · have ha := b2_f c_10
                have hal : alls (sob kd n hm hs hf hh (upN c (q - 1) v)) (k + 1) = false := alls_n0 ha
                refine z_iconst C (pc := 112) (v := 0) dX4_layOf_112 (by decide) ?_
                refine z_istore C (pc := 113) (lv' := [(0, .ref (b 0)), (1, .int (nI q)), (2, .int (nI (lyv (fun v => alls (sob kd n hm hs hf hh (upN c (q - 1) v)) hn) v))), (3, .int (nI v)), (4, .int 0), (5, .int (nI (4 * k))), (6, .int (b2 (homeb kd n (hm k) (hs k) (upN c (q - 1) v) (hf k))))]) dX4_layOf_113 (Nat.le_of_ble_eq_true rfl) rfl rfl ?_
                refine z_iinc C (pc := 115) (v := ((nI (4 * k)) + 4)) (lv' := [(0, .ref (b 0)), (1, .int (nI q)), (2, .int (nI (lyv (fun v => alls (sob kd n hm hs hf hh (upN c (q - 1) v)) hn) v))), (3, .int (nI v)), (4, .int 0), (5, .int ((nI (4 * k)) + 4)), (6, .int (b2 (homeb kd n (hm k) (hs k) (upN c (q - 1) v) (hf k))))]) dX4_layOf_115 rfl rfl (Nat.le_of_ble_eq_true rfl) rfl rfl ?_
                refine z_goto C (pc := 118) (tgt := 34) dX4_layOf_118 (by decide) ?_
                refine z_lv (lv' := [(0, .ref (b 0)), (1, .int (nI q)), (2, .int (nI (lyv (fun v => alls (sob kd n hm hs hf hh (upN c (q - 1) v)) hn) v))), (3, .int (nI v)), (4, .int (b2 (alls (sob kd n hm hs hf hh (upN c (q - 1) v)) (k + 1)))), (5, .int (nI (4 * (k + 1))))]) ⟨rfl, rfl, rfl, rfl, lki (by rw [hal]; rfl), lki (four_1 k), trivial⟩ ?_
                exact ih34 (k + 1) i9 r9 (by omega) hk (hsp2.tr k1) (hsr2.tr k2.q) (fun k hk => (congrFun (k2 5 (by decide)) (k + 1)).trans (ho2 k hk))
              · have ha := b2_t c_10
                refine z_iload C (pc := 85) dX4_layOf_85 rfl ?_
                refine z_aload_n C (pc := 87) dX4_layOf_87 rfl ?_
                refine z_get C (pc := 88) 0 rfl rfl wf_X4 16 (by decide) rfl wl_X4_22 (v := .ref (b 5)) rfl dX4_layOf_88 ?_
                refine z_iload C (pc := 91) dX4_layOf_91 rfl ?_
                refine z_iconst C (pc := 93) (v := 3) dX4_layOf_93 (by decide) ?_
                refine z_iadd C (pc := 94) dX4_layOf_94 ?_
                refine z_seti (y := nI (4 * k + 3)) (nI_add (4 * k) 3) ?_
                have h_11 : vp_in (nI (4 * k + 3)) 24 := by exact vp_in_nI (by omega) (by decide)
                refine z_iald C (pc := 95) 5 rfl h_11 dX4_layOf_95 ?_
                refine z_seti (y := nI (hh k)) (by rw [nI_clamp (by omega)]; exact ((hh0.sq (hsp2.tr k1) (hsr2.tr k2.q)).2.2 k hk).2.2.2.1) ?_
                refine z_iconst C (pc := 96) (v := 1) dX4_layOf_96 (by decide) ?_
                refine z_icmp_ne C (pc := 97) (tgt := 104) dX4_layOf_97 (by decide) (fun c_12 => ?_) (fun c_12 => ?_)
                · have hh1 : decide (hh k = 1) = false := decide_eq_false (fun e => c_12 ((nI_eq1 (by have := hq0.2.2.2.2; omega)).mpr e))
                  refine z_iconst C (pc := 104) (v := 0) dX4_layOf_104 (by decide) ?_
                  refine z_icmp_ne C (pc := 105) (tgt := 112) dX4_layOf_105 (by decide) (fun c_13 => ?_) (fun c_13 => ?_)
                  · have hso : (sob kd n hm hs hf hh (upN c (q - 1) v)) k = false := by
                      unfold sob
                      rw [hh1, b2_t c_13]; rfl
                    have hal := alls_n hso (Nat.lt_succ_self k)
                    refine z_iconst C (pc := 112) (v := 0) dX4_layOf_112 (by decide) ?_
                    refine z_istore C (pc := 113) (lv' := [(0, .ref (b 0)), (1, .int (nI q)), (2, .int (nI (lyv (fun v => alls (sob kd n hm hs hf hh (upN c (q - 1) v)) hn) v))), (3, .int (nI v)), (4, .int 0), (5, .int (nI (4 * k))), (6, .int (b2 (homeb kd n (hm k) (hs k) (upN c (q - 1) v) (hf k))))]) dX4_layOf_113 (Nat.le_of_ble_eq_true rfl) rfl rfl ?_
                    refine z_iinc C (pc := 115) (v := ((nI (4 * k)) + 4)) (lv' := [(0, .ref (b 0)), (1, .int (nI q)), (2, .int (nI (lyv (fun v => alls (sob kd n hm hs hf hh (upN c (q - 1) v)) hn) v))), (3, .int (nI v)), (4, .int 0), (5, .int ((nI (4 * k)) + 4)), (6, .int (b2 (homeb kd n (hm k) (hs k) (upN c (q - 1) v) (hf k))))]) dX4_layOf_115 rfl rfl (Nat.le_of_ble_eq_true rfl) rfl rfl ?_
                    refine z_goto C (pc := 118) (tgt := 34) dX4_layOf_118 (by decide) ?_
                    refine z_lv (lv' := [(0, .ref (b 0)), (1, .int (nI q)), (2, .int (nI (lyv (fun v => alls (sob kd n hm hs hf hh (upN c (q - 1) v)) hn) v))), (3, .int (nI v)), (4, .int (b2 (alls (sob kd n hm hs hf hh (upN c (q - 1) v)) (k + 1)))), (5, .int (nI (4 * (k + 1))))]) ⟨rfl, rfl, rfl, rfl, lki (by rw [hal]; rfl), lki (four_1 k), trivial⟩ ?_
                    exact ih34 (k + 1) i9 r9 (by omega) hk (hsp2.tr k1) (hsr2.tr k2.q) (fun k hk => (congrFun (k2 5 (by decide)) (k + 1)).trans (ho2 k hk))
                  · have hso : (sob kd n hm hs hf hh (upN c (q - 1) v)) k = true := by
                      unfold sob
                      rw [hh1, b2_f c_13]; rfl
                    have hal := alls_s ha hso
                    refine z_iconst C (pc := 108) (v := 1) dX4_layOf_108 (by decide) ?_
                    refine z_goto C (pc := 109) (tgt := 113) dX4_layOf_109 (by decide) ?_
                    refine z_istore C (pc := 113) (lv' := [(0, .ref (b 0)), (1, .int (nI q)), (2, .int (nI (lyv (fun v => alls (sob kd n hm hs hf hh (upN c (q - 1) v)) hn) v))), (3, .int (nI v)), (4, .int 1), (5, .int (nI (4 * k))), (6, .int (b2 (homeb kd n (hm k) (hs k) (upN c (q - 1) v) (hf k))))]) dX4_layOf_113 (Nat.le_of_ble_eq_true rfl) rfl rfl ?_
                    refine z_iinc C (pc := 115) (v := ((nI (4 * k)) + 4)) (lv' := [(0, .ref (b 0)), (1, .int (nI q)), (2, .int (nI (lyv (fun v => alls (sob kd n hm hs hf hh (upN c (q - 1) v)) hn) v))), (3, .int (nI v)), (4, .int 1), (5, .int ((nI (4 * k)) + 4)), (6, .int (b2 (homeb kd n (hm k) (hs k) (upN c (q - 1) v) (hf k))))]) dX4_layOf_115 rfl rfl (Nat.le_of_ble_eq_true rfl) rfl rfl ?_
                    refine z_goto C (pc := 118) (tgt := 34) dX4_layOf_118 (by decide) ?_
                    refine z_lv (lv' := [(0, .ref (b 0)), (1, .int (nI q)), (2, .int (nI (lyv (fun v => alls (sob kd n hm hs hf hh (upN c (q - 1) v)) hn) v))), (3, .int (nI v)), (4, .int (b2 (alls (sob kd n hm hs hf hh (upN c (q - 1) v)) (k + 1)))), (5, .int (nI (4 * (k + 1))))]) ⟨rfl, rfl, rfl, rfl, lki (by rw [hal]; rfl), lki (four_1 k), trivial⟩ ?_
                    exact ih34 (k + 1) i9 r9 (by omega) hk (hsp2.tr k1) (hsr2.tr k2.q) (fun k hk => (congrFun (k2 5 (by decide)) (k + 1)).trans (ho2 k hk))
                · have hh1 : decide (hh k = 1) = true := decide_eq_true ((nI_eq1 (by have := hq0.2.2.2.2; omega)).mp c_12)
                  refine z_iconst C (pc := 100) (v := 1) dX4_layOf_100 (by decide) ?_
                  refine z_goto C (pc := 101) (tgt := 105) dX4_layOf_101 (by decide) ?_
                  refine z_icmp_ne C (pc := 105) (tgt := 112) dX4_layOf_105 (by decide) (fun c_14 => ?_) (fun c_14 => ?_)
                  · have hso : (sob kd n hm hs hf hh (upN c (q - 1) v)) k = false := by
                      unfold sob
                      rw [hh1, b2_n1 c_14]; rfl
                    have hal := alls_n hso (Nat.lt_succ_self k)
                    refine z_iconst C (pc := 112) (v := 0) dX4_layOf_112 (by decide) ?_
                    refine z_istore C (pc := 113) (lv' := [(0, .ref (b 0)), (1, .int (nI q)), (2, .int (nI (lyv (fun v => alls (sob kd n hm hs hf hh (upN c (q - 1) v)) hn) v))), (3, .int (nI v)), (4, .int 0), (5, .int (nI (4 * k))), (6, .int (b2 (homeb kd n (hm k) (hs k) (upN c (q - 1) v) (hf k))))]) dX4_layOf_113 (Nat.le_of_ble_eq_true rfl) rfl rfl ?_
                    refine z_iinc C (pc := 115) (v := ((nI (4 * k)) + 4)) (lv' := [(0, .ref (b 0)), (1, .int (nI q)), (2, .int (nI (lyv (fun v => alls (sob kd n hm hs hf hh (upN c (q - 1) v)) hn) v))), (3, .int (nI v)), (4, .int 0), (5, .int ((nI (4 * k)) + 4)), (6, .int (b2 (homeb kd n (hm k) (hs k) (upN c (q - 1) v) (hf k))))]) dX4_layOf_115 rfl rfl (Nat.le_of_ble_eq_true rfl) rfl rfl ?_
                    refine z_goto C (pc := 118) (tgt := 34) dX4_layOf_118 (by decide) ?_
                    refine z_lv (lv' := [(0, .ref (b 0)), (1, .int (nI q)), (2, .int (nI (lyv (fun v => alls (sob kd n hm hs hf hh (upN c (q - 1) v)) hn) v))), (3, .int (nI v)), (4, .int (b2 (alls (sob kd n hm hs hf hh (upN c (q - 1) v)) (k + 1)))), (5, .int (nI (4 * (k + 1))))]) ⟨rfl, rfl, rfl, rfl, lki (by rw [hal]; rfl), lki (four_1 k), trivial⟩ ?_
                    exact ih34 (k + 1) i9 r9 (by omega) hk (hsp2.tr k1) (hsr2.tr k2.q) (fun k hk => (congrFun (k2 5 (by decide)) (k + 1)).trans (ho2 k hk))
                  · have hso : (sob kd n hm hs hf hh (upN c (q - 1) v)) k = true := by
                      unfold sob
                      rw [hh1, b2_1 c_14]; rfl
                    have hal := alls_s ha hso
                    refine z_iconst C (pc := 108) (v := 1) dX4_layOf_108 (by decide) ?_
                    refine z_goto C (pc := 109) (tgt := 113) dX4_layOf_109 (by decide) ?_
                    refine z_istore C (pc := 113) (lv' := [(0, .ref (b 0)), (1, .int (nI q)), (2, .int (nI (lyv (fun v => alls (sob kd n hm hs hf hh (upN c (q - 1) v)) hn) v))), (3, .int (nI v)), (4, .int 1), (5, .int (nI (4 * k))), (6, .int (b2 (homeb kd n (hm k) (hs k) (upN c (q - 1) v) (hf k))))]) dX4_layOf_113 (Nat.le_of_ble_eq_true rfl) rfl rfl ?_
                    refine z_iinc C (pc := 115) (v := ((nI (4 * k)) + 4)) (lv' := [(0, .ref (b 0)), (1, .int (nI q)), (2, .int (nI (lyv (fun v => alls (sob kd n hm hs hf hh (upN c (q - 1) v)) hn) v))), (3, .int (nI v)), (4, .int 1), (5, .int ((nI (4 * k)) + 4)), (6, .int (b2 (homeb kd n (hm k) (hs k) (upN c (q - 1) v) (hf k))))]) dX4_layOf_115 rfl rfl (Nat.le_of_ble_eq_true rfl) rfl rfl ?_
                    refine z_goto C (pc := 118) (tgt := 34) dX4_layOf_118 (by decide) ?_
                    refine z_lv (lv' := [(0, .ref (b 0)), (1, .int (nI q)), (2, .int (nI (lyv (fun v => alls (sob kd n hm hs hf hh (upN c (q - 1) v)) hn) v))), (3, .int (nI v)), (4, .int (b2 (alls (sob kd n hm hs hf hh (upN c (q - 1) v)) (k + 1)))), (5, .int (nI (4 * (k + 1))))]) ⟨rfl, rfl, rfl, rfl, lki (by rw [hal]; rfl), lki (four_1 k), trivial⟩ ?_
                    exact ih34 (k + 1) i9 r9 (by omega) hk (hsp2.tr k1) (hsr2.tr k2.q) (fun k hk => (congrFun (k2 5 (by decide)) (k + 1)).trans (ho2 k hk))
        refine z_lv (lv' := [(0, .ref (b 0)), (1, .int (nI q)), (2, .int (nI (lyv (fun v => alls (sob kd n hm hs hf hh (upN c (q - 1) v)) hn) v))), (3, .int (nI v)), (4, .int (b2 (alls (sob kd n hm hs hf hh (upN c (q - 1) v)) 0))), (5, .int (nI (4 * 0)))]) ⟨rfl, rfl, rfl, rfl, rfl, rfl, trivial⟩ ?_
        exact key34 (_ + 1) 0 i' (va_up r' 5 (upd (r' 5) (nI q).toNatClampNeg (nI v))) (Nat.lt_succ_self _) (Nat.zero_le _) hsp hsr.up (fun k hk => by rw [vup_s, nI_clamp (by omega)]; exact ocm_up hoc hq1 k hk)
  refine z_lv (lv' := [(0, .ref (b 0)), (1, .int (nI q)), (2, .int (nI (lyv (fun v => alls (sob kd n hm hs hf hh (upN c (q - 1) v)) hn) 0))), (3, .int (nI 0))]) ⟨rfl, rfl, rfl, rfl, trivial⟩ ?_
  exact key15 (_ + 1) 0 i (va_up r 5 (cqv (r 2) (r 5) 7)) (Nat.lt_succ_self _) (Nat.zero_le _) SPm.rf SQm.rf.up (fun k hk _ => by rw [vup_s, cqv_at, if_pos (by omega)]; exact (hc k hk).1)
