/-- what is heard -/
def HV (i : Nat → Int32) (r : Nat → Nat → Int32) (n hn : Nat) (hm hs hf hh : Nat → Nat) : Prop := i 13 = nI hn ∧ hn ≤ 6 ∧ ∀ k, k < hn → (r 4 k = nI (hm k) ∧ hm k < 2 ^ n) ∧ (r 5 k = nI (hs k) ∧ hs k ≤ 6) ∧ (r 6 k = nI (hf k) ∧ hf k ≤ 40) ∧ r 7 k = nI (hh k) ∧ hh k ≤ 1
theorem HV.sp {i i' : Nat → Int32} {r r' : Nat → Nat → Int32} {n hn : Nat} {hm hs hf hh : Nat → Nat} (h : HV i r n hn hm hs hf hh) (hi : SP i i') (hr : SR r r') : HV i' r' n hn hm hs hf hh := ⟨(hi 13 (by omega)).trans h.1, h.2.1, fun k hk => by rw [hr 4 (by decide), hr 5 (by decide), hr 6 (by decide), hr 7 (by decide)]; exact h.2.2 k hk⟩
theorem upN_le {c : Nat → Nat} {q v : Nat} (hc : ∀ k, k < 5 → c k ≤ 9) (hv : v ≤ 9) : ∀ k, k < 5 → upN c q v k ≤ 9 := fun k hk => by unfold upN; split <;> first | exact hv | exact hc k hk
theorem put_up {f : Nat → Int32} {c : Nat → Nat} {q v : Nat} (h0 : 1 ≤ q) (h5 : q < 6) (hf : ∀ k, k < 5 → f k = nI (c k)) : ∀ k, k < 5 → putv 5 f (nI q - 1) (nI v) k = nI (upN c (q - 1) v k) := fun k hk => by
  rw [put_c h5, if_neg (by omega)]
  unfold upd upN
  by_cases e : k = q - 1
  · rw [if_pos e, if_pos e]
  · rw [if_neg e, if_neg e]; exact hf k hk
theorem b2_1 {b : Bool} (h : b2 b = 1) : b = true := b2_t (by rw [h]; decide)
theorem b2_n1 {b : Bool} (h : ¬ b2 b = 1) : b = false := by cases b <;> first | rfl | exact absurd rfl h
theorem mar_b2 {d : Nat} : (if d = 0 then (1 : Int32) else 0) = b2 (decide (d = 0)) := by unfold b2; by_cases h : d = 0 <;> simp [h]
theorem mar_home {kd : Nat → Nat} {n x st f : Nat} {c : Nat → Nat} : (if (marv kd n x st f c).2.2.2 = 0 then (1 : Int32) else 0) = b2 (homeb kd n x st c f) := mar_b2
theorem alls_s {S : Nat → Bool} {p : Nat} (h : alls S p = true) (h2 : S p = true) : alls S (p + 1) = true := by show (alls S p && S p) = true; rw [h, h2]; rfl
theorem alls_n {S : Nat → Bool} {p m : Nat} (h2 : S p = false) (hm : p < m) : alls S m = false := by
  have h1 : alls S (p + 1) = false := by show (alls S p && S p) = false; rw [h2, Bool.and_false]
  have := alls_f h1 (m - (p + 1))
  rwa [show p + 1 + (m - (p + 1)) = m by omega] at this
theorem lyv_t {P : Nat → Bool} {v : Nat} (h : P v = true) : lyv P (v + 1) = lyv P v + 2 ^ v := by show lyv P v + (if _ then _ else _) = _; rw [if_pos h]
theorem lyv_f {P : Nat → Bool} {v : Nat} (h : P v = false) : lyv P (v + 1) = lyv P v := by show lyv P v + (if _ then _ else _) = _; rw [if_neg (by rw [h]; decide)]; rfl
theorem hcv_t {H : Nat → Bool} {b v : Nat} (h : bt b v = 1) (h2 : H v = true) : hcv H b (v + 1) = hcv H b v + 1 := by show hcv H b v + (if _ then _ else _) = _; rw [if_pos ⟨h, h2⟩]
theorem hcv_f {H : Nat → Bool} {b v : Nat} (h : ¬ (bt b v = 1 ∧ H v = true)) : hcv H b (v + 1) = hcv H b v := by show hcv H b v + (if _ then _ else _) = _; rw [if_neg h]; rfl
theorem trv_s {w : Nat → Nat} {l f : Nat} (h : w f < (trv w l f).2) : trv w l (f + 1) = (nI f, w f) := by show (if _ then _ else _) = _; rw [if_pos h]
theorem trv_n {w : Nat → Nat} {l f : Nat} (h : ¬ w f < (trv w l f).2) : trv w l (f + 1) = trv w l f := by show (if _ then _ else _) = _; rw [if_neg h]
theorem trv_b {w : Nat → Nat} {l B : Nat} (hl : l ≤ B) (hw : ∀ f, w f ≤ B) : ∀ f, (trv w l f).2 ≤ B
  | 0 => hl
  | f + 1 => by
    by_cases h : w f < (trv w l f).2
    · rw [trv_s h]; exact hw f
    · rw [trv_n h]; exact trv_b hl hw f
theorem max_nI {x y : Nat} (hx : x < 2 ^ 31) (hy : y < 2 ^ 31) : (if nI x < nI y then nI y else nI x) = nI (max x y) := by
  by_cases h : x < y
  · rw [if_pos (nI_lt h hy), Nat.max_eq_right (by omega)]
  · rw [if_neg (nI_nlt (by omega) hx), Nat.max_eq_left (by omega)]
set_option maxHeartbeats 4000000 in
set_option maxRecDepth 100000 in
theorem c_isAllSo (l : Launch) (D : va_G) (cI : ClassId) (tt : Nat × Nat × Nat) (a : Nat → Nat) (i : Nat → Int32) (r : Nat → Nat → Int32) (kd : Nat → Nat) (n : Nat) (hv : PV i r kd n) (c : Nat → Nat) (hc : ∀ k, k < 5 → r 3 k = nI (c k) ∧ c k ≤ 9) (hn : Nat) (hm hs hf hh : Nat → Nat) (hh0 : HV i r n hn hm hs hf hh) (q v : Nat) (hq1 : 1 ≤ q) (hq5 : q < 6) (hv9 : v ≤ 9) : MetI (S := ((Nat → Int32) × (Nat → Nat → Int32))) l yX3_isAllSo cX3_isAllSo 6 (some .boolean) (rm 4 92) D cI tt [.ref (a 0), .int (nI q), .int (nI v)] (cW cI a i r) (fun z u => z = b2 (alls (sob kd n hm hs hf hh (upN c (q - 1) v)) hn) ∧ SP i u.1 ∧ SR r u.2) (fun u => cW cI a u.1 u.2) := by
  have hn6 := hv.2.1
  have hx6 := pow_le6 hn6
  refine met_ofI (by decide) (Nat.le_of_ble_eq_true rfl) ?_
  intro pP eE sS mM aV bB mE cC AA C hin
  refine z_conv (lv' := [(0, .ref (a 0)), (1, .int (nI q)), (2, .int (nI v))]) ⟨rfl, rfl, rfl, trivial⟩ rfl rfl ?_
  refine z_iconst C (pc := 0) (v := 0) dX3_isAllSo_0 (by decide) ?_
  refine z_istore_n C (pc := 1) (lv' := [(0, .ref (a 0)), (1, .int (nI q)), (2, .int (nI v)), (3, .int 0)]) dX3_isAllSo_1 (Nat.le_of_ble_eq_true rfl) rfl rfl ?_
  have key2 : ∀ (fu2 : Nat) (k : Nat) (i' : Nat → Int32) (r' : Nat → Nat → Int32), hn - k < fu2 → (k ≤ hn) → (SP i i') → (SR r r') → (alls (sob kd n hm hs hf hh (upN c (q - 1) v)) k = true) → Z pP l eE (rm 4 92) sS mM aV bB mE cC D AA 6 0 0 (MQ bB (va_Qi (S := ((Nat → Int32) × (Nat → Nat → Int32))) (fun z u => z = b2 (alls (sob kd n hm hs hf hh (upN c (q - 1) v)) hn) ∧ SP i u.1 ∧ SR r u.2) (fun u t => va_P D vwCl ((fun u => cW cI a u.1 u.2) u) t.heap) AA) aV sS 0 0 AA) 2 [(0, .ref (a 0)), (1, .int (nI q)), (2, .int (nI v)), (3, .int (nI k))] [] (cW cI a i' r') := by
    intro fu2
    induction fu2 with
    | zero => intro k i' r' hfu2; exact absurd hfu2 (Nat.not_lt_zero _)
    | succ fu2 ih2 =>
      intro k i' r' hfu2 hkn hsp hsr hal
      refine z_iload_n C (pc := 2) dX3_isAllSo_2 rfl ?_
      refine z_aload_n C (pc := 3) dX3_isAllSo_3 rfl ?_
      refine z_get C (pc := 4) 0 rfl rfl wf_X3 2 (by decide) rfl wl_X3_26 (v := .ref (a 6)) rfl dX3_isAllSo_4 ?_
      refine z_getN C (pc := 7) 6 rfl rfl wf_X2 4 (by decide) rfl wl_X3_173 (v := .int (i' 13)) rfl dX3_isAllSo_7 ?_
      refine z_icmp_ge C (pc := 10) (tgt := 120) dX3_isAllSo_10 (by decide) (fun c_1 => ?_) (fun c_1 => ?_)
      · refine z_iconst C (pc := 120) (v := 1) dX3_isAllSo_120 (by decide) ?_
        refine z_zret C (pc := 121) (i', r') dX3_isAllSo_121 rfl ?_ rfl
        have hhn := hh0.2.1
        rw [(hsp 13 (by omega)).trans hh0.1] at c_1
        have hke : k = hn := by
          have := ge_of_nI c_1 (by have := hh0.2.1; omega)
          omega
        subst hke
        exact ⟨by rw [hal]; rfl, hsp, hsr⟩
      · have hhn := hh0.2.1
        rw [(hsp 13 (by omega)).trans hh0.1] at c_1
        have hk : k < hn := lt_of_nI c_1 (by omega)
        have hq0 := (hh0.2.2 k hk)
        refine z_aload_n C (pc := 13) dX3_isAllSo_13 rfl ?_
        refine z_get C (pc := 14) 0 rfl rfl wf_X3 1 (by decide) rfl wl_X3_19 (v := .ref (a 3)) rfl dX3_isAllSo_14 ?_
        refine z_aload_n C (pc := 17) dX3_isAllSo_17 rfl ?_
        refine z_get C (pc := 18) 0 rfl rfl wf_X3 2 (by decide) rfl wl_X3_26 (v := .ref (a 6)) rfl dX3_isAllSo_18 ?_
        refine z_getN C (pc := 21) 6 rfl rfl wf_X2 1 (by decide) rfl wl_X3_77 (v := .ref (a 7)) rfl dX3_isAllSo_21 ?_
        refine z_callvF C (by exact fun _ => cW_ad) (runVN C (wc := (cW cI a i' r')) (pc := 24) (rY' := rm 2 44) (nn := 1) (As := [.ref (a 7)]) (rest := []) (c_setCairnsN l D cI tt a i' r') (full_hC _) (full_nd _) ⟨rfl, rfl, ⟨Nat.le_of_ble_eq_true rfl, Nat.le_of_ble_eq_true rfl⟩, Nat.le_of_ble_eq_true rfl, Nat.le_of_ble_eq_true rfl⟩ wl_X3_124 wm_X1_setCairns we_X1_setCairns wi_X1 wc_X1_setCairns (by decide +kernel) rfl 3 rfl rfl rfl rfl (Nat.le_of_ble_eq_true rfl) dX3_isAllSo_24) (fun u_2 h_2 => ?_)
        generalize u_2 = r2 at h_2 ⊢
        obtain ⟨g1, g2⟩ := h_2
        have hsr2 := hsr.tr g1
        have hc2 : ∀ k, k < 5 → r2 2 k = nI (c k) := fun k hk => (g2 k hk).trans ((congrFun (hsr 3 (by decide)) k).trans (hc k hk).1)
        refine z_ws (st' := []) (ws' := (cW cI a i' r2)) rfl rfl ?_
        refine z_aload_n C (pc := 27) dX3_isAllSo_27 rfl ?_
        refine z_get C (pc := 28) 0 rfl rfl wf_X3 1 (by decide) rfl wl_X3_19 (v := .ref (a 3)) rfl dX3_isAllSo_28 ?_
        refine z_getN C (pc := 31) 3 rfl rfl wf_X1 2 (by decide) rfl wl_X3_132 (v := .ref (a 5)) rfl dX3_isAllSo_31 ?_
        refine z_iload_n C (pc := 34) dX3_isAllSo_34 rfl ?_
        refine z_iconst C (pc := 35) (v := 1) dX3_isAllSo_35 (by decide) ?_
        refine z_isub C (pc := 36) dX3_isAllSo_36 ?_
        refine z_iload_n C (pc := 37) dX3_isAllSo_37 rfl ?_
        refine z_callv C (isC := [5]) rfl (by exact fun _ => rfl) (runS C (wc := [(a 5, .inl (cI, 5, .inl (r2 2)))]) (pc := 38) (rY' := rm 0 0) (nn := 3) (As := [.ref (a 5), .int ((nI q) - 1), .int (nI v)]) (rest := []) (c_put l D cI tt (a 5) 5 (r2 2) ((nI q) - 1) (nI v) (by decide)) rfl rfl ⟨rfl, rfl, ⟨Nat.le_of_ble_eq_true rfl, Nat.le_of_ble_eq_true rfl⟩, Nat.le_of_ble_eq_true rfl, Nat.le_of_ble_eq_true rfl⟩ wl_X3_66 ws_X3_put wi_X3 wc_X3_put (by decide +kernel) rfl rfl (Nat.le_of_ble_eq_true rfl) dX3_isAllSo_38) (fun u_3 h_3 => ?_)
        subst h_3
        refine z_ws (st' := []) (ws' := (cW cI a i' (va_up r2 2 (putv 5 (r2 2) ((nI q) - 1) (nI v))))) rfl rfl ?_
        have hv3 := hv.sp hsp (hsr2.up (v := putv 5 (r2 2) (nI q - 1) (nI v)))
        have hc3 : ∀ k, k < 5 → va_up r2 2 (putv 5 (r2 2) (nI q - 1) (nI v)) 2 k = nI (upN c (q - 1) v k) ∧ upN c (q - 1) v k ≤ 9 := fun k hk => ⟨by rw [vup_s]; exact put_up hq1 hq5 hc2 k hk, upN_le (fun k hk => (hc k hk).2) hv9 k hk⟩
        refine z_aload_n C (pc := 41) dX3_isAllSo_41 rfl ?_
        refine z_get C (pc := 42) 0 rfl rfl wf_X3 2 (by decide) rfl wl_X3_26 (v := .ref (a 6)) rfl dX3_isAllSo_42 ?_
        refine z_getN C (pc := 45) 6 rfl rfl wf_X2 6 (by decide) rfl wl_X3_220 (v := .ref (a 9)) rfl dX3_isAllSo_45 ?_
        refine z_iload_n C (pc := 48) dX3_isAllSo_48 rfl ?_
        refine z_calli C (isC := [9]) rfl (by exact fun _ => rfl) (runS C (wc := [(a 9, .inl (cI, 6, .inl (r2 5)))]) (pc := 49) (rY' := rm 0 0) (nn := 2) (As := [.ref (a 9), .int (nI k)]) (rest := []) (c_at l D cI tt (a 9) 6 (r2 5) (nI k) (by decide)) rfl rfl ⟨rfl, rfl, ⟨Nat.le_of_ble_eq_true rfl, Nat.le_of_ble_eq_true rfl⟩, Nat.le_of_ble_eq_true rfl, Nat.le_of_ble_eq_true rfl⟩ wl_X3_87 ws_X3_at wi_X3 wc_X3_at (by decide +kernel) rfl rfl (Nat.le_of_ble_eq_true rfl) dX3_isAllSo_49) (fun r_4 u_4 h_4 => ?_)
        have h_4 : r_4 = (nI (hs k)) := h_4.trans ((atv_nI (by omega) (by decide)).trans ((congrFun (hsr2 5 (by decide)) k).trans hq0.2.1.1))
        subst h_4
        refine z_ws (st' := [.int (nI (hs k))]) (ws' := (cW cI a i' (va_up r2 2 (putv 5 (r2 2) ((nI q) - 1) (nI v))))) rfl rfl ?_
        refine z_istore C (pc := 52) (lv' := [(0, .ref (a 0)), (1, .int (nI q)), (2, .int (nI v)), (3, .int (nI k)), (4, .int (nI (hs k)))]) dX3_isAllSo_52 (Nat.le_of_ble_eq_true rfl) rfl rfl ?_
        refine z_aload_n C (pc := 54) dX3_isAllSo_54 rfl ?_
        refine z_get C (pc := 55) 0 rfl rfl wf_X3 1 (by decide) rfl wl_X3_19 (v := .ref (a 3)) rfl dX3_isAllSo_55 ?_
        refine z_aload_n C (pc := 58) dX3_isAllSo_58 rfl ?_
        refine z_get C (pc := 59) 0 rfl rfl wf_X3 2 (by decide) rfl wl_X3_26 (v := .ref (a 6)) rfl dX3_isAllSo_59 ?_
        refine z_getN C (pc := 62) 6 rfl rfl wf_X2 5 (by decide) rfl wl_X3_223 (v := .ref (a 8)) rfl dX3_isAllSo_62 ?_
        refine z_iload_n C (pc := 65) dX3_isAllSo_65 rfl ?_
        refine z_calli C (isC := [8]) rfl (by exact fun _ => rfl) (runS C (wc := [(a 8, .inl (cI, 6, .inl (r2 4)))]) (pc := 66) (rY' := rm 0 0) (nn := 2) (As := [.ref (a 8), .int (nI k)]) (rest := [.ref (a 3)]) (c_at l D cI tt (a 8) 6 (r2 4) (nI k) (by decide)) rfl rfl ⟨rfl, rfl, ⟨Nat.le_of_ble_eq_true rfl, Nat.le_of_ble_eq_true rfl⟩, Nat.le_of_ble_eq_true rfl, Nat.le_of_ble_eq_true rfl⟩ wl_X3_87 ws_X3_at wi_X3 wc_X3_at (by decide +kernel) rfl rfl (Nat.le_of_ble_eq_true rfl) dX3_isAllSo_66) (fun r_5 u_5 h_5 => ?_)
        have h_5 : r_5 = (nI (hm k)) := h_5.trans ((atv_nI (by omega) (by decide)).trans ((congrFun (hsr2 4 (by decide)) k).trans hq0.1.1))
        subst h_5
        refine z_ws (st' := [.int (nI (hm k)), .ref (a 3)]) (ws' := (cW cI a i' (va_up r2 2 (putv 5 (r2 2) ((nI q) - 1) (nI v))))) rfl rfl ?_
        refine z_iload C (pc := 69) dX3_isAllSo_69 rfl ?_
        refine z_aload_n C (pc := 71) dX3_isAllSo_71 rfl ?_
        refine z_get C (pc := 72) 0 rfl rfl wf_X3 2 (by decide) rfl wl_X3_26 (v := .ref (a 6)) rfl dX3_isAllSo_72 ?_
        refine z_getN C (pc := 75) 6 rfl rfl wf_X2 7 (by decide) rfl wl_X3_226 (v := .ref (a 10)) rfl dX3_isAllSo_75 ?_
        refine z_iload_n C (pc := 78) dX3_isAllSo_78 rfl ?_
        refine z_calli C (isC := [10]) rfl (by exact fun _ => rfl) (runS C (wc := [(a 10, .inl (cI, 6, .inl (r2 6)))]) (pc := 79) (rY' := rm 0 0) (nn := 2) (As := [.ref (a 10), .int (nI k)]) (rest := [.int (nI (hs k)), .int (nI (hm k)), .ref (a 3)]) (c_at l D cI tt (a 10) 6 (r2 6) (nI k) (by decide)) rfl rfl ⟨rfl, rfl, ⟨Nat.le_of_ble_eq_true rfl, Nat.le_of_ble_eq_true rfl⟩, Nat.le_of_ble_eq_true rfl, Nat.le_of_ble_eq_true rfl⟩ wl_X3_87 ws_X3_at wi_X3 wc_X3_at (by decide +kernel) rfl rfl (Nat.le_of_ble_eq_true rfl) dX3_isAllSo_79) (fun r_6 u_6 h_6 => ?_)
        have h_6 : r_6 = (nI (hf k)) := h_6.trans ((atv_nI (by omega) (by decide)).trans ((congrFun (hsr2 6 (by decide)) k).trans hq0.2.2.1.1))
        subst h_6
        refine z_ws (st' := [.int (nI (hf k)), .int (nI (hs k)), .int (nI (hm k)), .ref (a 3)]) (ws' := (cW cI a i' (va_up r2 2 (putv 5 (r2 2) ((nI q) - 1) (nI v))))) rfl rfl ?_
        refine z_calliF C (by exact fun _ => cW_ad) (runVN C (wc := (cW cI a i' (va_up r2 2 (putv 5 (r2 2) ((nI q) - 1) (nI v))))) (pc := 82) (rY' := rm 3 67) (nn := 3) (As := [.int (nI (hm k)), .int (nI (hs k)), .int (nI (hf k))]) (rest := []) (c_go l D cI tt a i' (va_up r2 2 (putv 5 (r2 2) ((nI q) - 1) (nI v))) kd n (hm k) (hs k) (hf k) hv3 hq0.1.2 hq0.2.1.2 hq0.2.2.1.2 (upN c (q - 1) v) hc3) (full_hC _) (full_nd _) ⟨rfl, rfl, ⟨Nat.le_of_ble_eq_true rfl, Nat.le_of_ble_eq_true rfl⟩, Nat.le_of_ble_eq_true rfl, Nat.le_of_ble_eq_true rfl⟩ wl_X3_128 wm_X1_go we_X1_go wi_X1 wc_X1_go (by decide +kernel) rfl 3 rfl rfl rfl rfl (Nat.le_of_ble_eq_true rfl) dX3_isAllSo_82) (fun q_7 u_7 h_7 => ?_)
        obtain ⟨i7, r7⟩ := u_7
        try dsimp only at h_7
        obtain ⟨k0, k1, k2, -⟩ := h_7
        rw [mar_home] at k0
        subst k0
        refine z_ws (st' := [.int (b2 (homeb kd n (hm k) (hs k) (upN c (q - 1) v) (hf k)))]) (ws' := (cW cI a i7 r7)) rfl rfl ?_
        refine z_istore C (pc := 85) (lv' := [(0, .ref (a 0)), (1, .int (nI q)), (2, .int (nI v)), (3, .int (nI k)), (4, .int (nI (hs k))), (5, .int (b2 (homeb kd n (hm k) (hs k) (upN c (q - 1) v) (hf k))))]) dX3_isAllSo_85 (Nat.le_of_ble_eq_true rfl) rfl rfl ?_
        refine z_iload C (pc := 87) dX3_isAllSo_87 rfl ?_
        refine z_aload_n C (pc := 89) dX3_isAllSo_89 rfl ?_
        refine z_get C (pc := 90) 0 rfl rfl wf_X3 2 (by decide) rfl wl_X3_26 (v := .ref (a 6)) rfl dX3_isAllSo_90 ?_
        refine z_getN C (pc := 93) 6 rfl rfl wf_X2 8 (by decide) rfl wl_X3_229 (v := .ref (a 11)) rfl dX3_isAllSo_93 ?_
        refine z_iload_n C (pc := 96) dX3_isAllSo_96 rfl ?_
        refine z_calli C (isC := [11]) rfl (by exact fun _ => rfl) (runS C (wc := [(a 11, .inl (cI, 6, .inl (r7 7)))]) (pc := 97) (rY' := rm 0 0) (nn := 2) (As := [.ref (a 11), .int (nI k)]) (rest := [.int (b2 (homeb kd n (hm k) (hs k) (upN c (q - 1) v) (hf k)))]) (c_at l D cI tt (a 11) 6 (r7 7) (nI k) (by decide)) rfl rfl ⟨rfl, rfl, ⟨Nat.le_of_ble_eq_true rfl, Nat.le_of_ble_eq_true rfl⟩, Nat.le_of_ble_eq_true rfl, Nat.le_of_ble_eq_true rfl⟩ wl_X3_87 ws_X3_at wi_X3 wc_X3_at (by decide +kernel) rfl rfl (Nat.le_of_ble_eq_true rfl) dX3_isAllSo_97) (fun r_8 u_8 h_8 => ?_)
        have h_8 : r_8 = (nI (hh k)) := h_8.trans ((atv_nI (by omega) (by decide)).trans ((congrFun ((hsr2.up.tr k2) 7 (by decide)) k).trans hq0.2.2.2.1))
        subst h_8
        refine z_ws (st' := [.int (nI (hh k)), .int (b2 (homeb kd n (hm k) (hs k) (upN c (q - 1) v) (hf k)))]) (ws' := (cW cI a i7 r7)) rfl rfl ?_
        refine z_iconst C (pc := 100) (v := 1) dX3_isAllSo_100 (by decide) ?_
        refine z_icmp_ne C (pc := 101) (tgt := 108) dX3_isAllSo_101 (by decide) (fun c_9 => ?_) (fun c_9 => ?_)
        · have hh1 : ¬ hh k = 1 := fun h => c_9 ((nI_eq1 (by have := hq0.2.2.2.2; omega)).mpr h)
          refine z_iconst C (pc := 108) (v := 0) dX3_isAllSo_108 (by decide) ?_
          refine z_icmp_eq C (pc := 109) (tgt := 114) dX3_isAllSo_109 (by decide) (fun c_10 => ?_) (fun c_10 => ?_)
          · have hso : (sob kd n hm hs hf hh (upN c (q - 1) v)) k = true := by
              unfold sob
              rw [decide_eq_false hh1]
              exact by rw [b2_f c_10]; rfl
            refine z_iinc C (pc := 114) (v := ((nI k) + 1)) (lv' := [(0, .ref (a 0)), (1, .int (nI q)), (2, .int (nI v)), (3, .int ((nI k) + 1)), (4, .int (nI (hs k))), (5, .int (b2 (homeb kd n (hm k) (hs k) (upN c (q - 1) v) (hf k))))]) dX3_isAllSo_114 rfl rfl (Nat.le_of_ble_eq_true rfl) rfl rfl ?_
            refine z_goto C (pc := 117) (tgt := 2) dX3_isAllSo_117 (by decide) ?_
            refine z_lv (lv' := [(0, .ref (a 0)), (1, .int (nI q)), (2, .int (nI v)), (3, .int (nI (k + 1)))]) ⟨rfl, rfl, rfl, lki (nI_1 k), trivial⟩ ?_
            exact ih2 (k + 1) i7 r7 (by omega) hk (hsp.tr k1) (hsr2.up.tr k2) (alls_s hal hso)
          · have hso : (sob kd n hm hs hf hh (upN c (q - 1) v)) k = false := by
              unfold sob
              rw [decide_eq_false hh1]
              exact by rw [b2_t c_10]; rfl
            refine z_iconst C (pc := 112) (v := 0) dX3_isAllSo_112 (by decide) ?_
            refine z_zret C (pc := 113) (i7, r7) dX3_isAllSo_113 rfl ?_ rfl
            exact ⟨by rw [alls_n hso hk]; rfl, hsp.tr k1, hsr2.up.tr k2⟩
        · have hh1 : hh k = 1 := (nI_eq1 (by have := hq0.2.2.2.2; omega)).mp c_9
          refine z_iconst C (pc := 104) (v := 1) dX3_isAllSo_104 (by decide) ?_
          refine z_goto C (pc := 105) (tgt := 109) dX3_isAllSo_105 (by decide) ?_
          refine z_icmp_eq C (pc := 109) (tgt := 114) dX3_isAllSo_109 (by decide) (fun c_11 => ?_) (fun c_11 => ?_)
          · have hso : (sob kd n hm hs hf hh (upN c (q - 1) v)) k = true := by
              unfold sob
              rw [decide_eq_true hh1]
              exact by rw [b2_1 c_11]; rfl
            refine z_iinc C (pc := 114) (v := ((nI k) + 1)) (lv' := [(0, .ref (a 0)), (1, .int (nI q)), (2, .int (nI v)), (3, .int ((nI k) + 1)), (4, .int (nI (hs k))), (5, .int (b2 (homeb kd n (hm k) (hs k) (upN c (q - 1) v) (hf k))))]) dX3_isAllSo_114 rfl rfl (Nat.le_of_ble_eq_true rfl) rfl rfl ?_
            refine z_goto C (pc := 117) (tgt := 2) dX3_isAllSo_117 (by decide) ?_
            refine z_lv (lv' := [(0, .ref (a 0)), (1, .int (nI q)), (2, .int (nI v)), (3, .int (nI (k + 1)))]) ⟨rfl, rfl, rfl, lki (nI_1 k), trivial⟩ ?_
            exact ih2 (k + 1) i7 r7 (by omega) hk (hsp.tr k1) (hsr2.up.tr k2) (alls_s hal hso)
          · have hso : (sob kd n hm hs hf hh (upN c (q - 1) v)) k = false := by
              unfold sob
              rw [decide_eq_true hh1]
              exact by rw [b2_n1 c_11]; rfl
            refine z_iconst C (pc := 112) (v := 0) dX3_isAllSo_112 (by decide) ?_
            refine z_zret C (pc := 113) (i7, r7) dX3_isAllSo_113 rfl ?_ rfl
            exact ⟨by rw [alls_n hso hk]; rfl, hsp.tr k1, hsr2.up.tr k2⟩
  refine z_lv (lv' := [(0, .ref (a 0)), (1, .int (nI q)), (2, .int (nI v)), (3, .int (nI 0))]) ⟨rfl, rfl, rfl, rfl, trivial⟩ ?_
  exact key2 (_ + 1) 0 i r (Nat.lt_succ_self _) (Nat.zero_le _) SP.rf SR.rf rfl
