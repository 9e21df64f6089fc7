def gdb (f : Nat → Int32) (p en : Nat) : Bool := if en ≠ 0 then decide (p < en + 5) && (decide (48 ≤ f p) && decide (f p ≤ 57)) else (decide (f p = 59) && decide (2 ≤ p)) || (decide (p < 6) && decide (kindOfv (f p) ≠ -1))
def gde (f : Nat → Int32) (p en : Nat) : Nat := if en ≠ 0 then en else if f p = 59 ∧ 2 ≤ p then p + 1 else 0
def scv (f : Nat → Int32) : Nat → Nat → Nat → Nat × Nat
  | 0, p, en => (p, en)
  | fu + 1, p, en => if gdb f p en = true then scv f fu (p + 1) (gde f p en) else (p, en)
def SI (f : Nat → Int32) (p en : Nat) : Prop := (∀ j, j < p → (f j = 59 ↔ en = j + 1)) ∧ (en ≠ 0 → 3 ≤ en ∧ en ≤ p ∧ p ≤ en + 5) ∧ (en = 0 → p ≤ 6) ∧ en ≤ 7 ∧ (∀ j, j < p → j + 1 < en ∨ en = 0 → kindOfv (f j) ≠ -1) ∧ (∀ j, j < p → en ≠ 0 → en ≤ j → 48 ≤ f j ∧ f j ≤ 57)
theorem SI_0 {f : Nat → Int32} : SI f 0 0 := ⟨fun j h => absurd h (Nat.not_lt_zero j), fun h => absurd rfl h, fun _ => by omega, by omega, fun j h => absurd h (Nat.not_lt_zero j), fun j h => absurd h (Nat.not_lt_zero j)⟩
theorem SI_s {f : Nat → Int32} {p en : Nat} (h : SI f p en) (g : gdb f p en = true) : SI f (p + 1) (gde f p en) := by
  unfold gdb at g
  unfold gde
  by_cases e : en ≠ 0
  · rw [if_pos e] at g ⊢
    simp only [Bool.and_eq_true, decide_eq_true_eq] at g
    obtain ⟨h1, h2, h3, h4, h5, h6⟩ := h
    refine ⟨fun j hj => ?_, fun _ => ⟨(h2 e).1, by have := (h2 e).2.1; omega, by omega⟩, fun h => absurd h e, h4, fun j hj hd => ?_, fun j hj he hle => ?_⟩
    · by_cases ej : j = p
      · subst ej
        refine ⟨fun h59 => ?_, fun h => by have := (h2 e).2.1; omega⟩
        rw [h59] at g
        exact absurd g.2.2 (by decide)
      · exact h1 j (by omega)
    · exact h5 j (by have := (h2 e).2.1; omega) hd
    · by_cases ej : j = p
      · subst ej; exact ⟨g.2.1, g.2.2⟩
      · exact h6 j (by omega) he hle
  · rw [if_neg e] at g ⊢
    have e0 : en = 0 := Classical.not_not.mp e
    subst e0
    obtain ⟨h1, h2, h3, h4, h5, h6⟩ := h
    have hp6 := h3 rfl
    by_cases hs : f p = 59 ∧ 2 ≤ p
    · rw [if_pos hs]
      refine ⟨fun j hj => ?_, fun _ => ⟨by omega, by omega, by omega⟩, fun h => by omega, by omega, fun j hj hd => h5 j (by omega) (Or.inr rfl), fun j hj he hle => by omega⟩
      by_cases ej : j = p
      · subst ej; exact ⟨fun _ => rfl, fun _ => hs.1⟩
      · have := h1 j (by omega)
        exact ⟨fun h => by have := this.mp h; omega, fun h => by omega⟩
    · rw [if_neg hs]
      have g2 : p < 6 ∧ kindOfv (f p) ≠ -1 := by
        simp only [Bool.or_eq_true, Bool.and_eq_true, decide_eq_true_eq] at g
        rcases g with g | g
        · exact absurd g hs
        · exact g
      refine ⟨fun j hj => ?_, fun h => absurd rfl h, fun _ => by omega, by omega, fun j hj hd => ?_, fun j hj he => absurd rfl he⟩
      · by_cases ej : j = p
        · subst ej
          refine ⟨fun h => ?_, fun h => by omega⟩
          rw [h] at g2
          exact absurd g2.2 (by decide)
        · exact h1 j (by omega)
      · by_cases ej : j = p
        · subst ej; exact g2.2
        · exact h5 j (by omega) (Or.inr rfl)
theorem scv_SI {f : Nat → Int32} : ∀ (fu p en : Nat), SI f p en → SI f (scv f fu p en).1 (scv f fu p en).2
  | 0, _, _, h => h
  | fu + 1, p, en, h => by
    unfold scv
    by_cases g : gdb f p en = true
    · rw [if_pos g]; exact scv_SI fu _ _ (SI_s h g)
    · rw [if_neg g]; exact h
theorem scv_le {f : Nat → Int32} : ∀ (fu p en : Nat), (scv f fu p en).1 ≤ p + fu
  | 0, _, _ => Nat.le_refl _
  | fu + 1, p, en => by
    unfold scv
    by_cases g : gdb f p en = true
    · rw [if_pos g]; have := scv_le (f := f) fu (p + 1) (gde f p en); omega
    · rw [if_neg g]; show p ≤ p + (fu + 1); omega
theorem scv_t {f : Nat → Int32} {fu p en : Nat} (g : gdb f p en = true) : scv f (fu + 1) p en = scv f fu (p + 1) (gde f p en) := by show (if _ then _ else _) = _; rw [if_pos g]
theorem scv_f {f : Nat → Int32} {fu p en : Nat} (g : gdb f p en = false) : scv f (fu + 1) p en = (p, en) := by show (if _ then _ else _) = _; rw [if_neg (by rw [g]; decide)]
theorem scv_congr {f g : Nat → Int32} {L : Nat} (h : ∀ j, j < L → f j = g j) : ∀ (fu p en : Nat), p + fu ≤ L → scv f fu p en = scv g fu p en
  | 0, _, _, _ => rfl
  | fu + 1, p, en, hp => by
    have e := h p (by omega)
    have e1 : gdb f p en = gdb g p en := by unfold gdb; rw [e]
    have e2 : gde f p en = gde g p en := by unfold gde; rw [e]
    unfold scv
    rw [e1, e2, scv_congr h fu (p + 1) (gde g p en) (by omega)]
def krv (p en : Nat) : Nat := if en = 0 then p else en - 1
def drv (p en : Nat) : Int32 := if en = 0 then -1 else nI (p - en)
def campb (f : Nat → Int32) (L : Nat) : Bool := decide ((scv f L 0 0).1 = L) && (decide ((scv f L 0 0).2 ≠ 0) && decide (L = (scv f L 0 0).2 + 5))
theorem drv_ne {p en : Nat} (h : p - en < 2 ^ 31) : drv p en = -1 ↔ en = 0 := by
  unfold drv
  by_cases e : en = 0
  · rw [if_pos e]; simp [e]
  · rw [if_neg e]
    refine ⟨fun h2 => ?_, fun h2 => absurd h2 e⟩
    have h3 := congrArg Int32.toInt h2
    rw [nI_toInt h] at h3
    have : (-1 : Int32).toInt = -1 := rfl
    omega
set_option maxHeartbeats 4000000 in
set_option maxRecDepth 100000 in
theorem c_bestTrial (l : Launch) (D : va_G) (cI : ClassId) (tt : Nat × Nat × Nat) (a : Nat → Nat) (i : Nat → Int32) (r : Nat → Nat → Int32) (kd : Nat → Nat) (n : Nat) (hv : PV i r kd n) (c : Nat → Nat) (hc : ∀ k, k < 5 → r 3 k = nI (c k) ∧ c k ≤ 9) (q b : Nat) (hq1 : 1 ≤ q) (hq5 : q < 6) (hb10 : b < 1024) : MetI (S := ((Nat → Int32) × (Nat → Nat → Int32))) l yX3_bestTrial cX3_bestTrial 8 (some .int) (rm 5 117) D cI tt [.ref (a 0), .int (nI q), .int (nI b)] (cW cI a i r) (fun z u => z = tryv kd n c q b ∧ SP i u.1 ∧ SR r u.2) (fun u => cW cI a u.1 u.2) := by
  have hn6 := hv.2.1
  have hx6 := pow_le6 hn6
  have hp2 := Nat.pow_pos (n := n) (show 0 < 2 by decide)
  refine met_ofI (by decide) (Nat.le_of_ble_eq_true rfl) ?_
  intro pP eE sS mM aV bB mE cC AA C hin
  refine z_conv (lv' := [(0, .ref (a 0)), (1, .int (nI q)), (2, .int (nI b))]) ⟨rfl, rfl, rfl, trivial⟩ rfl rfl ?_
  refine z_iconst C (pc := 0) (v := (-1)) dX3_bestTrial_0 (by decide) ?_
  refine z_istore_n C (pc := 1) (lv' := [(0, .ref (a 0)), (1, .int (nI q)), (2, .int (nI b)), (3, .int (-1))]) dX3_bestTrial_1 (Nat.le_of_ble_eq_true rfl) rfl rfl ?_
  refine z_iload_n C (pc := 2) dX3_bestTrial_2 rfl ?_
  refine z_calli C (isC := []) rfl (by exact fun _ => rfl) (runS C (wc := []) (pc := 3) (rY' := rm 0 0) (nn := 1) (As := [.int (nI b)]) (rest := []) (c_bitCount l D cI tt (nI b)) rfl rfl ⟨rfl, rfl, ⟨Nat.le_of_ble_eq_true rfl, Nat.le_of_ble_eq_true rfl⟩, Nat.le_of_ble_eq_true rfl, Nat.le_of_ble_eq_true rfl⟩ wl_X3_187 ws_J6_bitCount_0f7a4 wi_J6 wc_J6_bitCount_0f7a4 (by decide +kernel) rfl rfl (Nat.le_of_ble_eq_true rfl) dX3_bestTrial_3) (fun r_1 u_1 h_1 => ?_)
  have h_1 : r_1 = nI (pcn b) := h_1.trans (bc_pcn _ hb10)
  subst h_1
  refine z_ws (st' := [.int (nI (pcn b))]) (ws' := (cW cI a i r)) rfl rfl ?_
  refine z_iconst C (pc := 6) (v := 1) dX3_bestTrial_6 (by decide) ?_
  refine z_iadd C (pc := 7) dX3_bestTrial_7 ?_
  refine z_istore C (pc := 8) (lv' := [(0, .ref (a 0)), (1, .int (nI q)), (2, .int (nI b)), (3, .int (-1)), (4, .int ((nI (pcn b)) + 1))]) dX3_bestTrial_8 (Nat.le_of_ble_eq_true rfl) rfl rfl ?_
  refine z_aload_n C (pc := 10) dX3_bestTrial_10 rfl ?_
  refine z_aload_n C (pc := 11) dX3_bestTrial_11 rfl ?_
  refine z_get C (pc := 12) 0 rfl rfl wf_X3 1 (by decide) rfl wl_X3_19 (v := .ref (a 3)) rfl dX3_bestTrial_12 ?_
  refine z_calliF C (by exact fun _ => cW_ad) (runVN C (wc := (cW cI a i r)) (pc := 15) (rY' := rm 0 0) (nn := 0) (As := []) (rest := [.ref (a 0)]) (c_all l D cI tt a i r n hv.1 hn6) (full_hC _) (full_nd _) ⟨rfl, rfl, ⟨Nat.le_of_ble_eq_true rfl, Nat.le_of_ble_eq_true rfl⟩, Nat.le_of_ble_eq_true rfl, Nat.le_of_ble_eq_true rfl⟩ wl_X3_70 wm_X1_all we_X1_all wi_X1 wc_X1_all (by decide +kernel) rfl 3 rfl rfl rfl rfl (Nat.le_of_ble_eq_true rfl) dX3_bestTrial_15) (fun q_2 u_2 h_2 => ?_)
  subst h_2
  refine z_ws (st' := [.int (nI (2 ^ n - 1)), .ref (a 0)]) (ws' := (cW cI a i r)) rfl rfl ?_
  refine z_calliF C (by exact fun _ => cW_ad) (runV C (wc := (cW cI a i r)) (pc := 18) (rY' := rm 2 45) (nn := 1) (As := [.int (nI (2 ^ n - 1))]) (rest := []) (c_mostFoodOf l D cI tt a i r kd n hv (2 ^ n - 1) (by omega)) (full_hC _) (full_nd _) ⟨rfl, rfl, ⟨Nat.le_of_ble_eq_true rfl, Nat.le_of_ble_eq_true rfl⟩, Nat.le_of_ble_eq_true rfl, Nat.le_of_ble_eq_true rfl⟩ wl_X3_214 wm_X3_mostFoodOf we_X3_mostFoodOf wi_X3 wc_X3_mostFoodOf (by decide +kernel) rfl 0 rfl rfl rfl rfl (Nat.le_of_ble_eq_true rfl) dX3_bestTrial_18) (fun q_3 u_3 h_3 => ?_)
  subst h_3
  refine z_ws (st' := [.int (nI (min 40 (sumk pls kd (2 ^ n - 1) n)))]) (ws' := (cW cI a i r)) rfl rfl ?_
  refine z_istore C (pc := 21) (lv' := [(0, .ref (a 0)), (1, .int (nI q)), (2, .int (nI b)), (3, .int (-1)), (4, .int ((nI (pcn b)) + 1)), (5, .int (nI (min 40 (sumk pls kd (2 ^ n - 1) n))))]) dX3_bestTrial_21 (Nat.le_of_ble_eq_true rfl) rfl rfl ?_
  refine z_iconst C (pc := 23) (v := 0) dX3_bestTrial_23 (by decide) ?_
  refine z_istore C (pc := 24) (lv' := [(0, .ref (a 0)), (1, .int (nI q)), (2, .int (nI b)), (3, .int (-1)), (4, .int ((nI (pcn b)) + 1)), (5, .int (nI (min 40 (sumk pls kd (2 ^ n - 1) n)))), (6, .int 0)]) dX3_bestTrial_24 (Nat.le_of_ble_eq_true rfl) rfl rfl ?_
  have key26 : ∀ (fu26 : Nat) (f : Nat) (i' : Nat → Int32) (r' : Nat → Nat → Int32), (min 40 (sumk pls kd (2 ^ n - 1) n)) + 1 - f < fu26 → (f ≤ (min 40 (sumk pls kd (2 ^ n - 1) n)) + 1) → (b = 0 → f = 0) → (SP i i') → (SR r r') → Z pP l eE (rm 5 117) sS mM aV bB mE cC D AA 8 0 0 (MQ bB (va_Qi (S := ((Nat → Int32) × (Nat → Nat → Int32))) (fun z u => z = tryv kd n c q b ∧ SP i u.1 ∧ SR r u.2) (fun u t => va_P D vwCl ((fun u => cW cI a u.1 u.2) u) t.heap) AA) aV sS 0 0 AA) 26 [(0, .ref (a 0)), (1, .int (nI q)), (2, .int (nI b)), (3, .int ((trv (wov kd n c q b) (pcn b + 1) f).1)), (4, .int (nI (trv (wov kd n c q b) (pcn b + 1) f).2)), (5, .int (nI (min 40 (sumk pls kd (2 ^ n - 1) n)))), (6, .int (nI f))] [] (cW cI a i' r') := by
    intro fu26
    induction fu26 with
    | zero => intro f i' r' hfu26; exact absurd hfu26 (Nat.not_lt_zero _)
    | succ fu26 ih26 =>
      intro f i' r' hfu26 hfm hb0 hsp hsr
      refine z_iload_n C (pc := 26) dX3_bestTrial_26 rfl ?_
      refine z_if_eq C (pc := 27) (tgt := 67) dX3_bestTrial_27 (by decide) (fun c_4 => ?_) (fun c_4 => ?_)
      · refine z_iload_n C (pc := 67) dX3_bestTrial_67 rfl ?_
        refine z_iret C (pc := 68) (i', r') dX3_bestTrial_68 ?_ rfl
        have hbz : b = 0 := nI_z (by omega) c_4
        have hfz := hb0 hbz
        subst hfz
        exact ⟨by unfold tryv; rw [if_pos hbz]; rfl, hsp, hsr⟩
      · have hbn : b ≠ 0 := nI_nz c_4
        refine z_iload C (pc := 30) dX3_bestTrial_30 rfl ?_
        refine z_iload C (pc := 32) dX3_bestTrial_32 rfl ?_
        refine z_icmp_gt C (pc := 34) (tgt := 67) dX3_bestTrial_34 (by decide) (fun c_5 => ?_) (fun c_5 => ?_)
        · refine z_iload_n C (pc := 67) dX3_bestTrial_67 rfl ?_
          refine z_iret C (pc := 68) (i', r') dX3_bestTrial_68 ?_ rfl
          have hfe : f = (min 40 (sumk pls kd (2 ^ n - 1) n)) + 1 := by
            have := Nat.lt_of_not_le (fun h => nI_nlt (a := (min 40 (sumk pls kd (2 ^ n - 1) n))) (b := f) h (by omega) c_5)
            omega
          refine ⟨?_, hsp, hsr⟩
          unfold tryv
          rw [if_neg hbn, hfe]
          exact try_cap
        · have hfl : f ≤ (min 40 (sumk pls kd (2 ^ n - 1) n)) := Nat.le_of_not_lt (fun h => c_5 (nI_lt h (by omega)))
          have hc2 : ∀ k, k < 5 → r' 3 k = nI (c k) ∧ c k ≤ 9 := fun k hk => ⟨(congrFun (hsr 3 (by decide)) k).trans (hc k hk).1, (hc k hk).2⟩
          have hwl : ∀ f, (wov kd n c q b) f ≤ pcn b + 1 := fun f => Nat.le_succ_of_le wov_le
          have htl := trv_b (w := (wov kd n c q b)) (l := (pcn b + 1)) (B := pcn b + 1) (Nat.le_refl _) hwl f
          have hpc := pcn_le b
          have hwf := hwl f
          refine z_aload_n C (pc := 37) dX3_bestTrial_37 rfl ?_
          refine z_iload_n C (pc := 38) dX3_bestTrial_38 rfl ?_
          refine z_iload_n C (pc := 39) dX3_bestTrial_39 rfl ?_
          refine z_iload C (pc := 40) dX3_bestTrial_40 rfl ?_
          refine z_calliF C (by exact fun _ => cW_ad) (runV C (wc := (cW cI a i' r')) (pc := 42) (rY' := rm 4 92) (nn := 3) (As := [.int (nI q), .int (nI b), .int (nI f)]) (rest := []) (c_leftAtWorst l D cI tt a i' r' kd n (hv.sp hsp hsr) c hc2 q b f hq1 hq5 hb10 (by omega)) (full_hC _) (full_nd _) ⟨rfl, rfl, ⟨Nat.le_of_ble_eq_true rfl, Nat.le_of_ble_eq_true rfl⟩, Nat.le_of_ble_eq_true rfl, Nat.le_of_ble_eq_true rfl⟩ wl_X3_232 wm_X3_leftAtWorst we_X3_leftAtWorst wi_X3 wc_X3_leftAtWorst (by decide +kernel) rfl 0 rfl rfl rfl rfl (Nat.le_of_ble_eq_true rfl) dX3_bestTrial_42) (fun z_6 u_6 h_6 => ?_)
          obtain ⟨i6, r6⟩ := u_6
          try dsimp only at h_6
          obtain ⟨k0, k1, k2⟩ := h_6
          subst k0
          refine z_ws (st' := [.int (nI ((wov kd n c q b) f))]) (ws' := (cW cI a i6 r6)) rfl rfl ?_
          refine z_istore C (pc := 45) (lv' := [(0, .ref (a 0)), (1, .int (nI q)), (2, .int (nI b)), (3, .int ((trv (wov kd n c q b) (pcn b + 1) f).1)), (4, .int (nI (trv (wov kd n c q b) (pcn b + 1) f).2)), (5, .int (nI (min 40 (sumk pls kd (2 ^ n - 1) n)))), (6, .int (nI f)), (7, .int (nI ((wov kd n c q b) f)))]) dX3_bestTrial_45 (Nat.le_of_ble_eq_true rfl) rfl rfl ?_
          refine z_iload C (pc := 47) dX3_bestTrial_47 rfl ?_
          refine z_iload C (pc := 49) dX3_bestTrial_49 rfl ?_
          refine z_icmp_ge C (pc := 51) (tgt := 61) dX3_bestTrial_51 (by decide) (fun c_7 => ?_) (fun c_7 => ?_)
          · have hno : ¬ (wov kd n c q b) f < (trv (wov kd n c q b) (pcn b + 1) f).2 := fun h => nI_ge h (by omega) c_7
            refine z_iinc C (pc := 61) (v := ((nI f) + 1)) (lv' := [(0, .ref (a 0)), (1, .int (nI q)), (2, .int (nI b)), (3, .int ((trv (wov kd n c q b) (pcn b + 1) f).1)), (4, .int (nI (trv (wov kd n c q b) (pcn b + 1) f).2)), (5, .int (nI (min 40 (sumk pls kd (2 ^ n - 1) n)))), (6, .int ((nI f) + 1)), (7, .int (nI ((wov kd n c q b) f)))]) dX3_bestTrial_61 rfl rfl (Nat.le_of_ble_eq_true rfl) rfl rfl ?_
            refine z_goto C (pc := 64) (tgt := 26) dX3_bestTrial_64 (by decide) ?_
            refine z_lv (lv' := [(0, .ref (a 0)), (1, .int (nI q)), (2, .int (nI b)), (3, .int ((trv (wov kd n c q b) (pcn b + 1) (f + 1)).1)), (4, .int (nI (trv (wov kd n c q b) (pcn b + 1) (f + 1)).2)), (5, .int (nI (min 40 (sumk pls kd (2 ^ n - 1) n)))), (6, .int (nI (f + 1)))]) ⟨rfl, rfl, rfl, lki (by rw [trv_n hno]), lki (by rw [trv_n hno]), rfl, lki (nI_1 f), trivial⟩ ?_
            exact ih26 (f + 1) i6 r6 (by omega) (by omega) (fun h => absurd h hbn) (hsp.tr k1) (hsr.tr k2)
          · have hlt : (wov kd n c q b) f < (trv (wov kd n c q b) (pcn b + 1) f).2 := lt_of_nI c_7 (by omega)
            refine z_iload C (pc := 54) dX3_bestTrial_54 rfl ?_
            refine z_istore_n C (pc := 56) (lv' := [(0, .ref (a 0)), (1, .int (nI q)), (2, .int (nI b)), (3, .int (nI f)), (4, .int (nI (trv (wov kd n c q b) (pcn b + 1) f).2)), (5, .int (nI (min 40 (sumk pls kd (2 ^ n - 1) n)))), (6, .int (nI f)), (7, .int (nI ((wov kd n c q b) f)))]) dX3_bestTrial_56 (Nat.le_of_ble_eq_true rfl) rfl rfl ?_
            refine z_iload C (pc := 57) dX3_bestTrial_57 rfl ?_
            refine z_istore C (pc := 59) (lv' := [(0, .ref (a 0)), (1, .int (nI q)), (2, .int (nI b)), (3, .int (nI f)), (4, .int (nI ((wov kd n c q b) f))), (5, .int (nI (min 40 (sumk pls kd (2 ^ n - 1) n)))), (6, .int (nI f)), (7, .int (nI ((wov kd n c q b) f)))]) dX3_bestTrial_59 (Nat.le_of_ble_eq_true rfl) rfl rfl ?_
            refine z_iinc C (pc := 61) (v := ((nI f) + 1)) (lv' := [(0, .ref (a 0)), (1, .int (nI q)), (2, .int (nI b)), (3, .int (nI f)), (4, .int (nI ((wov kd n c q b) f))), (5, .int (nI (min 40 (sumk pls kd (2 ^ n - 1) n)))), (6, .int ((nI f) + 1)), (7, .int (nI ((wov kd n c q b) f)))]) dX3_bestTrial_61 rfl rfl (Nat.le_of_ble_eq_true rfl) rfl rfl ?_
            refine z_goto C (pc := 64) (tgt := 26) dX3_bestTrial_64 (by decide) ?_
            refine z_lv (lv' := [(0, .ref (a 0)), (1, .int (nI q)), (2, .int (nI b)), (3, .int ((trv (wov kd n c q b) (pcn b + 1) (f + 1)).1)), (4, .int (nI (trv (wov kd n c q b) (pcn b + 1) (f + 1)).2)), (5, .int (nI (min 40 (sumk pls kd (2 ^ n - 1) n)))), (6, .int (nI (f + 1)))]) ⟨rfl, rfl, rfl, lki (by rw [trv_s hlt]), lki (by rw [trv_s hlt]), rfl, lki (nI_1 f), trivial⟩ ?_
            exact ih26 (f + 1) i6 r6 (by omega) (by omega) (fun h => absurd h hbn) (hsp.tr k1) (hsr.tr k2)
  refine z_lv (lv' := [(0, .ref (a 0)), (1, .int (nI q)), (2, .int (nI b)), (3, .int ((trv (wov kd n c q b) (pcn b + 1) 0).1)), (4, .int (nI (trv (wov kd n c q b) (pcn b + 1) 0).2)), (5, .int (nI (min 40 (sumk pls kd (2 ^ n - 1) n)))), (6, .int (nI 0))]) ⟨rfl, rfl, rfl, rfl, lki (nI_1 _), rfl, rfl, trivial⟩ ?_
  exact key26 (_ + 1) 0 i r (Nat.lt_succ_self _) (Nat.zero_le _) (fun _ => rfl) SP.rf SR.rf

set_option maxHeartbeats 4000000 in
set_option maxRecDepth 100000 in
theorem c_sum (l : Launch) (D : va_G) (cI : ClassId) (tt : Nat × Nat × Nat) (b N : Nat) (f : Nat → Int32) (hN : N < 2 ^ 31) : MetI (S := Unit) l yX3_sum cX3_sum 3 (some .int) (rm 0 0) D cI tt [.ref b] [(b, .inl (cI, N, .inl f))] (fun q _ => q = sumv f N) (fun _ => [(b, .inl (cI, N, .inl f))]) := by
  refine met_ofI (by decide) (Nat.le_of_ble_eq_true rfl) ?_
  intro pP eE sS mM aV bB mE cC AA C hin
  refine z_conv (lv' := [(0, .ref b)]) ⟨rfl, trivial⟩ rfl rfl ?_
  refine z_iconst C (pc := 0) (v := 0) dX3_sum_0 (by decide) ?_
  refine z_istore_n C (pc := 1) (lv' := [(0, .ref b), (1, .int 0)]) dX3_sum_1 (Nat.le_of_ble_eq_true rfl) rfl rfl ?_
  refine z_iconst C (pc := 2) (v := 0) dX3_sum_2 (by decide) ?_
  refine z_istore_n C (pc := 3) (lv' := [(0, .ref b), (1, .int 0), (2, .int 0)]) dX3_sum_3 (Nat.le_of_ble_eq_true rfl) rfl rfl ?_
  have key4 : ∀ (fu4 : Nat) (k : Nat), N - k < fu4 → (k ≤ N) → Z pP l eE (rm 0 0) sS mM aV bB mE cC D AA 3 0 0 (MQ bB (va_Qi (S := Unit) (fun q _ => q = sumv f N) (fun u t => va_P D vwCl ((fun _ => [(b, .inl (cI, N, .inl f))]) u) t.heap) AA) aV sS 0 0 AA) 4 [(0, .ref b), (1, .int (sumv f k)), (2, .int (nI k))] [] [(b, .inl (cI, N, .inl f))] := by
    intro fu4
    induction fu4 with
    | zero => intro k hfu4; exact absurd hfu4 (Nat.not_lt_zero _)
    | succ fu4 ih4 =>
      intro k hfu4 hkn
      refine z_aload_n C (pc := 4) dX3_sum_4 rfl ?_
      refine z_ifnull C (pc := 5) dX3_sum_5 ?_
      refine z_iload_n C (pc := 8) dX3_sum_8 rfl ?_
      refine z_aload_n C (pc := 9) dX3_sum_9 rfl ?_
      refine z_alen C (pc := 10) 0 rfl (v := (nI N)) rfl dX3_sum_10 ?_
      refine z_icmp_ge C (pc := 11) (tgt := 26) dX3_sum_11 (by decide) (fun c_1 => ?_) (fun c_1 => ?_)
      · refine z_iload_n C (pc := 26) dX3_sum_26 rfl ?_
        refine z_iret C (pc := 27) () dX3_sum_27 ?_ rfl
        have hke : k = N := by
          have := ge_of_nI c_1 hN
          omega
        rw [hke]
      · have hk : k < N := lt_of_nI c_1 (by omega)
        refine z_iload_n C (pc := 14) dX3_sum_14 rfl ?_
        refine z_aload_n C (pc := 15) dX3_sum_15 rfl ?_
        refine z_iload_n C (pc := 16) dX3_sum_16 rfl ?_
        have h_2 : vp_in (nI k) N := by exact vp_in_nI hk hN
        refine z_iald C (pc := 17) 0 rfl h_2 dX3_sum_17 ?_
        refine z_seti (y := f k) (by rw [nI_clamp (by omega)]) ?_
        refine z_iadd C (pc := 18) dX3_sum_18 ?_
        refine z_istore_n C (pc := 19) (lv' := [(0, .ref b), (1, .int ((sumv f k) + (f k))), (2, .int (nI k))]) dX3_sum_19 (Nat.le_of_ble_eq_true rfl) rfl rfl ?_
        refine z_iinc C (pc := 20) (v := ((nI k) + 1)) (lv' := [(0, .ref b), (1, .int ((sumv f k) + (f k))), (2, .int ((nI k) + 1))]) dX3_sum_20 rfl rfl (Nat.le_of_ble_eq_true rfl) rfl rfl ?_
        refine z_goto C (pc := 23) (tgt := 4) dX3_sum_23 (by decide) ?_
        refine z_lv (lv' := [(0, .ref b), (1, .int (sumv f (k + 1))), (2, .int (nI (k + 1)))]) ⟨rfl, rfl, lki (nI_1 k), trivial⟩ ?_
        exact ih4 (k + 1) (by omega) hk
  refine z_lv (lv' := [(0, .ref b), (1, .int (sumv f 0)), (2, .int (nI 0))]) ⟨rfl, rfl, rfl, trivial⟩ ?_
  exact key4 (_ + 1) 0 (Nat.lt_succ_self _) (Nat.zero_le _)

set_option maxHeartbeats 4000000 in
set_option maxRecDepth 100000 in
theorem c_add (l : Launch) (D : va_G) (cI : ClassId) (tt : Nat × Nat × Nat) (a : Nat → Nat) (i : Nat → Int32) (r : Nat → Nat → Int32) (x : Int32) : MetI (S := ((Nat → Int32) × (Nat → Nat → Int32))) l yX0_add cX0_add 2 (some .boolean) (rm 1 22) D cI tt [.ref (a 1), .int x] (cW cI a i r) (fun q u => (nI 15 ≤ i 3 ∧ q = 0 ∧ u = (i, r)) ∨ (¬ nI 15 ≤ i 3 ∧ q = 1 ∧ u = (upd i 3 (i 3 + 1), va_up r 0 (putv 15 (r 0) (i 3) x)))) (fun u => cW cI a u.1 u.2) := by
  refine met_ofI (by decide) (Nat.le_of_ble_eq_true rfl) ?_
  intro pP eE sS mM aV bB mE cC AA C hin
  refine z_conv (lv' := [(0, .ref (a 1)), (1, .int x)]) ⟨rfl, rfl, trivial⟩ rfl rfl ?_
  refine z_aload_n C (pc := 0) dX0_add_0 rfl ?_
  refine z_get C (pc := 1) 1 rfl rfl wf_X0 1 (by decide) rfl wl_X0_15 (v := .int (i 3)) rfl dX0_add_1 ?_
  refine z_bipush C (pc := 4) (v := 15) dX0_add_4 (by decide) ?_
  refine z_icmp_lt C (pc := 6) (tgt := 11) dX0_add_6 (by decide) (fun c_1 => ?_) (fun c_1 => ?_)
  · refine z_aload_n C (pc := 11) dX0_add_11 rfl ?_
    refine z_get C (pc := 12) 1 rfl rfl wf_X0 0 (by decide) rfl wl_X0_9 (v := .ref (a 2)) rfl dX0_add_12 ?_
    refine z_aload_n C (pc := 15) dX0_add_15 rfl ?_
    refine z_get C (pc := 16) 1 rfl rfl wf_X0 1 (by decide) rfl wl_X0_15 (v := .int (i 3)) rfl dX0_add_16 ?_
    refine z_iload_n C (pc := 19) dX0_add_19 rfl ?_
    refine z_callv C (isC := [2]) rfl (by exact fun _ => rfl) (runSN C (wc := [(a 2, .inl (cI, 15, .inl (r 0)))]) (pc := 20) (rY' := rm 0 0) (nn := 3) (As := [.ref (a 2), .int (i 3), .int x]) (rest := []) (c_put l D cI tt (a 2) 15 (r 0) (i 3) x (by decide)) rfl rfl ⟨rfl, rfl, ⟨Nat.le_of_ble_eq_true rfl, Nat.le_of_ble_eq_true rfl⟩, Nat.le_of_ble_eq_true rfl, Nat.le_of_ble_eq_true rfl⟩ wl_X0_19 ws_X3_put wi_X3 wc_X3_put (by decide +kernel) rfl rfl (Nat.le_of_ble_eq_true rfl) dX0_add_20) (fun u_2 h_2 => ?_)
    subst h_2
    refine z_ws (st' := []) (ws' := (cW cI a i (va_up r 0 (putv 15 (r 0) (i 3) x)))) rfl rfl ?_
    refine z_aload_n C (pc := 23) dX0_add_23 rfl ?_
    refine z_dup C (pc := 24) dX0_add_24 rfl ?_
    refine z_get C (pc := 25) 1 rfl rfl wf_X0 1 (by decide) rfl wl_X0_15 (v := .int (i 3)) rfl dX0_add_25 ?_
    refine z_iconst C (pc := 28) (v := 1) dX0_add_28 (by decide) ?_
    refine z_iadd C (pc := 29) dX0_add_29 ?_
    refine z_put C (pc := 30) 1 rfl rfl wf_X0 1 (by decide) rfl tyX0 tyX0_ok nmX0 rfl rfl rfl (Nat.le_of_ble_eq_true rfl) (ws' := (cW cI a (upd i 3 ((i 3) + 1)) (va_up r 0 (putv 15 (r 0) (i 3) x)))) rfl wl_X0_15 dX0_add_30 ?_
    refine z_iconst C (pc := 33) (v := 1) dX0_add_33 (by decide) ?_
    refine z_zret C (pc := 34) ((upd i 3 ((i 3) + 1)), (va_up r 0 (putv 15 (r 0) (i 3) x))) dX0_add_34 rfl ?_ rfl
    first | exact Or.inl ⟨i_nlt.mp c_1, rfl, rfl⟩ | exact Or.inr ⟨i_nle.mpr c_1, rfl, rfl⟩
  · refine z_iconst C (pc := 9) (v := 0) dX0_add_9 (by decide) ?_
    refine z_zret C (pc := 10) (i, r) dX0_add_10 rfl ?_ rfl
    first | exact Or.inl ⟨i_nlt.mp c_1, rfl, rfl⟩ | exact Or.inr ⟨i_nle.mpr c_1, rfl, rfl⟩

set_option maxHeartbeats 4000000 in
set_option maxRecDepth 100000 in
theorem c_codeAt (l : Launch) (D : va_G) (cI : ClassId) (tt : Nat × Nat × Nat) (a : Nat → Nat) (i : Nat → Int32) (r : Nat → Nat → Int32) (x : Int32) : MetI (S := Unit) l yX0_codeAt cX0_codeAt 2 (some .int) (rm 1 21) D cI tt [.ref (a 1), .int x] (cW cI a i r) (fun q _ => q = atv 15 (r 0) x) (fun _ => cW cI a i r) := by
  refine met_ofI (by decide) (Nat.le_of_ble_eq_true rfl) ?_
  intro pP eE sS mM aV bB mE cC AA C hin
  refine z_conv (lv' := [(0, .ref (a 1)), (1, .int x)]) ⟨rfl, rfl, trivial⟩ rfl rfl ?_
  refine z_aload_n C (pc := 0) dX0_codeAt_0 rfl ?_
  refine z_get C (pc := 1) 1 rfl rfl wf_X0 0 (by decide) rfl wl_X0_9 (v := .ref (a 2)) rfl dX0_codeAt_1 ?_
  refine z_iload_n C (pc := 4) dX0_codeAt_4 rfl ?_
  refine z_calli C (isC := [2]) rfl (by exact fun _ => rfl) (runSN C (wc := [(a 2, .inl (cI, 15, .inl (r 0)))]) (pc := 5) (rY' := rm 0 0) (nn := 2) (As := [.ref (a 2), .int x]) (rest := []) (c_at l D cI tt (a 2) 15 (r 0) x (by decide)) rfl rfl ⟨rfl, rfl, ⟨Nat.le_of_ble_eq_true rfl, Nat.le_of_ble_eq_true rfl⟩, Nat.le_of_ble_eq_true rfl, Nat.le_of_ble_eq_true rfl⟩ wl_X0_23 ws_X3_at wi_X3 wc_X3_at (by decide +kernel) rfl rfl (Nat.le_of_ble_eq_true rfl) dX0_codeAt_5) (fun r_1 u_1 h_1 => ?_)
  subst h_1
  refine z_ws (st' := [.int (atv 15 (r 0) x)]) (ws' := (cW cI a i r)) rfl rfl ?_
  refine z_iret C (pc := 8) () dX0_codeAt_8 ?_ rfl
  rfl

set_option maxHeartbeats 4000000 in
set_option maxRecDepth 100000 in
theorem c_firstWrong (l : Launch) (D : va_G) (cI : ClassId) (tt : Nat × Nat × Nat) (a : Nat → Nat) (i : Nat → Int32) (r : Nat → Nat → Int32) (L : Nat) (hl : i 3 = nI L) (hL : L ≤ 15) : MetI (S := Unit) l yX0_firstWrong cX0_firstWrong 5 (some .int) (rm 2 42) D cI tt [.ref (a 1)] (cW cI a i r) (fun q _ => q = nI (scv (r 0) L 0 0).1) (fun _ => cW cI a i r) := by
  refine met_ofI (by decide) (Nat.le_of_ble_eq_true rfl) ?_
  intro pP eE sS mM aV bB mE cC AA C hin
  refine z_conv (lv' := [(0, .ref (a 1))]) ⟨rfl, trivial⟩ rfl rfl ?_
  refine z_iconst C (pc := 0) (v := 0) dX0_firstWrong_0 (by decide) ?_
  refine z_istore_n C (pc := 1) (lv' := [(0, .ref (a 1)), (1, .int 0)]) dX0_firstWrong_1 (Nat.le_of_ble_eq_true rfl) rfl rfl ?_
  refine z_iconst C (pc := 2) (v := (-1)) dX0_firstWrong_2 (by decide) ?_
  refine z_istore_n C (pc := 3) (lv' := [(0, .ref (a 1)), (1, .int 0), (2, .int (-1))]) dX0_firstWrong_3 (Nat.le_of_ble_eq_true rfl) rfl rfl ?_
  refine z_iconst C (pc := 4) (v := 0) dX0_firstWrong_4 (by decide) ?_
  refine z_istore_n C (pc := 5) (lv' := [(0, .ref (a 1)), (1, .int 0), (2, .int (-1)), (3, .int 0)]) dX0_firstWrong_5 (Nat.le_of_ble_eq_true rfl) rfl rfl ?_
  have key6 : ∀ (fu6 : Nat) (p en : Nat), L - p < fu6 → (p ≤ L) → (SI (r 0) p en) → (scv (r 0) (L - p) p en = scv (r 0) L 0 0) → Z pP l eE (rm 2 42) sS mM aV bB mE cC D AA 5 0 0 (MQ bB (va_Qi (S := Unit) (fun q _ => q = nI (scv (r 0) L 0 0).1) (fun u t => va_P D vwCl ((fun _ => cW cI a i r) u) t.heap) AA) aV sS 0 0 AA) 6 [(0, .ref (a 1)), (1, .int (nI (krv p en))), (2, .int (drv p en)), (3, .int (nI p))] [] (cW cI a i r) := by
    intro fu6
    induction fu6 with
    | zero => intro p en hfu6; exact absurd hfu6 (Nat.not_lt_zero _)
    | succ fu6 ih6 =>
      intro p en hfu6 hpl hsi heq
      refine z_iload_n C (pc := 6) dX0_firstWrong_6 rfl ?_
      refine z_aload_n C (pc := 7) dX0_firstWrong_7 rfl ?_
      refine z_get C (pc := 8) 1 rfl rfl wf_X0 1 (by decide) rfl wl_X0_15 (v := .int (i 3)) rfl dX0_firstWrong_8 ?_
      refine z_icmp_ge C (pc := 11) (tgt := 99) dX0_firstWrong_11 (by decide) (fun c_1 => ?_) (fun c_1 => ?_)
      · refine z_aload_n C (pc := 99) dX0_firstWrong_99 rfl ?_
        refine z_get C (pc := 100) 1 rfl rfl wf_X0 1 (by decide) rfl wl_X0_15 (v := .int (i 3)) rfl dX0_firstWrong_100 ?_
        refine z_iret C (pc := 103) () dX0_firstWrong_103 ?_ rfl
        rw [hl] at c_1
        have hpe : p = L := by
          have := ge_of_nI c_1 (by omega)
          omega
        rw [hl, ← heq, hpe, Nat.sub_self]
        rfl
      · rw [hl] at c_1
        have hp : p < L := lt_of_nI c_1 (by omega)
        have hsc : scv (r 0) ((L - (p + 1)) + 1) p en = scv (r 0) L 0 0 := by rw [← heq, show L - p = (L - (p + 1)) + 1 by omega]
        refine z_aload_n C (pc := 14) dX0_firstWrong_14 rfl ?_
        refine z_iload_n C (pc := 15) dX0_firstWrong_15 rfl ?_
        refine z_calliF C (by exact fun _ => cW_ad) (runV C (wc := (cW cI a i r)) (pc := 16) (rY' := rm 1 21) (nn := 1) (As := [.int (nI p)]) (rest := []) (c_codeAt l D cI tt a i r (nI p)) (full_hC _) (full_nd _) ⟨rfl, rfl, ⟨Nat.le_of_ble_eq_true rfl, Nat.le_of_ble_eq_true rfl⟩, Nat.le_of_ble_eq_true rfl, Nat.le_of_ble_eq_true rfl⟩ wl_X0_27 wm_X0_codeAt we_X0_codeAt wi_X0 wc_X0_codeAt (by decide +kernel) rfl 1 rfl rfl rfl rfl (Nat.le_of_ble_eq_true rfl) dX0_firstWrong_16) (fun q_2 u_2 h_2 => ?_)
        have h_2 : q_2 = r 0 p := h_2.trans (atv_nI (by omega) (by decide))
        subst h_2
        refine z_ws (st' := [.int (r 0 p)]) (ws' := (cW cI a i r)) rfl rfl ?_
        refine z_istore C (pc := 19) (lv' := [(0, .ref (a 1)), (1, .int (nI (krv p en))), (2, .int (drv p en)), (3, .int (nI p)), (4, .int (r 0 p))]) dX0_firstWrong_19 (Nat.le_of_ble_eq_true rfl) rfl rfl ?_
        refine z_iload_n C (pc := 21) dX0_firstWrong_21 rfl ?_
        refine z_iconst C (pc := 22) (v := (-1)) dX0_firstWrong_22 (by decide) ?_
        refine z_icmp_eq C (pc := 23) (tgt := 53) dX0_firstWrong_23 (by decide) (fun c_3 => ?_) (fun c_3 => ?_)
        · have he0 : en = 0 := (drv_ne (by omega)).mp c_3
          subst he0
          refine z_iload C (pc := 53) dX0_firstWrong_53 rfl ?_
          refine z_bipush C (pc := 55) (v := 59) dX0_firstWrong_55 (by decide) ?_
          refine z_icmp_ne C (pc := 57) (tgt := 70) dX0_firstWrong_57 (by decide) (fun c_4 => ?_) (fun c_4 => ?_)
          · have hns : ¬ (r 0 p = 59 ∧ 2 ≤ p) := fun h => c_4 h.1
            refine z_iload C (pc := 70) dX0_firstWrong_70 rfl ?_
            refine z_calli C (isC := []) rfl (by exact fun _ => rfl) (runSN C (wc := []) (pc := 72) (rY' := rm 0 0) (nn := 1) (As := [.int (r 0 p)]) (rest := []) (c_kindOf l D cI tt (r 0 p)) rfl rfl ⟨rfl, rfl, ⟨Nat.le_of_ble_eq_true rfl, Nat.le_of_ble_eq_true rfl⟩, Nat.le_of_ble_eq_true rfl, Nat.le_of_ble_eq_true rfl⟩ wl_X0_31 ws_X3_kindOf wi_X3 wc_X3_kindOf (by decide +kernel) rfl rfl (Nat.le_of_ble_eq_true rfl) dX0_firstWrong_72) (fun r_5 u_5 h_5 => ?_)
            subst h_5
            refine z_ws (st' := [.int (kindOfv (r 0 p))]) (ws' := (cW cI a i r)) rfl rfl ?_
            refine z_iconst C (pc := 75) (v := (-1)) dX0_firstWrong_75 (by decide) ?_
            refine z_icmp_eq C (pc := 76) (tgt := 91) dX0_firstWrong_76 (by decide) (fun c_6 => ?_) (fun c_6 => ?_)
            · have hbad : gdb (r 0) p 0 = false := by
                unfold gdb
                have h59' : ¬ r 0 p = 59 ∨ ¬ 2 ≤ p := by
                  rcases Classical.em (r 0 p = 59) with h | h
                  · exact Or.inr (fun h2 => hns ⟨h, h2⟩)
                  · exact Or.inl h
                rcases h59' with h | h <;> simp [h, c_6]
              refine z_iload_n C (pc := 91) dX0_firstWrong_91 rfl ?_
              refine z_iret C (pc := 92) () dX0_firstWrong_92 ?_ rfl
              rw [← hsc, scv_f hbad]
            · have hkn : kindOfv (r 0 p) ≠ -1 := c_6
              refine z_iload_n C (pc := 79) dX0_firstWrong_79 rfl ?_
              refine z_bipush C (pc := 80) (v := 6) dX0_firstWrong_80 (by decide) ?_
              refine z_icmp_ge C (pc := 82) (tgt := 91) dX0_firstWrong_82 (by decide) (fun c_7 => ?_) (fun c_7 => ?_)
              · have hp6 : ¬ p < 6 := fun h => nI_ge (a := p) (b := 6) h (by decide) c_7
                have hbad : gdb (r 0) p 0 = false := by
                  unfold gdb
                  have h59' : ¬ r 0 p = 59 ∨ ¬ 2 ≤ p := by
                    rcases Classical.em (r 0 p = 59) with h | h
                    · exact Or.inr (fun h2 => hns ⟨h, h2⟩)
                    · exact Or.inl h
                  rcases h59' with h | h <;> simp [h, hp6]
                refine z_iload_n C (pc := 91) dX0_firstWrong_91 rfl ?_
                refine z_iret C (pc := 92) () dX0_firstWrong_92 ?_ rfl
                rw [← hsc, scv_f hbad]
              · have hp6 : p < 6 := lt_of_nI c_7 (by omega)
                have hgo : gdb (r 0) p 0 = true := by unfold gdb; simp [hp6, hkn]
                have hge : gde (r 0) p 0 = 0 := by unfold gde; rw [if_neg (by simp), if_neg hns]
                refine z_iinc C (pc := 85) (v := ((nI (krv p 0)) + 1)) (lv' := [(0, .ref (a 1)), (1, .int ((nI (krv p 0)) + 1)), (2, .int (drv p 0)), (3, .int (nI p)), (4, .int (r 0 p))]) dX0_firstWrong_85 rfl rfl (Nat.le_of_ble_eq_true rfl) rfl rfl ?_
                refine z_goto C (pc := 88) (tgt := 93) dX0_firstWrong_88 (by decide) ?_
                refine z_iinc C (pc := 93) (v := ((nI p) + 1)) (lv' := [(0, .ref (a 1)), (1, .int ((nI (krv p 0)) + 1)), (2, .int (drv p 0)), (3, .int ((nI p) + 1)), (4, .int (r 0 p))]) dX0_firstWrong_93 rfl rfl (Nat.le_of_ble_eq_true rfl) rfl rfl ?_
                refine z_goto C (pc := 96) (tgt := 6) dX0_firstWrong_96 (by decide) ?_
                refine z_lv (lv' := [(0, .ref (a 1)), (1, .int (nI (krv (p + 1) 0))), (2, .int (drv (p + 1) 0)), (3, .int (nI (p + 1)))]) ⟨rfl, lki (by unfold krv; rw [if_pos rfl, if_pos rfl]; exact nI_1 p), rfl, lki (nI_1 p), trivial⟩ ?_
                exact ih6 (p + 1) 0 (by omega) hp (by have := SI_s hsi hgo; rw [hge] at this; exact this) (by rw [scv_t hgo, hge] at hsc; exact hsc)
          · have h59 : r 0 p = 59 := c_4
            refine z_iload_n C (pc := 60) dX0_firstWrong_60 rfl ?_
            refine z_iconst C (pc := 61) (v := 2) dX0_firstWrong_61 (by decide) ?_
            refine z_icmp_lt C (pc := 62) (tgt := 70) dX0_firstWrong_62 (by decide) (fun c_8 => ?_) (fun c_8 => ?_)
            · have hns : ¬ (r 0 p = 59 ∧ 2 ≤ p) := fun h => nI_nlt (a := p) (b := 2) h.2 (by omega) c_8
              refine z_iload C (pc := 70) dX0_firstWrong_70 rfl ?_
              refine z_calli C (isC := []) rfl (by exact fun _ => rfl) (runSN C (wc := []) (pc := 72) (rY' := rm 0 0) (nn := 1) (As := [.int (r 0 p)]) (rest := []) (c_kindOf l D cI tt (r 0 p)) rfl rfl ⟨rfl, rfl, ⟨Nat.le_of_ble_eq_true rfl, Nat.le_of_ble_eq_true rfl⟩, Nat.le_of_ble_eq_true rfl, Nat.le_of_ble_eq_true rfl⟩ wl_X0_31 ws_X3_kindOf wi_X3 wc_X3_kindOf (by decide +kernel) rfl rfl (Nat.le_of_ble_eq_true rfl) dX0_firstWrong_72) (fun r_9 u_9 h_9 => ?_)
              subst h_9
              refine z_ws (st' := [.int (kindOfv (r 0 p))]) (ws' := (cW cI a i r)) rfl rfl ?_
              refine z_iconst C (pc := 75) (v := (-1)) dX0_firstWrong_75 (by decide) ?_
              refine z_icmp_eq C (pc := 76) (tgt := 91) dX0_firstWrong_76 (by decide) (fun c_10 => ?_) (fun c_10 => ?_)
              · have hbad : gdb (r 0) p 0 = false := by
                  unfold gdb
                  have h59' : ¬ r 0 p = 59 ∨ ¬ 2 ≤ p := by
                    rcases Classical.em (r 0 p = 59) with h | h
                    · exact Or.inr (fun h2 => hns ⟨h, h2⟩)
                    · exact Or.inl h
                  rcases h59' with h | h <;> simp [h, c_10]
                refine z_iload_n C (pc := 91) dX0_firstWrong_91 rfl ?_
                refine z_iret C (pc := 92) () dX0_firstWrong_92 ?_ rfl
                rw [← hsc, scv_f hbad]
              · have hkn : kindOfv (r 0 p) ≠ -1 := c_10
                refine z_iload_n C (pc := 79) dX0_firstWrong_79 rfl ?_
                refine z_bipush C (pc := 80) (v := 6) dX0_firstWrong_80 (by decide) ?_
                refine z_icmp_ge C (pc := 82) (tgt := 91) dX0_firstWrong_82 (by decide) (fun c_11 => ?_) (fun c_11 => ?_)
                · have hp6 : ¬ p < 6 := fun h => nI_ge (a := p) (b := 6) h (by decide) c_11
                  have hbad : gdb (r 0) p 0 = false := by
                    unfold gdb
                    have h59' : ¬ r 0 p = 59 ∨ ¬ 2 ≤ p := by
                      rcases Classical.em (r 0 p = 59) with h | h
                      · exact Or.inr (fun h2 => hns ⟨h, h2⟩)
                      · exact Or.inl h
                    rcases h59' with h | h <;> simp [h, hp6]
                  refine z_iload_n C (pc := 91) dX0_firstWrong_91 rfl ?_
                  refine z_iret C (pc := 92) () dX0_firstWrong_92 ?_ rfl
                  rw [← hsc, scv_f hbad]
                · have hp6 : p < 6 := lt_of_nI c_11 (by omega)
                  have hgo : gdb (r 0) p 0 = true := by unfold gdb; simp [hp6, hkn]
                  have hge : gde (r 0) p 0 = 0 := by unfold gde; rw [if_neg (by simp), if_neg hns]
                  refine z_iinc C (pc := 85) (v := ((nI (krv p 0)) + 1)) (lv' := [(0, .ref (a 1)), (1, .int ((nI (krv p 0)) + 1)), (2, .int (drv p 0)), (3, .int (nI p)), (4, .int (r 0 p))]) dX0_firstWrong_85 rfl rfl (Nat.le_of_ble_eq_true rfl) rfl rfl ?_
                  refine z_goto C (pc := 88) (tgt := 93) dX0_firstWrong_88 (by decide) ?_
                  refine z_iinc C (pc := 93) (v := ((nI p) + 1)) (lv' := [(0, .ref (a 1)), (1, .int ((nI (krv p 0)) + 1)), (2, .int (drv p 0)), (3, .int ((nI p) + 1)), (4, .int (r 0 p))]) dX0_firstWrong_93 rfl rfl (Nat.le_of_ble_eq_true rfl) rfl rfl ?_
                  refine z_goto C (pc := 96) (tgt := 6) dX0_firstWrong_96 (by decide) ?_
                  refine z_lv (lv' := [(0, .ref (a 1)), (1, .int (nI (krv (p + 1) 0))), (2, .int (drv (p + 1) 0)), (3, .int (nI (p + 1)))]) ⟨rfl, lki (by unfold krv; rw [if_pos rfl, if_pos rfl]; exact nI_1 p), rfl, lki (nI_1 p), trivial⟩ ?_
                  exact ih6 (p + 1) 0 (by omega) hp (by have := SI_s hsi hgo; rw [hge] at this; exact this) (by rw [scv_t hgo, hge] at hsc; exact hsc)
            · have h2p : 2 ≤ p := Nat.le_of_not_lt (fun h => c_8 (nI_lt h (by decide)))
              have hgo : gdb (r 0) p 0 = true := by unfold gdb; simp [h59, h2p]
              have hge : gde (r 0) p 0 = p + 1 := by unfold gde; simp [h59, h2p]
              refine z_iconst C (pc := 65) (v := 0) dX0_firstWrong_65 (by decide) ?_
              refine z_istore_n C (pc := 66) (lv' := [(0, .ref (a 1)), (1, .int (nI (krv p 0))), (2, .int 0), (3, .int (nI p)), (4, .int (r 0 p))]) dX0_firstWrong_66 (Nat.le_of_ble_eq_true rfl) rfl rfl ?_
              refine z_goto C (pc := 67) (tgt := 93) dX0_firstWrong_67 (by decide) ?_
              refine z_iinc C (pc := 93) (v := ((nI p) + 1)) (lv' := [(0, .ref (a 1)), (1, .int (nI (krv p 0))), (2, .int 0), (3, .int ((nI p) + 1)), (4, .int (r 0 p))]) dX0_firstWrong_93 rfl rfl (Nat.le_of_ble_eq_true rfl) rfl rfl ?_
              refine z_goto C (pc := 96) (tgt := 6) dX0_firstWrong_96 (by decide) ?_
              refine z_lv (lv' := [(0, .ref (a 1)), (1, .int (nI (krv (p + 1) (p + 1)))), (2, .int (drv (p + 1) (p + 1))), (3, .int (nI (p + 1)))]) ⟨rfl, lki (by unfold krv; rw [if_pos rfl, if_neg (by omega)]; rfl), lki (by unfold drv; rw [if_neg (by omega), Nat.sub_self]; rfl), lki (nI_1 p), trivial⟩ ?_
              exact ih6 (p + 1) (p + 1) (by omega) hp (by have := SI_s hsi hgo; rw [hge] at this; exact this) (by rw [scv_t hgo, hge] at hsc; exact hsc)
        · have he1 : en ≠ 0 := fun h => c_3 ((drv_ne (by omega)).mpr h)
          have hs2 := hsi.2.1 he1
          have hdr : drv p en = nI (p - en) := if_neg he1
          refine z_iload_n C (pc := 26) dX0_firstWrong_26 rfl ?_
          refine z_iconst C (pc := 27) (v := 5) dX0_firstWrong_27 (by decide) ?_
          refine z_icmp_eq C (pc := 28) (tgt := 45) dX0_firstWrong_28 (by decide) (fun c_12 => ?_) (fun c_12 => ?_)
          · have h5 : p - en = 5 := by rw [hdr] at c_12; exact (nI_eq (b := 5) (by omega) (by decide)).mp c_12
            have hbad : gdb (r 0) p en = false := by
              unfold gdb
              rw [if_pos he1]
              simp [show ¬ p < en + 5 by omega]
            refine z_iload_n C (pc := 45) dX0_firstWrong_45 rfl ?_
            refine z_iret C (pc := 46) () dX0_firstWrong_46 ?_ rfl
            rw [← hsc, scv_f hbad]
          · have h5 : p < en + 5 := by
              have : p - en ≠ 5 := fun h => c_12 (by rw [hdr, h]; rfl)
              omega
            refine z_iload C (pc := 31) dX0_firstWrong_31 rfl ?_
            refine z_bipush C (pc := 33) (v := 48) dX0_firstWrong_33 (by decide) ?_
            refine z_icmp_lt C (pc := 35) (tgt := 45) dX0_firstWrong_35 (by decide) (fun c_13 => ?_) (fun c_13 => ?_)
            · have hbad : gdb (r 0) p en = false := by
                unfold gdb
                rw [if_pos he1]
                simp [i_nle.mpr c_13]
              refine z_iload_n C (pc := 45) dX0_firstWrong_45 rfl ?_
              refine z_iret C (pc := 46) () dX0_firstWrong_46 ?_ rfl
              rw [← hsc, scv_f hbad]
            · have h48 := i_nlt.mp c_13
              refine z_iload C (pc := 38) dX0_firstWrong_38 rfl ?_
              refine z_bipush C (pc := 40) (v := 57) dX0_firstWrong_40 (by decide) ?_
              refine z_icmp_le C (pc := 42) (tgt := 47) dX0_firstWrong_42 (by decide) (fun c_14 => ?_) (fun c_14 => ?_)
              · have hgo : gdb (r 0) p en = true := by
                  unfold gdb
                  rw [if_pos he1]
                  simp [h5, h48, c_14]
                have hge : gde (r 0) p en = en := if_pos he1
                refine z_iinc C (pc := 47) (v := ((drv p en) + 1)) (lv' := [(0, .ref (a 1)), (1, .int (nI (krv p en))), (2, .int ((drv p en) + 1)), (3, .int (nI p)), (4, .int (r 0 p))]) dX0_firstWrong_47 rfl rfl (Nat.le_of_ble_eq_true rfl) rfl rfl ?_
                refine z_goto C (pc := 50) (tgt := 93) dX0_firstWrong_50 (by decide) ?_
                refine z_iinc C (pc := 93) (v := ((nI p) + 1)) (lv' := [(0, .ref (a 1)), (1, .int (nI (krv p en))), (2, .int ((drv p en) + 1)), (3, .int ((nI p) + 1)), (4, .int (r 0 p))]) dX0_firstWrong_93 rfl rfl (Nat.le_of_ble_eq_true rfl) rfl rfl ?_
                refine z_goto C (pc := 96) (tgt := 6) dX0_firstWrong_96 (by decide) ?_
                refine z_lv (lv' := [(0, .ref (a 1)), (1, .int (nI (krv (p + 1) en))), (2, .int (drv (p + 1) en)), (3, .int (nI (p + 1)))]) ⟨rfl, lki (by unfold krv; rw [if_neg he1, if_neg he1]), lki (by rw [hdr, nI_1]; unfold drv; rw [if_neg he1, show p + 1 - en = p - en + 1 by omega]), lki (nI_1 p), trivial⟩ ?_
                exact ih6 (p + 1) en (by omega) hp (by have := SI_s hsi hgo; rw [hge] at this; exact this) (by rw [scv_t hgo, hge] at hsc; exact hsc)
              · have hbad : gdb (r 0) p en = false := by
                  unfold gdb
                  rw [if_pos he1]
                  simp [c_14]
                refine z_iload_n C (pc := 45) dX0_firstWrong_45 rfl ?_
                refine z_iret C (pc := 46) () dX0_firstWrong_46 ?_ rfl
                rw [← hsc, scv_f hbad]
  refine z_lv (lv' := [(0, .ref (a 1)), (1, .int (nI (krv 0 0))), (2, .int (drv 0 0)), (3, .int (nI 0))]) ⟨rfl, rfl, rfl, rfl, trivial⟩ ?_
  exact key6 (_ + 1) 0 0 (Nat.lt_succ_self _) (Nat.zero_le _) SI_0 rfl
