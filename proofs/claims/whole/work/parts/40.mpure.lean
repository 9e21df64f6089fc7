/-! the reference: small rows -/
def inb (v x y : Int64) : Bool := !decide (v < x) && !decide (y < v)
theorem lg_lt {x y : Int64} : lg_cmp x y < 0 ↔ x < y := by
  unfold lg_cmp
  by_cases h1 : x > y
  · rw [if_pos h1]
    refine ⟨fun h => absurd h (by decide), fun h => ?_⟩
    simp only [gt_iff_lt, Int64.lt_iff_toInt_lt] at h1 h
    omega
  · rw [if_neg h1]
    by_cases h2 : x = y
    · rw [if_pos h2]
      refine ⟨fun h => absurd h (by decide), fun h => ?_⟩
      rw [h2, Int64.lt_iff_toInt_lt] at h
      omega
    · rw [if_neg h2]
      refine ⟨fun _ => ?_, fun _ => by decide⟩
      simp only [gt_iff_lt, Int64.lt_iff_toInt_lt] at h1 ⊢
      have : x.toInt ≠ y.toInt := fun e => h2 (Int64.toInt_inj.mp e)
      omega
theorem lg_gt {x y : Int64} : 0 < lg_cmp x y ↔ y < x := by
  unfold lg_cmp
  by_cases h1 : x > y
  · rw [if_pos h1]; exact ⟨fun _ => h1, fun _ => by decide⟩
  · rw [if_neg h1]
    by_cases h2 : x = y
    · rw [if_pos h2]
      exact ⟨fun h => absurd h (by decide), fun h => absurd h h1⟩
    · rw [if_neg h2]
      exact ⟨fun h => absurd h (by decide), fun h => absurd h h1⟩
theorem i64_lt {x y : Int32} : x.toInt64 < y.toInt64 ↔ x < y := by
  simp only [Int64.lt_iff_toInt_lt, Int32.lt_iff_toInt_lt, Int32.toInt_toInt64]
theorem inb_i {x y v : Int32} : inb v.toInt64 x.toInt64 y.toInt64 = (!decide (v < x) && !decide (y < v)) := by
  unfold inb
  simp only [i64_lt]
def cqv (f1 f2 : Nat → Int32) : Nat → Nat → Int32
  | 0 => f2
  | j + 1 => upd (cqv f1 f2 j) j (f1 j)
theorem cqv_at (f1 f2 : Nat → Int32) : ∀ (n k : Nat), cqv f1 f2 n k = if k < n then f1 k else f2 k
  | 0, k => by simp [cqv]
  | n + 1, k => by
    show upd (cqv f1 f2 n) n (f1 n) k = _
    unfold upd
    by_cases e : k = n
    · subst e; simp
    · rw [if_neg e, cqv_at f1 f2 n k]
      by_cases e2 : k < n
      · rw [if_pos e2, if_pos (by omega)]
      · rw [if_neg e2, if_neg (by omega)]
def sumw (f : Nat → Int32) : Nat → Int32
  | 0 => 0
  | j + 1 => sumw f j + f (j + 1)
theorem sumw_nI {f : Nat → Int32} {c : Nat → Nat} (h : ∀ k, k < 5 → f (k + 1) = nI (c k)) : sumw f 5 = nI (sumN c) := by
  show (((((0 + f 1) + f 2) + f 3) + f 4) + f 5) = _
  rw [h 0 (by decide), h 1 (by decide), h 2 (by decide), h 3 (by decide), h 4 (by decide), show (0 : Int32) = nI 0 from rfl, nI_add, nI_add, nI_add, nI_add, nI_add]
  unfold sumN
  rw [Nat.zero_add]
theorem ones_pcn : ∀ x, x < 64 → sumk (fun _ => 1) (fun _ => 0) x 6 = pcn x := by decide +kernel
/-- a party of n of the kinds kd; x of them live, with the food f -/
def PVm (i : Nat → Int32) (r : Nat → Nat → Int32) (kd : Nat → Nat) (n : Nat) : Prop := i 3 = nI n ∧ n ≤ 6 ∧ ∀ k, k < n → r 1 k = nI (kd k) ∧ kd k ≤ 4
def PM (i : Nat → Int32) (x f : Nat) : Prop := i 10 = nI x ∧ i 11 = nI f
/-- a march's scratch alone is other -/
def SPm (i i' : Nat → Int32) : Prop := ∀ k, k < 10 ∨ 12 < k → i' k = i k
def SRm (r r' : Nat → Nat → Int32) : Prop := ∀ k, k ≠ 3 → r' k = r k
theorem SPm.rf {i : Nat → Int32} : SPm i i := fun _ _ => rfl
theorem SPm.tr {i j k : Nat → Int32} (h : SPm i j) (h2 : SPm j k) : SPm i k := fun q hq => (h2 q hq).trans (h q hq)
theorem SPm.up {i j : Nat → Int32} (h : SPm i j) {k : Nat} {v : Int32} (hk : 10 ≤ k ∧ k ≤ 12) : SPm i (upd j k v) := fun q hq => by unfold upd; rw [if_neg (by omega)]; exact h q hq
theorem SRm.rf {r : Nat → Nat → Int32} : SRm r r := fun _ _ => rfl
theorem SRm.tr {i j k : Nat → Nat → Int32} (h : SRm i j) (h2 : SRm j k) : SRm i k := fun q hq => (h2 q hq).trans (h q hq)
theorem SRm.up {i j : Nat → Nat → Int32} (h : SRm i j) {v : Nat → Int32} : SRm i (va_up j 3 v) := fun q hq => by unfold va_up; rw [if_neg hq]; exact h q hq
theorem PVm.sp {i i' : Nat → Int32} {r r' : Nat → Nat → Int32} {kd : Nat → Nat} {n : Nat} (h : PVm i r kd n) (hi : SPm i i') (hr : SRm r r') : PVm i' r' kd n := ⟨(hi 3 (by omega)).trans h.1, h.2.1, fun k hk => by rw [hr 1 (by decide)]; exact h.2.2 k hk⟩
def lsv (P : Nat → Bool) (x : Nat) : Nat → Nat
  | 0 => 0
  | k + 1 => if P k = true ∧ bt x k = 1 then k + 1 else lsv P x k
theorem lsv_t {P : Nat → Bool} {x k : Nat} (h : P k = true ∧ bt x k = 1) : lsv P x (k + 1) = k + 1 := by show (if _ then _ else _) = _; rw [if_pos h]
theorem lsv_f {P : Nat → Bool} {x k : Nat} (h : ¬ (P k = true ∧ bt x k = 1)) : lsv P x (k + 1) = lsv P x k := by show (if _ then _ else _) = _; rw [if_neg h]
theorem lsv_le (P : Nat → Bool) (x : Nat) : ∀ k, lsv P x k ≤ k
  | 0 => Nat.le_refl _
  | k + 1 => by
    by_cases h : P k = true ∧ bt x k = 1
    · rw [lsv_t h]; exact Nat.le_refl _
    · rw [lsv_f h]; have := lsv_le P x k; omega
theorem lsv_some {P : Nat → Bool} {x : Nat} : ∀ {k j : Nat}, lsv P x k = j + 1 → (P j = true ∧ bt x j = 1) ∧ j < k ∧ ∀ q, j < q → q < k → ¬ (P q = true ∧ bt x q = 1)
  | 0, j, h => by cases h
  | k + 1, j, h => by
    by_cases h2 : P k = true ∧ bt x k = 1
    · rw [lsv_t h2] at h
      have e : k = j := by omega
      subst e
      exact ⟨h2, by omega, fun q h3 h4 => by omega⟩
    · rw [lsv_f h2] at h
      obtain ⟨a, b, c⟩ := lsv_some h
      refine ⟨a, by omega, fun q h3 h4 => ?_⟩
      by_cases e : q = k
      · subst e; exact h2
      · exact c q h3 (by omega)
theorem lsv_none {P : Nat → Bool} {x : Nat} : ∀ {k : Nat}, lsv P x k = 0 → ∀ q, q < k → ¬ (P q = true ∧ bt x q = 1)
  | 0, _, q, h => absurd h (Nat.not_lt_zero q)
  | k + 1, h, q, hq => by
    by_cases h2 : P k = true ∧ bt x k = 1
    · rw [lsv_t h2] at h; cases h
    · rw [lsv_f h2] at h
      by_cases e : q = k
      · subst e; exact h2
      · exact lsv_none h q (by omega)
theorem isB_fds {t : Nat} (h : t ≤ 4) : isB t = decide (0 < fds t) := (show ∀ t, t < 5 → isB t = decide (0 < fds t) by decide) t (by omega)
/-- members that aren't eaten there are passed -/
theorem pon_skip {kd : Nat → Nat} {n : Nat} {s : Nat × Nat} {k : Nat} : ∀ m, k ≤ m → (∀ q, k ≤ q → q < m → ¬ (kd q = 1 ∧ bt s.1 q = 1)) → pon kd n m s = pon kd n k s
  | 0, h, _ => by have : k = 0 := by omega
                  subst this; rfl
  | m + 1, h, hq => by
    by_cases e : k = m + 1
    · subst e; rfl
    · have h1 := hq m (by omega) (by omega)
      have h2 : pon kd n (m + 1) s = pon kd n m s := by
        by_cases e1 : kd m = 1
        · rw [pon_s e1]
          have : dev kd n m s = s := by unfold dev; rw [if_neg (fun hb => h1 ⟨e1, hb⟩)]
          rw [this]
        · exact pon_n e1
      rw [h2]
      exact pon_skip m (by omega) (fun q a b => hq q a (by omega))
theorem bea_skip {kd : Nat → Nat} {n : Nat} {s : Nat × Nat} {k : Nat} : ∀ m, k ≤ m → (∀ q, k ≤ q → q < m → ¬ (isB (kd q) = true ∧ bt s.1 q = 1)) → bea kd n m s = bea kd n k s
  | 0, h, _ => by have : k = 0 := by omega
                  subst this; rfl
  | m + 1, h, hq => by
    by_cases e : k = m + 1
    · subst e; rfl
    · have h1 := hq m (by omega) (by omega)
      have h2 : bea kd n (m + 1) s = bea kd n m s := by
        by_cases e0 : s.2 < sumk ets kd s.1 n
        · by_cases e1 : isB (kd m) = true
          · rw [bea_s e0 e1]
            have : dev kd n m s = s := by unfold dev; rw [if_neg (fun hb => h1 ⟨e1, hb⟩)]
            rw [this]
          · exact bea_n e0 e1
        · rw [bea_x e0, bea_x e0]
      rw [h2]
      exact bea_skip m (by omega) (fun q a b => hq q a (by omega))
theorem dev_bt {kd : Nat → Nat} {n k : Nat} {s : Nat × Nat} (hx : s.1 < 64) (hk : k < 6) (hb : bt s.1 k = 1) {j : Nat} (hj : j < 6) : bt (dev kd n k s).1 j = if j = k then 0 else bt s.1 j := by
  unfold dev
  rw [if_pos hb]
  exact bt_sub s.1 hx k hk j hj hb
theorem dev_id {kd : Nat → Nat} {n k : Nat} {s : Nat × Nat} (h : ¬ bt s.1 k = 1) : dev kd n k s = s := by unfold dev; rw [if_neg h]
/-- the last pony is eaten first: the rest of the pass is the pass -/
theorem pon_last {kd : Nat → Nat} {n j : Nat} {s : Nat × Nat} (hn : n ≤ 6) (hx : s.1 < 64) (h : lsv (fun k => decide (kd k = 1)) s.1 n = j + 1) : pon kd n n s = pon kd n n (dev kd n j s) := by
  obtain ⟨h1, h2, h3⟩ := lsv_some h
  have hkd : kd j = 1 := of_decide_eq_true h1.1
  rw [pon_skip (k := j + 1) n (by omega) (fun q a b hh => h3 q (by omega) b ⟨decide_eq_true hh.1, hh.2⟩), pon_s hkd]
  rw [pon_skip (s := dev kd n j s) (k := j + 1) n (by omega) (fun q a b hh => by
    rw [dev_bt hx (by omega) h1.2 (by omega), if_neg (by omega)] at hh
    exact h3 q (by omega) b ⟨decide_eq_true hh.1, hh.2⟩), pon_s hkd]
  have : dev kd n j (dev kd n j s) = dev kd n j s := by
    have e := dev_bt (kd := kd) (n := n) hx (by omega) h1.2 (show j < 6 by omega)
    rw [if_pos rfl] at e
    exact dev_id (by rw [e]; decide)
  rw [this]
theorem pon_end {kd : Nat → Nat} {n : Nat} {s : Nat × Nat} (h : lsv (fun k => decide (kd k = 1)) s.1 n = 0) : pon kd n n s = s :=
  pon_skip (k := 0) n (Nat.zero_le _) (fun q _ b hh => lsv_none h q b ⟨decide_eq_true hh.1, hh.2⟩)
theorem bea_last {kd : Nat → Nat} {n j : Nat} {s : Nat × Nat} (hn : n ≤ 6) (hx : s.1 < 64) (h0 : s.2 < sumk ets kd s.1 n) (h : lsv (fun k => isB (kd k)) s.1 n = j + 1) : bea kd n n s = bea kd n n (dev kd n j s) := by
  obtain ⟨h1, h2, h3⟩ := lsv_some h
  rw [bea_skip (k := j + 1) n (by omega) (fun q a b hh => h3 q (by omega) b hh), bea_s h0 h1.1]
  rw [bea_skip (s := dev kd n j s) (k := j + 1) n (by omega) (fun q a b hh => by
    rw [dev_bt hx (by omega) h1.2 (by omega), if_neg (by omega)] at hh
    exact h3 q (by omega) b hh)]
  have hd : dev kd n j (dev kd n j s) = dev kd n j s := by
    have e := dev_bt (kd := kd) (n := n) hx (by omega) h1.2 (show j < 6 by omega)
    rw [if_pos rfl] at e
    exact dev_id (by rw [e]; decide)
  by_cases e0 : (dev kd n j s).2 < sumk ets kd (dev kd n j s).1 n
  · rw [bea_s e0 h1.1, hd]
  · rw [bea_x e0, bea_x e0]
theorem bea_end {kd : Nat → Nat} {n : Nat} {s : Nat × Nat} (h : lsv (fun k => isB (kd k)) s.1 n = 0) : bea kd n n s = s :=
  bea_skip (k := 0) n (Nat.zero_le _) (fun q _ b hh => lsv_none h q b hh)
