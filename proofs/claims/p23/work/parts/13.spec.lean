/-! what a march is, in whole numbers -/
def bt (a k : Nat) : Nat := a / 2 ^ k % 2
def pls : Nat → Nat | 0 => 4 | 1 => 8 | 2 => 2 | 3 => 2 | _ => 3
def ets : Nat → Nat | 1 => 2 | _ => 1
def fds : Nat → Nat | 1 => 6 | 2 => 2 | 4 => 3 | _ => 0
def sumk (g kd : Nat → Nat) (x : Nat) : Nat → Nat
  | 0 => 0
  | k + 1 => sumk g kd x k + bt x k * g (kd k)
def dev (kd : Nat → Nat) (n k : Nat) (s : Nat × Nat) : Nat × Nat := if bt s.1 k = 1 then (s.1 - 2 ^ k, min (s.2 + fds (kd k)) (sumk pls kd (s.1 - 2 ^ k) n)) else s
def isB (t : Nat) : Bool := t == 1 || t == 2 || t == 4
def pon (kd : Nat → Nat) (n : Nat) : Nat → Nat × Nat → Nat × Nat
  | 0, s => s
  | k + 1, s => pon kd n k (if kd k = 1 then dev kd n k s else s)
def bea (kd : Nat → Nat) (n : Nat) : Nat → Nat × Nat → Nat × Nat
  | 0, s => s
  | k + 1, s => if s.2 < sumk ets kd s.1 n then bea kd n k (if isB (kd k) = true then dev kd n k s else s) else s
def upN (f : Nat → Nat) (k x : Nat) : Nat → Nat := fun j => if j = k then x else f j
/-- who lives, the food, what lies at the cairns, where they died -/
abbrev MS : Type := Nat × Nat × (Nat → Nat) × Nat
def outv (kd : Nat → Nat) (n st j : Nat) (s : Nat × Nat) : Nat × Nat := bea kd n n (if j ≤ st ∧ 3 ≤ j - 1 then pon kd n n s else s)
def takev (kd : Nat → Nat) (n q : Nat) (s : Nat × Nat) (c : Nat → Nat) : Nat × (Nat → Nat) :=
  if q = 0 then (s.2, c) else (s.2 + min (c (q - 1)) (sumk pls kd s.1 n - s.2), upN c (q - 1) (c (q - 1) - min (c (q - 1)) (sumk pls kd s.1 n - s.2)))
def legv (kd : Nat → Nat) (n st j : Nat) (z : MS) : MS :=
  let s := outv kd n st j (z.1, z.2.1)
  if s.1 = 0 ∨ s.2 < sumk ets kd s.1 n then (0, 0, z.2.2.1, j)
  else if j ≤ st then (s.1, s.2 - sumk ets kd s.1 n, z.2.2.1, 0)
  else let t := takev kd n (2 * st - j) (s.1, s.2 - sumk ets kd s.1 n) z.2.2.1
    (s.1, t.1, t.2, 0)
def runv (kd : Nat → Nat) (n st : Nat) : Nat → MS → MS
  | 0, z => z
  | j + 1, z => if (runv kd n st j z).2.2.2 = 0 then legv kd n st (j + 1) (runv kd n st j z) else runv kd n st j z
def marv (kd : Nat → Nat) (n x st f : Nat) (c : Nat → Nat) : MS := runv kd n st (2 * st) (x, min f (sumk pls kd x n), c, 0)
/-! rows of it -/
theorem bt_lt (x k : Nat) : bt x k < 2 := Nat.mod_lt _ (by decide)
theorem bt_01 (x k : Nat) : bt x k = 0 ∨ bt x k = 1 := by have := bt_lt x k; omega
theorem pls_le (t : Nat) : pls t ≤ 8 := by unfold pls; split <;> decide
theorem ets_le (t : Nat) : ets t ≤ 2 := by unfold ets; split <;> decide
theorem ets_pos (t : Nat) : 1 ≤ ets t := by unfold ets; split <;> decide
theorem fds_le (t : Nat) : fds t ≤ 6 := by unfold fds; split <;> decide
theorem sumk_le {g kd : Nat → Nat} {x M : Nat} (h : ∀ t, g t ≤ M) : ∀ k, sumk g kd x k ≤ M * k
  | 0 => Nat.zero_le _
  | k + 1 => by
    unfold sumk
    have h1 := sumk_le (kd := kd) (x := x) h k
    have h2 := h (kd k)
    rcases bt_01 x k with e | e
    · rw [e, Nat.zero_mul]; rw [Nat.mul_succ]; omega
    · rw [e, Nat.one_mul]; rw [Nat.mul_succ]; omega
theorem pl_le {kd : Nat → Nat} {x n : Nat} (h : n ≤ 6) : sumk pls kd x n ≤ 48 := by have := sumk_le (kd := kd) (x := x) pls_le n; omega
theorem et_le {kd : Nat → Nat} {x n : Nat} (h : n ≤ 6) : sumk ets kd x n ≤ 12 := by have := sumk_le (kd := kd) (x := x) ets_le n; omega
theorem smod32 : ∀ k, k < 32 → ((nI k &&& 31).toBitVec.smod 32).toNat = k := by decide +kernel
theorem shr_bt {x k : Nat} (hk : k < 32) (hx : x < 2 ^ 31) : (nI x >>> (nI k &&& 31)) &&& 1 = nI (bt x k) := by
  rw [pk_shrN hx _ k (smod32 k hk)]
  exact pk_andN (Nat.lt_of_le_of_lt (Nat.div_le_self _ _) (by omega)) (m := 1) 1 (by decide)
theorem bt_sub : ∀ x, x < 64 → ∀ k, k < 6 → ∀ j, j < 6 → bt x k = 1 → bt (x - 2 ^ k) j = if j = k then 0 else bt x j := by decide +kernel
theorem bit_le : ∀ x, x < 64 → ∀ k, k < 6 → bt x k = 1 → 2 ^ k ≤ x := by decide +kernel
theorem and_not : ∀ x, x < 64 → ∀ k, k < 6 → bt x k = 1 → nI x &&& ((1 <<< (nI k &&& 31)) ^^^ (-1)) = nI (x - 2 ^ k) := by decide +kernel
theorem sub_bit : ∀ x, x < 64 → ∀ k, k < 6 → bt x k = 1 → nI x - (1 <<< (nI k &&& 31)) = nI (x - 2 ^ k) := by decide +kernel
theorem one_shl : ∀ n, n ≤ 6 → (1 <<< (nI n &&& 31)) - 1 = nI (2 ^ n - 1) := by decide +kernel
theorem sumk_same {g kd : Nat → Nat} {x y : Nat} : ∀ k, (∀ j, j < k → bt x j = bt y j) → sumk g kd x k = sumk g kd y k
  | 0, _ => rfl
  | k + 1, h => by unfold sumk; rw [sumk_same k (fun j hj => h j (by omega)), h k (by omega)]
theorem sumk_sub {g kd : Nat → Nat} {x k : Nat} (hx : x < 64) (hk : k < 6) (hb : bt x k = 1) : ∀ n, n ≤ 6 → k < n → sumk g kd (x - 2 ^ k) n + g (kd k) = sumk g kd x n
  | 0, _, h => absurd h (by omega)
  | n + 1, hn, hkn => by
    unfold sumk
    by_cases e : k = n
    · subst e
      rw [bt_sub x hx k hk k hk hb, if_pos rfl, hb, sumk_same (y := x) k (fun j hj => by rw [bt_sub x hx k hk j (by omega) hb, if_neg (by omega)])]
      omega
    · have h := sumk_sub (g := g) (kd := kd) hx hk hb n (by omega) (by omega)
      rw [bt_sub x hx k hk n (by omega) hb, if_neg (by omega)]
      omega
theorem pow_le6 {n : Nat} (h : n ≤ 6) : 2 ^ n ≤ 64 := Nat.pow_le_pow_right (by decide) h
theorem pullsV_nI : ∀ t, t ≤ 4 → pullsV t = nI (pls t) := by decide +kernel
theorem eatsV_nI : ∀ t, t ≤ 4 → eatsV t = nI (ets t) := by decide +kernel
theorem feedsV_nI : ∀ t, t ≤ 4 → feedsV t = nI (fds t) := by decide +kernel
theorem atv_tab {f : Nat → Int32} {t : Nat} (ht : t ≤ 4) : atv 5 f (nI t) = f t := atv_nI (by omega) (by decide)
/-! states: the party of n members of the kinds kd; x of them live, with the food f -/
def PV (i : Nat → Int32) (r : Nat → Nat → Int32) (kd : Nat → Nat) (n : Nat) : Prop := i 4 = nI n ∧ n ≤ 6 ∧ ∀ k, k < n → r 1 k = nI (kd k) ∧ kd k ≤ 4
def PS (i : Nat → Int32) (kd : Nat → Nat) (n x f : Nat) : Prop := i 5 = nI x ∧ i 6 = nI f ∧ i 7 = nI (sumk pls kd x n) ∧ i 8 = nI (sumk ets kd x n)
def OK (kd : Nat → Nat) (n x f : Nat) : Prop := x < 2 ^ n ∧ f ≤ sumk pls kd x n
def SP (i i' : Nat → Int32) : Prop := ∀ k, k < 5 ∨ 9 < k → i' k = i k
def SR (r r' : Nat → Nat → Int32) : Prop := ∀ k, k ≠ 2 → r' k = r k
theorem SP.rf {i : Nat → Int32} : SP i i := fun _ _ => rfl
theorem SP.tr {i j k : Nat → Int32} (h : SP i j) (h2 : SP j k) : SP i k := fun q hq => (h2 q hq).trans (h q hq)
theorem SP.up {i j : Nat → Int32} (h : SP i j) {k : Nat} {v : Int32} (hk : 5 ≤ k ∧ k ≤ 9) : SP i (upd j k v) := fun q hq => by unfold upd; rw [if_neg (by omega)]; exact h q hq
theorem SR.rf {r : Nat → Nat → Int32} : SR r r := fun _ _ => rfl
theorem SR.tr {i j k : Nat → Nat → Int32} (h : SR i j) (h2 : SR j k) : SR i k := fun q hq => (h2 q hq).trans (h q hq)
theorem SR.up {i j : Nat → Nat → Int32} (h : SR i j) {v : Nat → Int32} : SR i (va_up j 2 v) := fun q hq => by unfold va_up; rw [if_neg hq]; exact h q hq
theorem PV.sp {i i' : Nat → Int32} {r r' : Nat → Nat → Int32} {kd : Nat → Nat} {n : Nat} (h : PV i r kd n) (hi : SP i i') (hr : SR r r') : PV i' r' kd n := ⟨(hi 4 (by omega)).trans h.1, h.2.1, fun k hk => by rw [hr 1 (by omega)]; exact h.2.2 k hk⟩
theorem upd_s {f : Nat → Int32} {k : Nat} {v : Int32} : upd f k v k = v := by simp [upd]
theorem upd_n {f : Nat → Int32} {k j : Nat} {v : Int32} (h : j ≠ k) : upd f k v j = f j := by simp [upd, h]
theorem vup_s {α : Type} {f : Nat → α} {k : Nat} {v : α} : va_up f k v k = v := by simp [va_up]
theorem vup_n {α : Type} {f : Nat → α} {k j : Nat} {v : α} (h : j ≠ k) : va_up f k v j = f j := by simp [va_up, h]
theorem dev_ok {kd : Nat → Nat} {n k : Nat} {s : Nat × Nat} (hn : n ≤ 6) (hk : k < n) (h : OK kd n s.1 s.2) : OK kd n (dev kd n k s).1 (dev kd n k s).2 := by
  unfold dev
  by_cases hb : bt s.1 k = 1
  · rw [if_pos hb]
    exact ⟨Nat.lt_of_le_of_lt (Nat.sub_le _ _) h.1, Nat.min_le_right _ _⟩
  · rw [if_neg hb]; exact h
theorem pon_ok {kd : Nat → Nat} {n : Nat} (hn : n ≤ 6) : ∀ (k : Nat) (s : Nat × Nat), k ≤ n → OK kd n s.1 s.2 → OK kd n (pon kd n k s).1 (pon kd n k s).2
  | 0, s, _, h => h
  | k + 1, s, hk, h => by
    unfold pon
    by_cases e : kd k = 1
    · rw [if_pos e]; exact pon_ok hn k _ (by omega) (dev_ok hn (by omega) h)
    · rw [if_neg e]; exact pon_ok hn k _ (by omega) h
theorem bea_ok {kd : Nat → Nat} {n : Nat} (hn : n ≤ 6) : ∀ (k : Nat) (s : Nat × Nat), k ≤ n → OK kd n s.1 s.2 → OK kd n (bea kd n k s).1 (bea kd n k s).2
  | 0, s, _, h => h
  | k + 1, s, hk, h => by
    unfold bea
    by_cases e0 : s.2 < sumk ets kd s.1 n
    · rw [if_pos e0]
      by_cases e : isB (kd k) = true
      · rw [if_pos e]; exact bea_ok hn k _ (by omega) (dev_ok hn (by omega) h)
      · rw [if_neg e]; exact bea_ok hn k _ (by omega) h
    · rw [if_neg e0]; exact h
theorem outv_ok {kd : Nat → Nat} {n st j : Nat} {s : Nat × Nat} (hn : n ≤ 6) (h : OK kd n s.1 s.2) : OK kd n (outv kd n st j s).1 (outv kd n st j s).2 := by
  unfold outv
  by_cases e : j ≤ st ∧ 3 ≤ j - 1
  · rw [if_pos e]; exact bea_ok hn n _ (Nat.le_refl _) (pon_ok hn n _ (Nat.le_refl _) h)
  · rw [if_neg e]; exact bea_ok hn n _ (Nat.le_refl _) h
theorem takev_ok {kd : Nat → Nat} {n q : Nat} {s : Nat × Nat} {c : Nat → Nat} (h : OK kd n s.1 s.2) (hc : ∀ k, k < 5 → c k ≤ 9) : OK kd n s.1 (takev kd n q s c).1 ∧ ∀ k, k < 5 → (takev kd n q s c).2 k ≤ 9 := by
  unfold takev
  by_cases e : q = 0
  · rw [if_pos e]; exact ⟨h, hc⟩
  · rw [if_neg e]
    refine ⟨⟨h.1, ?_⟩, fun k hk => ?_⟩
    · have h2 := h.2
      have h3 := Nat.min_le_right (c (q - 1)) (sumk pls kd s.1 n - s.2)
      show s.2 + min (c (q - 1)) (sumk pls kd s.1 n - s.2) ≤ sumk pls kd s.1 n
      omega
    · show upN c (q - 1) _ k ≤ 9
      unfold upN
      by_cases e2 : k = q - 1
      · rw [if_pos e2]; exact Nat.le_trans (Nat.sub_le _ _) (hc _ (by omega))
      · rw [if_neg e2]; exact hc k hk
def MOK (kd : Nat → Nat) (n : Nat) (z : MS) : Prop := OK kd n z.1 z.2.1 ∧ (∀ k, k < 5 → z.2.2.1 k ≤ 9) ∧ (z.2.2.2 = 0 ∨ (z.1 = 0 ∧ z.2.1 = 0))
theorem ok_0 {kd : Nat → Nat} {n : Nat} : OK kd n 0 0 := ⟨Nat.pow_pos (by decide), Nat.zero_le _⟩
theorem legv_ok {kd : Nat → Nat} {n st j : Nat} {z : MS} (hn : n ≤ 6) (h : MOK kd n z) : MOK kd n (legv kd n st j z) := by
  unfold legv
  have h1 := outv_ok (st := st) (j := j) (s := (z.1, z.2.1)) hn h.1
  generalize outv kd n st j (z.1, z.2.1) = s at h1 ⊢
  dsimp only
  by_cases e : s.1 = 0 ∨ s.2 < sumk ets kd s.1 n
  · rw [if_pos e]; exact ⟨ok_0, h.2.1, Or.inr ⟨rfl, rfl⟩⟩
  · rw [if_neg e]
    have h2 : OK kd n s.1 (s.2 - sumk ets kd s.1 n) := ⟨h1.1, Nat.le_trans (Nat.sub_le _ _) h1.2⟩
    by_cases e2 : j ≤ st
    · rw [if_pos e2]; exact ⟨h2, h.2.1, Or.inl rfl⟩
    · rw [if_neg e2]
      obtain ⟨g1, g2⟩ := takev_ok (q := 2 * st - j) (s := (s.1, s.2 - sumk ets kd s.1 n)) h2 h.2.1
      exact ⟨g1, g2, Or.inl rfl⟩
theorem runv_ok {kd : Nat → Nat} {n st : Nat} (hn : n ≤ 6) : ∀ (j : Nat) (z : MS), MOK kd n z → MOK kd n (runv kd n st j z)
  | 0, z, h => h
  | j + 1, z, h => by
    unfold runv
    have := runv_ok (st := st) hn j z h
    by_cases e : (runv kd n st j z).2.2.2 = 0
    · rw [if_pos e]; exact legv_ok hn this
    · rw [if_neg e]; exact this
theorem runv_dead {kd : Nat → Nat} {n st : Nat} {z : MS} {j : Nat} (h : (runv kd n st j z).2.2.2 ≠ 0) : ∀ i, runv kd n st (j + i) z = runv kd n st j z
  | 0 => rfl
  | i + 1 => by
    have h2 := runv_dead h i
    show (if (runv kd n st (j + i) z).2.2.2 = 0 then _ else runv kd n st (j + i) z) = _
    rw [if_neg (by rw [h2]; exact h)]
    exact h2
/-- who dies has nobody living; who lives, somebody -/
theorem legv_alive {kd : Nat → Nat} {n st j : Nat} {z : MS} (hj : j ≠ 0) : ((legv kd n st j z).2.2.2 = 0 ↔ (legv kd n st j z).1 ≠ 0) := by
  unfold legv
  generalize outv kd n st j (z.1, z.2.1) = s
  dsimp only
  by_cases e : s.1 = 0 ∨ s.2 < sumk ets kd s.1 n
  · rw [if_pos e]; simp [hj]
  · rw [if_neg e]
    have : s.1 ≠ 0 := fun h => e (Or.inl h)
    by_cases e2 : j ≤ st
    · rw [if_pos e2]; simp [this]
    · rw [if_neg e2]; simp [this]
theorem runv_alive {kd : Nat → Nat} {n st : Nat} {z : MS} (hz : z.2.2.2 = 0 ↔ z.1 ≠ 0) : ∀ j, ((runv kd n st j z).2.2.2 = 0 ↔ (runv kd n st j z).1 ≠ 0)
  | 0 => hz
  | j + 1 => by
    unfold runv
    by_cases e : (runv kd n st j z).2.2.2 = 0
    · rw [if_pos e]; exact legv_alive (by omega)
    · rw [if_neg e]; exact runv_alive hz j
