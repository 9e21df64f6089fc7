/-! what is searched for, in whole numbers -/
def homeb (kd : Nat → Nat) (n x st : Nat) (c : Nat → Nat) (f : Nat) : Bool := decide ((marv kd n x st f c).2.2.2 = 0)
def ndv (P : Nat → Bool) : Nat → Nat → Int32
  | 0, _ => -1
  | k + 1, f => if P f = true then nI f else ndv P k (f + 1)
def needv (kd : Nat → Nat) (n x st : Nat) (c : Nat → Nat) : Int32 := ndv (homeb kd n x st c) 41 0
def frv (P : Nat → Bool) : Nat → Nat
  | 0 => 0
  | s + 1 => if P (s + 1) = true then s + 1 else frv P s
def farb (kd : Nat → Nat) (n x : Nat) (c : Nat → Nat) (st : Nat) : Bool := decide (x ≠ 0) && decide (needv kd n x st c ≠ -1)
def farv (kd : Nat → Nat) (n x : Nat) (c : Nat → Nat) : Nat := frv (farb kd n x c) 6
def deadv (x y : Int32) : Int32 := x &&& (y ^^^ (-1))
def pcn (x : Nat) : Nat := sumk (fun _ => 1) (fun _ => 0) x 10
def tmv (ok : Nat → Bool) : Nat → Nat × Nat
  | 0 => (0, 7)
  | s + 1 => if ok (s + 1) = true ∧ pcn (s + 1) < (tmv ok s).2 then (s + 1, pcn (s + 1)) else tmv ok s
def okb (kd : Nat → Nat) (n al st : Nat) (c : Nat → Nat) (x : Nat) : Bool := decide (deadv (nI x) (nI al) = 0) && decide (needv kd n x st c ≠ -1)
def noneI (b : Nat) : Int32 := if b = 0 then -1 else nI b
def teamv (kd : Nat → Nat) (n al st : Nat) (c : Nat → Nat) : Int32 := noneI (tmv (okb kd n al st c) (2 ^ n - 1)).1
def alls (S : Nat → Bool) : Nat → Bool
  | 0 => true
  | p + 1 => alls S p && S p
def lyv (P : Nat → Bool) : Nat → Nat
  | 0 => 0
  | v + 1 => lyv P v + (if P v = true then 2 ^ v else 0)
def sob (kd : Nat → Nat) (n : Nat) (hm hs hf hh : Nat → Nat) (c : Nat → Nat) (k : Nat) : Bool := homeb kd n (hm k) (hs k) c (hf k) == decide (hh k = 1)
/-- LAY at the cairn q (from 1) -/
def layv (kd : Nat → Nat) (n : Nat) (c : Nat → Nat) (hn : Nat) (hm hs hf hh : Nat → Nat) (q : Nat) : Nat := lyv (fun v => alls (sob kd n hm hs hf hh (upN c (q - 1) v)) hn) 10
def hcv (H : Nat → Bool) (bits : Nat) : Nat → Nat
  | 0 => 0
  | v + 1 => hcv H bits v + (if bt bits v = 1 ∧ H v = true then 1 else 0)
def wov (kd : Nat → Nat) (n : Nat) (c : Nat → Nat) (q bits f : Nat) : Nat := max (hcv (fun v => homeb kd n (2 ^ n - 1) 6 (upN c (q - 1) v) f) bits 10) (pcn bits - hcv (fun v => homeb kd n (2 ^ n - 1) 6 (upN c (q - 1) v) f) bits 10)
def trv (w : Nat → Nat) (l0 : Nat) : Nat → Int32 × Nat
  | 0 => (-1, l0)
  | f + 1 => if w f < (trv w l0 f).2 then (nI f, w f) else trv w l0 f
/-- TRY at the cairn q, of these amounts -/
def tryv (kd : Nat → Nat) (n : Nat) (c : Nat → Nat) (q bits : Nat) : Int32 := if bits = 0 then -1 else (trv (wov kd n c q bits) 11 41).1
def nxt (t : Nat) : Nat := (1103515245 * t + 12345) % 2147483648
def crn (t : Nat) : Nat := t / 65536 % 3
def crp : Nat → Nat × (Nat → Nat) → Nat × (Nat → Nat)
  | 0, z => z
  | k + 1, z => (nxt (crp k z).1, upN (crp k z).2 k ((crp k z).2 k - crn (nxt (crp k z).1)))
def crw : Nat → Nat × (Nat → Nat) → Nat × (Nat → Nat)
  | 0, z => z
  | k + 1, z => crp 5 (crw k z)
/-! rows of it -/
theorem home_cap {kd : Nat → Nat} {n x st f : Nat} {c : Nat → Nat} (h : sumk pls kd x n ≤ f) : homeb kd n x st c f = homeb kd n x st c (sumk pls kd x n) := by
  unfold homeb marv
  rw [Nat.min_eq_right h, Nat.min_self]
theorem ndv_none {P : Nat → Bool} : ∀ k f, (∀ j, f ≤ j → P j = false) → ndv P k f = -1
  | 0, _, _ => rfl
  | k + 1, f, h => by
    unfold ndv
    rw [if_neg (by rw [h f (Nat.le_refl _)]; decide)]
    exact ndv_none k (f + 1) (fun j hj => h j (by omega))
theorem ndv_cap {P : Nat → Bool} {m : Nat} (hm : m ≤ 40) (hP : ∀ f, m ≤ f → P f = P m) : ∀ k f, k + f = m + 1 → f ≤ m → ndv P k f = ndv P (41 - f) f
  | 0, f, h, h2 => by omega
  | k + 1, f, h, h2 => by
    rw [show 41 - f = (40 - f) + 1 by omega]
    unfold ndv
    by_cases e : P f = true
    · rw [if_pos e, if_pos e]
    · rw [if_neg e, if_neg e]
      by_cases e2 : f = m
      · have hk : k = 0 := by omega
        subst hk
        rw [ndv_none (40 - f) (f + 1) (fun j hj => by rw [hP j (by omega), ← e2]; simpa using e)]
        rfl
      · rw [ndv_cap hm hP k (f + 1) (by omega) (by omega), show 41 - (f + 1) = 40 - f by omega]
theorem need_cap {kd : Nat → Nat} {n x st : Nat} {c : Nat → Nat} : ndv (homeb kd n x st c) (min 40 (sumk pls kd x n) + 1) 0 = needv kd n x st c := by
  unfold needv
  by_cases h : sumk pls kd x n ≤ 40
  · rw [Nat.min_eq_right h]
    exact ndv_cap (P := homeb kd n x st c) h (fun f hf => home_cap hf) _ 0 rfl (Nat.zero_le _)
  · rw [Nat.min_eq_left (by omega)]
theorem bc_pcn : ∀ x, x < 1024 → bcv (nI x) = nI (pcn x) := by decide +kernel
theorem pcn_le (x : Nat) : pcn x ≤ 10 := by have := sumk_le (g := fun _ => 1) (kd := fun _ => 0) (x := x) (M := 1) (fun _ => Nat.le_refl _) 10; unfold pcn; omega
theorem or_bit : ∀ v, v < 10 → ∀ b, b < 2 ^ v → nI b ||| (1 <<< (nI v &&& 31)) = nI (b + 2 ^ v) := by decide +kernel
theorem lyv_lt (P : Nat → Bool) : ∀ v, lyv P v < 2 ^ v
  | 0 => Nat.one_pos
  | v + 1 => by
    have := lyv_lt P v
    unfold lyv
    rw [Nat.pow_succ]
    split <;> omega
theorem alls_f {S : Nat → Bool} {p : Nat} (h : alls S p = false) : ∀ k, alls S (p + k) = false
  | 0 => h
  | k + 1 => by
    show (alls S (p + k) && S (p + k)) = false
    rw [alls_f h k]; rfl
theorem hcv_le (H : Nat → Bool) (bits : Nat) : ∀ v, hcv H bits v ≤ sumk (fun _ => 1) (fun _ => 0) bits v
  | 0 => Nat.le_refl _
  | v + 1 => by
    have := hcv_le H bits v
    unfold hcv sumk
    by_cases e : bt bits v = 1 ∧ H v = true
    · rw [if_pos e, e.1]; omega
    · rw [if_neg e]; omega
theorem wov_le {kd : Nat → Nat} {n : Nat} {c : Nat → Nat} {q bits f : Nat} : wov kd n c q bits f ≤ pcn bits := by
  unfold wov
  have := hcv_le (fun v => homeb kd n (2 ^ n - 1) 6 (upN c (q - 1) v) f) bits 10
  unfold pcn at *
  omega
theorem wov_cap {kd : Nat → Nat} {n : Nat} {c : Nat → Nat} {q bits f : Nat} (h : sumk pls kd (2 ^ n - 1) n ≤ f) : wov kd n c q bits f = wov kd n c q bits (sumk pls kd (2 ^ n - 1) n) := by
  have : (fun v => homeb kd n (2 ^ n - 1) 6 (upN c (q - 1) v) f) = (fun v => homeb kd n (2 ^ n - 1) 6 (upN c (q - 1) v) (sumk pls kd (2 ^ n - 1) n)) := funext fun v => home_cap h
  unfold wov
  rw [this]
/-- the first trial is better than any start: both starts come to the same -/
theorem trv_start {w : Nat → Nat} {l l' : Nat} (h : w 0 < l) (h' : w 0 < l') : ∀ k, trv w l (k + 1) = trv w l' (k + 1)
  | 0 => by
    show (if w 0 < l then _ else _) = (if w 0 < l' then _ else _)
    rw [if_pos h, if_pos h']
  | k + 1 => by
    have e := trv_start h h' k
    show (if w (k + 1) < (trv w l (k + 1)).2 then _ else trv w l (k + 1)) = (if w (k + 1) < (trv w l' (k + 1)).2 then _ else trv w l' (k + 1))
    rw [e]
theorem trv_le {w : Nat → Nat} {l : Nat} : ∀ k f, f < k → (trv w l k).2 ≤ w f
  | 0, f, h => by omega
  | k + 1, f, h => by
    show (if w k < (trv w l k).2 then (nI k, w k) else trv w l k).2 ≤ w f
    by_cases e : w k < (trv w l k).2
    · rw [if_pos e]
      by_cases e2 : f = k
      · subst e2; exact Nat.le_refl _
      · have := trv_le (w := w) (l := l) k f (by omega)
        show w k ≤ w f
        omega
    · rw [if_neg e]
      by_cases e2 : f = k
      · subst e2; omega
      · exact trv_le k f (by omega)
theorem trv_cap {w : Nat → Nat} {l m : Nat} (hw : ∀ f, m ≤ f → w f = w m) : ∀ k, trv w l (m + 1 + k) = trv w l (m + 1)
  | 0 => rfl
  | k + 1 => by
    show (if w (m + 1 + k) < (trv w l (m + 1 + k)).2 then _ else trv w l (m + 1 + k)) = _
    rw [trv_cap hw k, hw (m + 1 + k) (by omega), if_neg (by have := trv_le (w := w) (l := l) (m + 1) m (by omega); omega)]
theorem try_cap {kd : Nat → Nat} {n : Nat} {c : Nat → Nat} {q bits : Nat} : (trv (wov kd n c q bits) (pcn bits + 1) (min 40 (sumk pls kd (2 ^ n - 1) n) + 1)).1 = (trv (wov kd n c q bits) 11 41).1 := by
  have h0 : wov kd n c q bits 0 ≤ pcn bits := wov_le
  have h1 := pcn_le bits
  rw [trv_start (l' := 11) (by omega) (by omega)]
  by_cases h : sumk pls kd (2 ^ n - 1) n ≤ 40
  · rw [Nat.min_eq_right h]
    have := trv_cap (w := wov kd n c q bits) (l := 11) (m := sumk pls kd (2 ^ n - 1) n) (fun f hf => wov_cap hf) (40 - sumk pls kd (2 ^ n - 1) n)
    rw [show sumk pls kd (2 ^ n - 1) n + 1 + (40 - sumk pls kd (2 ^ n - 1) n) = 41 by omega] at this
    rw [this]
  · rw [Nat.min_eq_left (by omega)]
theorem tmv_le (ok : Nat → Bool) : ∀ s, (tmv ok s).1 ≤ s
  | 0 => Nat.le_refl _
  | s + 1 => by
    unfold tmv
    by_cases e : ok (s + 1) = true ∧ pcn (s + 1) < (tmv ok s).2
    · rw [if_pos e]; exact Nat.le_refl _
    · rw [if_neg e]; have := tmv_le ok s; omega
theorem tmv_7 (ok : Nat → Bool) : ∀ s, (tmv ok s).2 ≤ 7
  | 0 => Nat.le_refl _
  | s + 1 => by
    unfold tmv
    have := tmv_7 ok s
    by_cases e : ok (s + 1) = true ∧ pcn (s + 1) < (tmv ok s).2
    · rw [if_pos e]; show pcn (s + 1) ≤ 7; omega
    · rw [if_neg e]; exact this
theorem nextSeed_nI {t : Nat} (ht : t < 2147483648) : nextSeedv (nI t) = nI (nxt t) := by
  unfold nextSeedv nxt
  rw [show (1103515245 : Int32) = nI 1103515245 from rfl, show (12345 : Int32) = nI 12345 from rfl, pk_mul, nI_add, pk_and _ (m := 2147483647) 31 (by decide)]
  have h1 : (nI (1103515245 * t + 12345)).toBitVec.toNat = (1103515245 * t + 12345) % 4294967296 := by
    show (BitVec.ofNat 32 (1103515245 * t + 12345)).toNat = _
    simp [BitVec.toNat_ofNat]
  rw [h1, show ∀ z : Nat, z % 4294967296 % 2 ^ 31 = z % 2147483648 from fun z => by omega]
theorem nxt_lt (t : Nat) : nxt t < 2147483648 := Nat.mod_lt _ (by decide)
theorem crn_lt (t : Nat) : crn t < 3 := Nat.mod_lt _ (by decide)
theorem max_sub : ∀ w, w < 10 → ∀ k, k < 3 → (if (0 : Int32) < nI w - nI k then nI w - nI k else 0) = nI (w - k) := by decide +kernel
