/-! small pure rows -/
theorem i_nlt {x y : Int32} : ¬ x < y ↔ y ≤ x := by simp only [Int32.lt_iff_toInt_lt, Int32.le_iff_toInt_le]; omega
theorem i_nle {x y : Int32} : ¬ x ≤ y ↔ y < x := by simp only [Int32.lt_iff_toInt_lt, Int32.le_iff_toInt_le]; omega
theorem vp_of {k : Int32} {N : Nat} (h : ¬ k < 0) (h2 : ¬ nI N ≤ k) (hN : N < 2 ^ 31) : vp_in k N := by
  rw [vp_in_iff]
  simp only [Int32.lt_iff_toInt_lt, Int32.le_iff_toInt_le, nI_toInt hN] at h h2
  have : (0 : Int32).toInt = 0 := rfl
  omega
/-- a row read, written, copied, looked at before -/
def atv (N : Nat) (f : Nat → Int32) (k : Int32) : Int32 := if k < 0 then 0 else if nI N ≤ k then 0 else f k.toNatClampNeg
def putv (N : Nat) (f : Nat → Int32) (k v : Int32) : Nat → Int32 := if k < 0 then f else if nI N ≤ k then f else upd f k.toNatClampNeg v
def cpv (n1 : Nat) (f1 : Nat → Int32) (n2 : Nat) (f2 : Nat → Int32) : Nat → Nat → Int32
  | 0 => f2
  | j + 1 => putv n2 (cpv n1 f1 n2 f2 j) (nI j) (atv n1 f1 (nI j))
def sumv (f : Nat → Int32) : Nat → Int32
  | 0 => 0
  | j + 1 => sumv f j + f j
def b2 (b : Bool) : Int32 := if b = true then 1 else 0
theorem b2_f {b : Bool} (h : b2 b = 0) : b = false := by cases b <;> first | rfl | exact absurd h (by decide)
theorem b2_t {b : Bool} (h : ¬ b2 b = 0) : b = true := by cases b <;> first | rfl | exact absurd rfl h
def noStage (y : Int32) : Bool := decide (y < 1) || !decide (y ≤ 6)
def noFood (f : Int32) : Bool := decide (f < 0) || !decide (f ≤ 40)
def noPeople (n : Nat) (x : Int32) : Bool := decide (x < 1) || !decide (x ≤ nI (2 ^ n - 1))
def noMarch (n : Nat) (x y f : Int32) : Bool := noPeople n x || (noStage y || noFood f)
def isOfv (o k : Int32) : Int32 := if k = 0 then 1 else if o = k then 1 else if k = 2 ∧ o = 4 then 1 else 0
def kindOfv (c : Int32) : Int32 := if c = 109 then 0 else if c = 112 then 1 else if c = 100 then 2 else if c = 98 then 3 else if c = 104 then 4 else -1
def nextSeedv (x : Int32) : Int32 := (1103515245 * x + 12345) &&& 2147483647
def bcv (x : Int32) : Int32 :=
  let t1 := x - ((x.toUInt32 >>> ((1 : Int32).toUInt32 &&& Int32.toUInt32 31)).toInt32 &&& 1431655765)
  let t2 := (t1 &&& 858993459) + ((t1.toUInt32 >>> ((2 : Int32).toUInt32 &&& Int32.toUInt32 31)).toInt32 &&& 858993459)
  let t3 := (t2 + (t2.toUInt32 >>> ((4 : Int32).toUInt32 &&& Int32.toUInt32 31)).toInt32) &&& 252645135
  let t4 := t3 + (t3.toUInt32 >>> ((8 : Int32).toUInt32 &&& Int32.toUInt32 31)).toInt32
  let t5 := t4 + (t4.toUInt32 >>> ((16 : Int32).toUInt32 &&& Int32.toUInt32 31)).toInt32
  t5 &&& 63
theorem atv_nI {N : Nat} {f : Nat → Int32} {j : Nat} (hj : j < N) (hN : N < 2 ^ 31) : atv N f (nI j) = f j := by
  unfold atv
  rw [if_neg (nI_pos (by omega)), if_neg (nI_ge hj hN), nI_clamp (by omega)]
theorem putv_nI {N : Nat} {f : Nat → Int32} {j : Nat} {v : Int32} (hj : j < N) (hN : N < 2 ^ 31) : putv N f (nI j) v = upd f j v := by
  unfold putv
  rw [if_neg (nI_pos (by omega)), if_neg (nI_ge hj hN), nI_clamp (by omega)]
theorem cpv_at {n1 n2 : Nat} {f1 f2 : Nat → Int32} (h1 : n1 < 2 ^ 31) (h2 : n2 < 2 ^ 31) : ∀ (j : Nat), j ≤ n1 → j ≤ n2 → ∀ k, cpv n1 f1 n2 f2 j k = if k < j then f1 k else f2 k
  | 0, _, _, k => by simp [cpv]
  | j + 1, ha, hb, k => by
    unfold cpv
    rw [putv_nI (by omega) h2, atv_nI (by omega) h1]
    unfold upd
    by_cases e : k = j
    · subst e; simp
    · rw [if_neg e, cpv_at h1 h2 j (by omega) (by omega) k]
      by_cases e2 : k < j
      · rw [if_pos e2, if_pos (by omega)]
      · rw [if_neg e2, if_neg (by omega)]
