/-! the law's small rows -/
theorem lkl {x y : Int64} (h : x = y) : some (Value.long x) = some (.long y) := by rw [h]
theorem le4 {t : Nat} (h : t ≤ 4) : t = 0 ∨ t = 1 ∨ t = 2 ∨ t = 3 ∨ t = 4 := by omega
/-- b: who the members are -/
def BV (f : Nat → Int32) (kd : Nat → Nat) (n : Nat) : Prop := f 0 = nI n ∧ n ≤ 6 ∧ ∀ k, k < n → f (k + 1) = nI (kd k) ∧ kd k ≤ 4
/-- d: what lies at the cairns -/
def DV (f : Nat → Int32) (c : Nat → Nat) : Prop := ∀ k, k < 5 → f (k + 1) = nI (c k) ∧ c k ≤ 9
def inv (x k : Nat) : Bool := decide (bt x k = 1)
theorem ushr_rem (x : Int32) {m : Nat} (h0 : 0 < m) (hm : m < 2 ^ 31) : ∃ k, k < m ∧ ((x).toUInt32 >>> ((nI 1 : Int32).toUInt32 &&& Int32.toUInt32 31)).toInt32 - ((x).toUInt32 >>> ((nI 1 : Int32).toUInt32 &&& Int32.toUInt32 31)).toInt32 / nI m * nI m = nI k := by
  have h1 := pk_ushr x (nI 1) 1 (by decide)
  have h2 : ((x).toUInt32 >>> ((nI 1 : Int32).toUInt32 &&& Int32.toUInt32 31)).toInt32 = nI (x.toBitVec.toNat / 2 ^ 1) := by
    apply Int32.toBitVec_inj.mp
    apply BitVec.eq_of_toNat_eq
    rw [h1]
    have h3 := x.toBitVec.isLt
    show _ = (BitVec.ofNat 32 _).toNat
    rw [BitVec.toNat_ofNat]
    omega
  have h3 := x.toBitVec.isLt
  rw [h2, pk_rem (by omega) h0 hm]
  exact ⟨_, Nat.mod_lt _ h0, rfl⟩
