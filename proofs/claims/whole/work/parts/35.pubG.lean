theorem lkl {x y : Int64} (h : x = y) : some (Value.long x) = some (.long y) := by rw [h]
theorem sayM_s (z : SG) (m : Nat) (h : Int64) (k : Nat) : sayM z m h (k + 1) = 31 * sayM z m h k + (tellF z m (nI k)).toInt64 := rfl
theorem sayMs_s (z : SG) (h : Int64) (m : Nat) : sayMs z h (m + 1) = sayM z m (sayMs z h m) 5 := rfl
theorem sayC_s (z : SG) (h : Int64) (q : Nat) : sayC z h (q + 1) = 31 * (31 * sayC z h q + (nI (z.2.1 2 q)).toInt64) + (nI (layS z (q + 1))).toInt64 := rfl
theorem sayW_s (z : SG) (h : Int64) (k : Nat) : sayW z h (k + 1) = 31 * sayW z h k + (tellM (marS z (z.1 5) 5 12) (nI k)).toInt64 := rfl
theorem sayP_s (z : SG) (h : Int64) (k : Nat) : sayP z h (k + 1) = 31 * sayP z h k + (z.2.2 k).toInt64 := rfl
theorem sayN_s (z : SG) (h : Int64) (k : Nat) : sayN z h (k + 1) = 31 * sayN z h k + (nI (countN z k)).toInt64 := rfl
theorem sayCs_0 {z : SG} {h : Int64} (e : z.1 4 = 0) : sayCs z h = h := if_pos e
theorem sayCs_1 {z : SG} {h : Int64} (e : z.1 4 ≠ 0) : sayCs z h = 31 * sayC z h 5 + (tryS z 3).toInt64 := if_neg e
theorem sayL_0 {z : SG} {h : Int64} (e : z.1 5 = 0) : sayL z h = h := if_pos e
theorem sayL_1 {z : SG} {h : Int64} (e : z.1 5 ≠ 0) : sayL z h = sayW z (31 * (31 * (31 * h + (nI (farv (z.2.1 1) (z.1 4) (z.1 5) (z.2.1 2))).toInt64) + (needv (z.2.1 1) (z.1 4) (z.1 5) 1 (z.2.1 2)).toInt64) + (needv (z.2.1 1) (z.1 4) (z.1 5) 4 (z.2.1 2)).toInt64) 4 := if_neg e
theorem dead_self : ∀ x, x < 64 → deadv (nI x) (nI x) = 0 := by decide +kernel
theorem noP {n x : Nat} (hn : n ≤ 6) (h0 : x ≠ 0) (hx : x < 2 ^ n) : noPeople n (nI x) = false := by
  have hp := pow_le6 hn
  unfold noPeople
  have e1 : ¬ nI x < 1 := nI_nlt (b := 1) (by omega) (by omega)
  have e2 : nI x ≤ nI (2 ^ n - 1) := nI_le (by omega) (by omega)
  simp [e1, e2]
theorem would_in {z : SG} (v : VS z) (h0 : z.1 5 ≠ 0) {k : Nat} (hk : k < 4) : wouldF z (nI (z.1 5)) 5 12 (nI k) = tellM (marS z (z.1 5) 5 12) (nI k) := by
  have v5 := v.2.2.2.2.1
  have v4 := v.2.2.2.1
  have hp := pow_le6 v4
  have h1 : ¬ (noMarch (z.1 4) (nI (z.1 5)) 5 12 = true ∨ nI k < 0 ∨ ¬ nI k ≤ 3) := by
    rintro (h | h | h)
    · unfold noMarch at h
      rw [noP v4 h0 v5] at h
      exact absurd h (by decide)
    · exact nI_pos (by omega) h
    · exact h (nI_le (b := 3) (by omega) (by decide))
  have h2 : ¬ deadv (nI (z.1 5)) (nI (z.1 5)) ≠ 0 := fun h => h (dead_self _ (by omega))
  rw [show wouldF z (nI (z.1 5)) 5 12 (nI k) = tellM (marS z (tn (nI (z.1 5))) (tn 5) (tn 12)) (nI k) from (if_neg h1).trans (if_neg h2), tn_nI (by omega), show tn 5 = 5 by decide, show tn 12 = 12 by decide]
theorem count_in {z : SG} {k : Nat} (hk : k < 11) : countF z (nI k) = nI (countN z k) := by
  have h1 : ¬ (nI k < 0 ∨ ¬ nI k ≤ 10) := by
    rintro (h | h)
    · exact nI_pos (by omega) h
    · exact h (nI_le (b := 10) (by omega) (by decide))
  rw [show countF z (nI k) = nI (countN z (tn (nI k))) from if_neg h1, tn_nI (by omega)]
