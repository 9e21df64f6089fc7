/-! the reference's object holds the state -/
def CNm (g : Nat → Nat) (i : Nat → Int32) : Prop := i 1 = nI (g 3) ∧ i 3 = nI (g 4) ∧ i 4 = nI (g 5) ∧ i 5 = nI (g 6) ∧ i 6 = nI (g 7) ∧ i 7 = nI (g 1) ∧ i 14 = nI (g 2) ∧ i 15 = nI (g 8) ∧ i 20 = nI (g 13) - 1
def CRm (z : SG) (r : Nat → Nat → Int32) : Prop := (∀ k, k < z.1 3 → r 0 k = z.2.2 k) ∧ (∀ k, k < z.1 4 → r 1 k = nI (z.2.1 1 k)) ∧ (∀ k, k < 5 → r 2 (k + 1) = nI (z.2.1 2 k)) ∧ (∀ k, k < z.1 8 → r 4 (4 * k) = nI (z.2.1 3 k) ∧ r 4 (4 * k + 1) = nI (z.2.1 4 k) ∧ r 4 (4 * k + 2) = nI (z.2.1 5 k) ∧ r 4 (4 * k + 3) = nI (z.2.1 6 k))
def CKm (z : SG) (i : Nat → Int32) (r : Nat → Nat → Int32) : Prop := z.1 0 = 1 → (i 21 = nI (z.1 9) ∧ i 22 = nI (z.1 10) ∧ i 23 = nI (z.1 11) ∧ i 24 = nI (z.1 12)) ∧ (∀ k, k < 5 → r 7 (k + 1) = nI (z.2.1 7 k)) ∧ (∀ k, k < z.1 12 → r 8 (4 * k) = nI (z.2.1 8 k) ∧ r 8 (4 * k + 1) = nI (z.2.1 9 k) ∧ r 8 (4 * k + 2) = nI (z.2.1 10 k) ∧ r 8 (4 * k + 3) = nI (z.2.1 11 k))
def Mdl (z : SG) (i : Nat → Int32) (r : Nat → Nat → Int32) : Prop := CNm z.1 i ∧ CRm z r ∧ CKm z i r
section MdlRows
variable {z : SG} {i i' : Nat → Int32} {r r' : Nat → Nat → Int32}
theorem Mdl.i1 (h : Mdl z i r) : i 1 = nI (z.1 3) := h.1.1
theorem Mdl.i3 (h : Mdl z i r) : i 3 = nI (z.1 4) := h.1.2.1
theorem Mdl.i4 (h : Mdl z i r) : i 4 = nI (z.1 5) := h.1.2.2.1
theorem Mdl.i5 (h : Mdl z i r) : i 5 = nI (z.1 6) := h.1.2.2.2.1
theorem Mdl.i6 (h : Mdl z i r) : i 6 = nI (z.1 7) := h.1.2.2.2.2.1
theorem Mdl.i7 (h : Mdl z i r) : i 7 = nI (z.1 1) := h.1.2.2.2.2.2.1
theorem Mdl.i14 (h : Mdl z i r) : i 14 = nI (z.1 2) := h.1.2.2.2.2.2.2.1
theorem Mdl.i15 (h : Mdl z i r) : i 15 = nI (z.1 8) := h.1.2.2.2.2.2.2.2.1
theorem Mdl.i20 (h : Mdl z i r) : i 20 = nI (z.1 13) - 1 := h.1.2.2.2.2.2.2.2.2
theorem Mdl.fr (h : Mdl z i r) (hi : ∀ k, k ≠ 2 → k ≠ 18 → (k < 10 ∨ 12 < k) → i' k = i k) (hr : ∀ k, k ≠ 3 → k ≠ 5 → k ≠ 6 → r' k = r k) : Mdl z i' r' := by
  obtain ⟨⟨h1, h3, h4, h5, h6, h7, h14, h15, h20⟩, ⟨p0, p1, p2, p3⟩, hk⟩ := h
  refine ⟨⟨?_, ?_, ?_, ?_, ?_, ?_, ?_, ?_, ?_⟩, ⟨?_, ?_, ?_, ?_⟩, ?_⟩
  · rw [hi 1 (by decide) (by decide) (by omega)]; exact h1
  · rw [hi 3 (by decide) (by decide) (by omega)]; exact h3
  · rw [hi 4 (by decide) (by decide) (by omega)]; exact h4
  · rw [hi 5 (by decide) (by decide) (by omega)]; exact h5
  · rw [hi 6 (by decide) (by decide) (by omega)]; exact h6
  · rw [hi 7 (by decide) (by decide) (by omega)]; exact h7
  · rw [hi 14 (by decide) (by decide) (by omega)]; exact h14
  · rw [hi 15 (by decide) (by decide) (by omega)]; exact h15
  · rw [hi 20 (by decide) (by decide) (by omega)]; exact h20
  · rw [hr 0 (by decide) (by decide) (by decide)]; exact p0
  · rw [hr 1 (by decide) (by decide) (by decide)]; exact p1
  · rw [hr 2 (by decide) (by decide) (by decide)]; exact p2
  · rw [hr 4 (by decide) (by decide) (by decide)]; exact p3
  · intro g
    rw [hi 21 (by decide) (by decide) (by omega), hi 22 (by decide) (by decide) (by omega), hi 23 (by decide) (by decide) (by omega), hi 24 (by decide) (by decide) (by omega), hr 7 (by decide) (by decide) (by decide), hr 8 (by decide) (by decide) (by decide)]
    exact hk g
theorem Mdl.sp (h : Mdl z i r) (hi : SPm i i') (hr : SQm r r') : Mdl z i' r' := h.fr (fun k _ _ hk => hi k hk) (fun k a b _ => hr k ⟨a, b⟩)
theorem Mdl.sr (h : Mdl z i r) (hi : SPm i i') (hr : SRm r r') : Mdl z i' r' := h.sp hi hr.q
theorem Mdl.e2 (h : Mdl z i r) (hi : E2 i i') : Mdl z i' r := h.fr (fun k a _ _ => hi k a) (fun _ _ _ _ => rfl)
theorem Mdl.pv (h : Mdl z i r) (v : VS z) : PVm i r (z.2.1 1) (z.1 4) := ⟨h.i3, v.2.2.2.1, fun k hk => ⟨h.2.1.2.1 k hk, v.2.2.2.2.2.2.1 k hk⟩⟩
theorem Mdl.c (h : Mdl z i r) (v : VS z) : ∀ k, k < 5 → r 2 (k + 1) = nI (z.2.1 2 k) ∧ z.2.1 2 k ≤ 9 := fun k hk => ⟨h.2.1.2.2.1 k hk, v.2.2.2.2.2.2.2.1 k hk⟩
theorem Mdl.f (h : Mdl z i r) {q : Nat} (h1 : 1 ≤ q) (h6 : q < 6) : r 2 q = nI (z.2.1 2 (q - 1)) := by
  have := h.2.1.2.2.1 (q - 1) (by omega)
  rw [show q - 1 + 1 = q by omega] at this
  exact this
theorem Mdl.hv (h : Mdl z i r) (v : VS z) : HVm i r (z.1 4) (z.1 8) (z.2.1 3) (z.2.1 4) (z.2.1 5) (z.2.1 6) := ⟨h.i15, v.2.2.2.2.2.1, fun k hk => by
  obtain ⟨a1, a2, a3, a4⟩ := h.2.1.2.2.2 k hk
  have B := v.2.2.2.2.2.2.2.2.1 k hk
  exact ⟨⟨a1, B.1⟩, ⟨a2, B.2.1, B.2.2.2.2⟩, ⟨a3, B.2.2.1⟩, a4, B.2.2.2.1⟩⟩
theorem ml_letter {x : Int32} (h : Mdl z i r) (h15 : z.1 3 < 15) : Mdl (upG z.1 3 (z.1 3 + 1), z.2.1, upd z.2.2 (z.1 3) x) (upd i 1 (i 1 + 1)) (va_up r 0 (upd (r 0) (i 1).toNatClampNeg x)) := by
  obtain ⟨⟨h1, h3, h4, h5, h6, h7, h14, h15', h20⟩, ⟨p0, p1, p2, p3⟩, hk⟩ := h
  refine ⟨⟨?_, h3, h4, h5, h6, h7, h14, h15', h20⟩, ⟨fun k hk => ?_, p1, p2, p3⟩, hk⟩
  · show i 1 + 1 = nI (z.1 3 + 1)
    rw [h1, nI_1]
  · show upd (r 0) (i 1).toNatClampNeg x k = upd z.2.2 (z.1 3) x k
    rw [h1, nI_clamp (by omega)]
    unfold upd
    by_cases e : k = z.1 3
    · rw [if_pos e, if_pos e]
    · rw [if_neg e, if_neg e]; exact p0 k (by have hk' : k < z.1 3 + 1 := hk; omega)
theorem ml_blank (h : Mdl z i r) : Mdl (blankF z).2 (upd i 1 0) r := by
  obtain ⟨⟨h1, h3, h4, h5, h6, h7, h14, h15', h20⟩, ⟨p0, p1, p2, p3⟩, hk⟩ := h
  exact ⟨⟨rfl, h3, h4, h5, h6, h7, h14, h15', h20⟩, ⟨fun k hk => absurd hk (Nat.not_lt_zero k), p1, p2, p3⟩, hk⟩
theorem ml_forget (h : Mdl z i r) : Mdl (forgetF z).2 (upd i 15 0) r := by
  obtain ⟨⟨h1, h3, h4, h5, h6, h7, h14, h15', h20⟩, ⟨p0, p1, p2, p3⟩, hk⟩ := h
  exact ⟨⟨h1, h3, h4, h5, h6, h7, h14, rfl, h20⟩, ⟨p0, p1, p2, fun k hk => absurd hk (Nat.not_lt_zero k)⟩, hk⟩
theorem ml_lay {q f : Nat} (h : Mdl z i r) (h1 : 1 ≤ q) (h6 : q < 6) : Mdl (z.1, va_up z.2.1 2 (upN (z.2.1 2) (q - 1) f), z.2.2) i (va_up r 2 (upd (r 2) q (nI f))) := by
  obtain ⟨hn, ⟨p0, p1, p2, p3⟩, hk⟩ := h
  refine ⟨hn, ⟨p0, p1, fun k hk => ?_, p3⟩, hk⟩
  show upd (r 2) q (nI f) (k + 1) = nI (upN (z.2.1 2) (q - 1) f k)
  unfold upd upN
  by_cases e : k = q - 1
  · rw [if_pos (by omega), if_pos e]
  · rw [if_neg (by omega), if_neg e]; exact p2 k hk
theorem ml_team (h : Mdl z i r) : Mdl (upG z.1 2 (z.1 2 + 1), z.2) (upd i 14 (i 14 + 1)) r := by
  obtain ⟨⟨h1, h3, h4, h5, h6, h7, h14, h15', h20⟩, ⟨p0, p1, p2, p3⟩, hk⟩ := h
  refine ⟨⟨h1, h3, h4, h5, h6, h7, ?_, h15', h20⟩, ⟨p0, p1, p2, p3⟩, hk⟩
  show i 14 + 1 = nI (z.1 2 + 1)
  rw [h14, nI_1]
theorem ml_march {x b a7 : Nat} {c : Nat → Nat} {v4 v6 : Int32} (h : Mdl z i r) (h4' : v4 = nI (alv (z.1 5) x b)) (h6' : v6 = nI (z.1 7 + a7)) {r2 : Nat → Int32} (hc : ∀ k, k < 5 → r2 (k + 1) = nI (c k)) :
    Mdl (upG (upG (upG z.1 5 (alv (z.1 5) x b)) 6 (z.1 6 + 1)) 7 (z.1 7 + a7), va_up z.2.1 2 c, z.2.2) (upd (upd (upd i 4 v4) 5 (i 5 + 1)) 6 v6) (va_up r 2 r2) := by
  obtain ⟨⟨h1, h3, h4, h5, h6, h7, h14, h15', h20⟩, ⟨p0, p1, p2, p3⟩, hk⟩ := h
  refine ⟨⟨h1, h3, h4', ?_, h6', h7, h14, h15', h20⟩, ⟨p0, p1, hc, p3⟩, hk⟩
  show i 5 + 1 = nI (z.1 6 + 1)
  rw [h5, nI_1]
end MdlRows
theorem nor_dec {p q : Prop} [Decidable p] [Decidable q] : (decide p || !decide q) = decide (p ∨ ¬ q) := by by_cases hp : p <;> by_cases hq : q <;> simp [hp, hq]
theorem inl_126 {x : Int32} : inb x.toInt64 1 126 = !decide (x < 1 ∨ ¬ x ≤ 126) := by
  rw [show (1 : Int64) = (1 : Int32).toInt64 by decide, show (126 : Int64) = (126 : Int32).toInt64 by decide, inb_o, nor_dec]
theorem inl_9 {x : Int32} : inb x.toInt64 0 9 = !decide (x < 0 ∨ ¬ x ≤ 9) := by
  rw [show (0 : Int64) = (0 : Int32).toInt64 by decide, show (9 : Int64) = (9 : Int32).toInt64 by decide, inb_o, nor_dec]
theorem inl_3 {x : Int32} : inb x.toInt64 0 3 = !decide (x < 0 ∨ ¬ x ≤ 3) := by
  rw [show (0 : Int64) = (0 : Int32).toInt64 by decide, show (3 : Int64) = (3 : Int32).toInt64 by decide, inb_o, nor_dec]
theorem inl_2 {x : Int32} : inb x.toInt64 0 2 = !decide (x < 0 ∨ ¬ x ≤ 2) := by
  rw [show (0 : Int64) = (0 : Int32).toInt64 by decide, show (2 : Int64) = (2 : Int32).toInt64 by decide, inb_o, nor_dec]
theorem inl_20 {x : Int32} : inb x.toInt64 1 20 = !decide (x < 1 ∨ ¬ x ≤ 20) := by
  rw [show (1 : Int64) = (1 : Int32).toInt64 by decide, show (20 : Int64) = (20 : Int32).toInt64 by decide, inb_o, nor_dec]
theorem inl_4 {x : Int32} : inb x.toInt64 0 4 = !decide (x < 0 ∨ ¬ x < 5) := by
  rw [show (0 : Int64) = (0 : Int32).toInt64 by decide, show (4 : Int64) = (4 : Int32).toInt64 by decide, inb_o]
  have : (x < 0 ∨ ¬ x ≤ 4) = (x < 0 ∨ ¬ x < 5) := propext (by
    simp only [Int32.lt_iff_toInt_lt, Int32.le_iff_toInt_le, show (4 : Int32).toInt = 4 from rfl, show (5 : Int32).toInt = 5 from rfl]
    omega)
  simp only [nor_dec, this]
theorem inl_t {p : Prop} [Decidable p] (h : b2 (!decide p) = 0) : p := of_decide_eq_true (b2n_t h)
theorem inl_f {p : Prop} [Decidable p] (h : ¬ b2 (!decide p) = 0) : ¬ p := of_decide_eq_false (b2n_f h)
