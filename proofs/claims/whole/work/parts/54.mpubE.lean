def hrow (f : Nat → Int32) (k : Nat) (x y fo h : Int32) : Nat → Int32 := upd (upd (upd (upd f (4 * k) x) (4 * k + 1) y) (4 * k + 2) fo) (4 * k + 3) h
theorem hrow_o {f : Nat → Int32} {k j : Nat} {x y fo h : Int32} (hj : j < 4 * k) : hrow f k x y fo h j = f j := by
  unfold hrow upd
  rw [if_neg (by omega), if_neg (by omega), if_neg (by omega), if_neg (by omega)]
theorem hrow_n {f : Nat → Int32} {k : Nat} {x y fo h : Int32} : hrow f k x y fo h (4 * k) = x ∧ hrow f k x y fo h (4 * k + 1) = y ∧ hrow f k x y fo h (4 * k + 2) = fo ∧ hrow f k x y fo h (4 * k + 3) = h := by
  unfold hrow upd
  refine ⟨?_, ?_, ?_, ?_⟩
  · rw [if_neg (by omega), if_neg (by omega), if_neg (by omega), if_pos rfl]
  · rw [if_neg (by omega), if_neg (by omega), if_pos rfl]
  · rw [if_neg (by omega), if_pos rfl]
  · rw [if_pos rfl]
section
variable {z : SG} {i i' : Nat → Int32} {r r' : Nat → Nat → Int32}
theorem ml_hear {x y f hn : Nat} {w : Int32} (h : Mdl z i r) (hw : w = nI hn) (h4 : r' 4 = hrow (r 4) (z.1 8) (nI x) (nI y) (nI f) w) (hr : ∀ k, k ≠ 4 → r' k = r k) : Mdl (upG z.1 8 (z.1 8 + 1), hearW z x y f hn, z.2.2) (upd i 15 (i 15 + 1)) r' := by
  obtain ⟨⟨h1, h3, h4', h5, h6, h7, h14, h15', h20⟩, ⟨p0, p1, p2, p3⟩, hk⟩ := h
  refine ⟨⟨h1, h3, h4', h5, h6, h7, h14, ?_, h20⟩, ⟨?_, ?_, ?_, fun k hk => ?_⟩, ?_⟩
  · show i 15 + 1 = nI (z.1 8 + 1)
    rw [h15', nI_1]
  · rw [hr 0 (by decide)]; exact p0
  · rw [hr 1 (by decide)]; exact p1
  · rw [hr 2 (by decide)]; exact p2
  · show r' 4 (4 * k) = nI (upN (z.2.1 3) (z.1 8) x k) ∧ r' 4 (4 * k + 1) = nI (upN (z.2.1 4) (z.1 8) y k) ∧ r' 4 (4 * k + 2) = nI (upN (z.2.1 5) (z.1 8) f k) ∧ r' 4 (4 * k + 3) = nI (upN (z.2.1 6) (z.1 8) hn k)
    rw [h4]
    have hk' : k < z.1 8 + 1 := hk
    unfold upN
    by_cases e : k = z.1 8
    · simp only [if_pos e]
      rw [e, ← hw]
      exact hrow_n
    · simp only [if_neg e]
      rw [hrow_o (by omega), hrow_o (by omega), hrow_o (by omega), hrow_o (by omega)]
      exact p3 k (by omega)
  · intro g
    rw [hr 7 (by decide), hr 8 (by decide)]
    exact hk g
theorem cqv_k0 {n : Nat} {f g : Nat → Int32} {k : Nat} (hk : k < n) : cqv f g n k = f k := by rw [cqv_at, if_pos hk]
theorem ml_image {A7 A8 : Nat → Int32} (v : VS z) (h : Mdl z i r) (e7 : ∀ k, k < 7 → A7 k = r 2 k) (e8 : ∀ j, j < 24 → A8 j = r 4 j) : Mdl (imageG z, imageW z, z.2.2) (upd (upd (upd (upd (upd i 21 (i 4)) 22 (i 5)) 23 (i 6)) 24 (i 15)) 20 (i 7)) (va_up (va_up r 7 A7) 8 A8) := by
  obtain ⟨⟨h1, h3, h4, h5, h6, h7, h14, h15, h20⟩, ⟨p0, p1, p2, p3⟩, hk⟩ := h
  have v8 := v.2.2.2.2.2.1
  refine ⟨⟨h1, h3, h4, h5, h6, h7, h14, h15, ?_⟩, ⟨p0, p1, p2, p3⟩, fun _ => ⟨⟨h4, h5, h6, h15⟩, fun k hk => ?_, fun k hk => ?_⟩⟩
  · show i 7 = nI (z.1 1 + 1) - 1
    rw [h7, nI_pred]
  · show A7 (k + 1) = _
    rw [e7 _ (by omega)]; exact p2 k hk
  · have hk' : k < z.1 8 := hk
    show A8 (4 * k) = _ ∧ A8 (4 * k + 1) = _ ∧ A8 (4 * k + 2) = _ ∧ A8 (4 * k + 3) = _
    rw [e8 _ (by omega), e8 _ (by omega), e8 _ (by omega), e8 _ (by omega)]
    exact p3 k hk'
theorem ml_restore {A2 A4 : Nat → Int32} (v : VS z) (h : Mdl z i r) (hi : z.1 0 = 1) (e2 : ∀ k, k < 7 → A2 k = r 7 k) (e4 : ∀ j, j < 24 → A4 j = r 8 j) : Mdl (restoreG z, restoreW z, z.2.2) (upd (upd (upd (upd i 4 (i 21)) 5 (i 22)) 6 (i 23)) 15 (i 24)) (va_up (va_up r 2 A2) 4 A4) := by
  obtain ⟨⟨h1, h3, h4, h5, h6, h7, h14, h15, h20⟩, ⟨p0, p1, p2, p3⟩, hk⟩ := h
  obtain ⟨⟨k1, k2, k3, k4⟩, k5, k6⟩ := hk hi
  have v12 := (v.2.2.2.2.2.2.2.2.2.1 hi).2.1
  refine ⟨⟨h1, h3, k1, k2, k3, h7, h14, k4, h20⟩, ⟨p0, p1, fun k hk => ?_, fun k hk => ?_⟩, fun _ => ⟨⟨k1, k2, k3, k4⟩, k5, k6⟩⟩
  · show A2 (k + 1) = _
    rw [e2 _ (by omega)]; exact k5 k hk
  · have hk' : k < z.1 12 := hk
    show A4 (4 * k) = _ ∧ A4 (4 * k + 1) = _ ∧ A4 (4 * k + 2) = _ ∧ A4 (4 * k + 3) = _
    rw [e4 _ (by omega), e4 _ (by omega), e4 _ (by omega), e4 _ (by omega)]
    exact k6 k hk'
end
theorem kept_eq {z : SG} (v : VS z) (hb : z.1 1 < 2 ^ 30) : nI (z.1 13) - 1 = nI (z.1 1) ↔ z.1 0 = 1 := by
  have v13 := v.2.2.2.2.2.2.2.2.2.2.1
  have vb := v.2.2.2.2.2.2.2.2.2.2.2
  rw [vb]
  rcases Nat.eq_zero_or_pos (z.1 13) with e | e
  · rw [e]
    refine ⟨fun h => ?_, fun h => by omega⟩
    have h2 := congrArg Int32.toInt h
    rw [nI_toInt (n := z.1 1) (by omega)] at h2
    have : (nI 0 - 1 : Int32).toInt = -1 := rfl
    omega
  · obtain ⟨m, hm⟩ : ∃ m, z.1 13 = m + 1 := ⟨z.1 13 - 1, by omega⟩
    rw [hm, nI_pred, nI_eq (a := m) (b := z.1 1) (by omega) (by omega)]
    omega
