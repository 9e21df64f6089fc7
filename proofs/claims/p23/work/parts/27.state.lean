/-! the state that calls show: numbers g, rows w, the page pg.
g: 0 an image is kept, 1 camps read, 2 teams done, 3 letters, 4 members, 5 alive, 6 marches, 7 of which home, 8 heard, 9 to 12 the image's 5 to 8, 13 when the image was kept (camps read and 1)
w: 1 kinds, 2 cairns, 3 to 6 heard, 7 to 11 the image's 2 to 6 -/
abbrev SG : Type := (Nat → Nat) × (Nat → Nat → Nat) × (Nat → Int32)
def HB (n hn : Nat) (hm hs hf hh : Nat → Nat) : Prop := ∀ k, k < hn → hm k < 2 ^ n ∧ hs k ≤ 6 ∧ hf k ≤ 40 ∧ hh k ≤ 1 ∧ 1 ≤ hs k
/-- what holds of every state that is reached -/
def VS (z : SG) : Prop := z.1 0 ≤ 1 ∧ z.1 2 ≤ 20 ∧ z.1 3 ≤ 15 ∧ z.1 4 ≤ 6 ∧ z.1 5 < 2 ^ z.1 4 ∧ z.1 8 ≤ 6 ∧ (∀ k, k < z.1 4 → z.2.1 1 k ≤ 4) ∧ (∀ k, k < 5 → z.2.1 2 k ≤ 9) ∧ HB (z.1 4) (z.1 8) (z.2.1 3) (z.2.1 4) (z.2.1 5) (z.2.1 6) ∧
  (z.1 0 = 1 → z.1 9 < 2 ^ z.1 4 ∧ z.1 12 ≤ 6 ∧ (∀ k, k < 5 → z.2.1 7 k ≤ 9) ∧ HB (z.1 4) (z.1 12) (z.2.1 8) (z.2.1 9) (z.2.1 10) (z.2.1 11)) ∧ z.1 13 ≤ z.1 1 + 1 ∧ (z.1 0 = 1 ↔ z.1 13 = z.1 1 + 1)
def CN (g : Nat → Nat) (i : Nat → Int32) : Prop := i 0 = nI (g 0) ∧ i 1 = nI (g 1) ∧ i 2 = nI (g 2) ∧ i 3 = nI (g 3) ∧ i 4 = nI (g 4) ∧ i 10 = nI (g 5) ∧ i 11 = nI (g 6) ∧ i 12 = nI (g 7) ∧ i 13 = nI (g 8)
def CR (z : SG) (r : Nat → Nat → Int32) : Prop := (∀ k, k < z.1 3 → r 0 k = z.2.2 k) ∧ (∀ k, k < z.1 4 → r 1 k = nI (z.2.1 1 k)) ∧ (∀ k, k < 5 → r 3 k = nI (z.2.1 2 k)) ∧ (∀ k, k < z.1 8 → r 4 k = nI (z.2.1 3 k) ∧ r 5 k = nI (z.2.1 4 k) ∧ r 6 k = nI (z.2.1 5 k) ∧ r 7 k = nI (z.2.1 6 k))
def CK (z : SG) (i : Nat → Int32) (r : Nat → Nat → Int32) : Prop := z.1 0 = 1 → (i 14 = nI (z.1 9) ∧ i 15 = nI (z.1 10) ∧ i 16 = nI (z.1 11) ∧ i 17 = nI (z.1 12)) ∧ (∀ k, k < 5 → r 8 k = nI (z.2.1 7 k)) ∧ (∀ k, k < z.1 12 → r 9 k = nI (z.2.1 8 k) ∧ r 10 k = nI (z.2.1 9 k) ∧ r 11 k = nI (z.2.1 10 k) ∧ r 12 k = nI (z.2.1 11 k))
/-- the class's object holds the state -/
def Cls (z : SG) (i : Nat → Int32) (r : Nat → Nat → Int32) : Prop := CN z.1 i ∧ CR z r ∧ CK z i r
theorem Cls.sp {z : SG} {i i' : Nat → Int32} {r r' : Nat → Nat → Int32} (h : Cls z i r) (hi : SP i i') (hr : SR r r') : Cls z i' r' := by
  obtain ⟨⟨h0, h1, h2, h3, h4, h5, h6, h7, h8⟩, ⟨p0, p1, p2, p3⟩, hk⟩ := h
  refine ⟨⟨?_, ?_, ?_, ?_, ?_, ?_, ?_, ?_, ?_⟩, ⟨?_, ?_, ?_, ?_⟩, ?_⟩
  · rw [hi 0 (by omega)]; exact h0
  · rw [hi 1 (by omega)]; exact h1
  · rw [hi 2 (by omega)]; exact h2
  · rw [hi 3 (by omega)]; exact h3
  · rw [hi 4 (by omega)]; exact h4
  · rw [hi 10 (by omega)]; exact h5
  · rw [hi 11 (by omega)]; exact h6
  · rw [hi 12 (by omega)]; exact h7
  · rw [hi 13 (by omega)]; exact h8
  · rw [hr 0 (by decide)]; exact p0
  · rw [hr 1 (by decide)]; exact p1
  · rw [hr 3 (by decide)]; exact p2
  · rw [hr 4 (by decide), hr 5 (by decide), hr 6 (by decide), hr 7 (by decide)]; exact p3
  · intro g
    rw [hi 14 (by omega), hi 15 (by omega), hi 16 (by omega), hi 17 (by omega), hr 8 (by decide), hr 9 (by decide), hr 10 (by decide), hr 11 (by decide), hr 12 (by decide)]
    exact hk g
theorem Cls.pv {z : SG} {i : Nat → Int32} {r : Nat → Nat → Int32} (h : Cls z i r) (v : VS z) : PV i r (z.2.1 1) (z.1 4) := ⟨h.1.2.2.2.2.1, v.2.2.2.1, fun k hk => ⟨h.2.1.2.1 k hk, v.2.2.2.2.2.2.1 k hk⟩⟩
theorem Cls.c {z : SG} {i : Nat → Int32} {r : Nat → Nat → Int32} (h : Cls z i r) (v : VS z) : ∀ k, k < 5 → r 3 k = nI (z.2.1 2 k) ∧ z.2.1 2 k ≤ 9 := fun k hk => ⟨h.2.1.2.2.1 k hk, v.2.2.2.2.2.2.2.1 k hk⟩
theorem Cls.hv {z : SG} {i : Nat → Int32} {r : Nat → Nat → Int32} (h : Cls z i r) (v : VS z) : HV i r (z.1 4) (z.1 8) (z.2.1 3) (z.2.1 4) (z.2.1 5) (z.2.1 6) := ⟨h.1.2.2.2.2.2.2.2.2, v.2.2.2.2.2.1, fun k hk => by
  obtain ⟨a1, a2, a3, a4⟩ := h.2.1.2.2.2 k hk
  obtain ⟨b1, b2, b3, b4⟩ := v.2.2.2.2.2.2.2.2.1 k hk
  exact ⟨⟨a1, b1⟩, ⟨a2, b2⟩, ⟨a3, b3⟩, a4, b4.1⟩⟩
/-! what each call answers, and the state behind it -/
def upG (f : Nat → Nat) (k x : Nat) : Nat → Nat := fun j => if j = k then x else f j
def tn (x : Int32) : Nat := x.toNatClampNeg
def letterF (z : SG) (x : Int32) : Int32 × SG := if x < 1 ∨ ¬ x ≤ 126 then (-102, z) else if 15 ≤ z.1 3 then (-104, z) else (nI (z.1 3 + 1), (upG z.1 3 (z.1 3 + 1), z.2.1, upd z.2.2 (z.1 3) x))
def blankF (z : SG) : Int32 × SG := (nI (z.1 3), (upG z.1 3 0, z.2))
def faultF (z : SG) : Int32 := nI (scv z.2.2 (z.1 3) 0 0).1
def kdn (x : Int32) : Nat := tn (kindOfv x)
def fdn (x : Int32) : Nat := tn (x - 48)
def campG (z : SG) : Nat → Nat := fun k => match k with
  | 0 => 0
  | 1 => z.1 1 + 1
  | 3 => 0
  | 4 => z.1 3 - 6
  | 5 => 2 ^ (z.1 3 - 6) - 1
  | 6 => 0
  | 7 => 0
  | 8 => 0
  | k => z.1 k
def campF (z : SG) : Int32 × SG := if campb z.2.2 (z.1 3) = true then (nI (z.1 3 - 6), (campG z, va_up (va_up z.2.1 1 (fun k => kdn (z.2.2 k))) 2 (fun k => fdn (z.2.2 (z.1 3 - 5 + k))), z.2.2)) else (-103, z)
def tellF (z : SG) (k : Nat) (what : Int32) : Int32 := if what = 0 then nI (z.2.1 1 k) else if what = 1 then nI (pls (z.2.1 1 k)) else if what = 2 then nI (ets (z.2.1 1 k)) else if what = 3 then nI (fds (z.2.1 1 k)) else if what = 4 then nI (bt (z.1 5) k) else -102
def noMember (z : SG) (m : Int32) : Bool := decide (m < 0) || !decide (m < nI (z.1 4))
def memberF (z : SG) (m what : Int32) : Int32 := if noMember z m = true then -101 else tellF z (tn m) what
def asF (z : SG) (m kind : Int32) : Int32 := if noMember z m = true then -101 else if kind < 0 ∨ ¬ kind < 5 then -102 else if isOfv (nI (z.2.1 1 (tn m))) kind = 0 then -1 else m
def layS (z : SG) (q : Nat) : Nat := layv (z.2.1 1) (z.1 4) (z.2.1 2) (z.1 8) (z.2.1 3) (z.2.1 4) (z.2.1 5) (z.2.1 6) q
def tryS (z : SG) (q : Nat) : Int32 := tryv (z.2.1 1) (z.1 4) (z.2.1 2) q (layS z q)
def cairnF (z : SG) (x what : Int32) : Int32 := if noCairn (z.1 4) x = true then -101 else if what = 0 then nI (z.2.1 2 (tn x - 1)) else if what = 1 then nI (layS z (tn x)) else if what = 2 then tryS z (tn x) else -102
def layF (z : SG) (x f : Int32) : Int32 × SG := if noCairn (z.1 4) x = true then (-101, z) else if f < 0 ∨ ¬ f ≤ 9 then (-102, z) else (nI (z.2.1 2 (tn x - 1)), (z.1, va_up z.2.1 2 (upN (z.2.1 2) (tn x - 1) (tn f)), z.2.2))
def marS (z : SG) (x y f : Nat) : MS := marv (z.2.1 1) (z.1 4) x y f (z.2.1 2)
def alv (al x b : Nat) : Nat := (al - (al &&& x)) ||| b
def marchF (z : SG) (x y f : Int32) : Int32 × SG := if noMarch (z.1 4) x y f = true then (-102, z) else if deadv x (nI (z.1 5)) ≠ 0 then (-103, z) else
  (nI (marS z (tn x) (tn y) (tn f)).1, (upG (upG (upG z.1 5 (alv (z.1 5) (tn x) (marS z (tn x) (tn y) (tn f)).1)) 6 (z.1 6 + 1)) 7 (z.1 7 + (if (marS z (tn x) (tn y) (tn f)).1 = 0 then 0 else 1)), va_up z.2.1 2 (marS z (tn x) (tn y) (tn f)).2.2.1, z.2.2))
def sumN (c : Nat → Nat) : Nat := c 0 + c 1 + c 2 + c 3 + c 4
def tellM (m : MS) (what : Int32) : Int32 := if what = 0 then nI m.1 else if what = 1 then nI m.2.1 else if what = 2 then nI (sumN m.2.2.1) else nI m.2.2.2
def wouldF (z : SG) (x y f what : Int32) : Int32 := if noMarch (z.1 4) x y f = true ∨ what < 0 ∨ ¬ what ≤ 3 then -102 else if deadv x (nI (z.1 5)) ≠ 0 then -103 else tellM (marS z (tn x) (tn y) (tn f)) what
def needF (z : SG) (x y : Int32) : Int32 := if noPeople (z.1 4) x = true ∨ noStage y = true then -102 else if deadv x (nI (z.1 5)) ≠ 0 then -103 else needv (z.2.1 1) (z.1 4) (tn x) (tn y) (z.2.1 2)
def farF (z : SG) (x : Int32) : Int32 := if noPeople (z.1 4) x = true then -102 else if deadv x (nI (z.1 5)) ≠ 0 then -103 else nI (farv (z.2.1 1) (z.1 4) (tn x) (z.2.1 2))
def teamF (z : SG) (y : Int32) : Int32 × SG := if noStage y = true then (-102, z) else if z.1 4 = 0 ∨ 20 ≤ z.1 2 then (-103, z) else (teamv (z.2.1 1) (z.1 4) (z.1 5) (tn y) (z.2.1 2), (upG z.1 2 (z.1 2 + 1), z.2))
def hearW (z : SG) (x y f h : Nat) : Nat → Nat → Nat := va_up (va_up (va_up (va_up z.2.1 3 (upN (z.2.1 3) (z.1 8) x)) 4 (upN (z.2.1 4) (z.1 8) y)) 5 (upN (z.2.1 5) (z.1 8) f)) 6 (upN (z.2.1 6) (z.1 8) h)
def hearF (z : SG) (x y f h : Int32) : Int32 × SG := if noMarch (z.1 4) x y f = true then (-102, z) else if 6 ≤ z.1 8 then (-104, z) else (nI (z.1 8 + 1), (upG z.1 8 (z.1 8 + 1), hearW z (tn x) (tn y) (tn f) (if h = 0 then 0 else 1), z.2.2))
def forgetF (z : SG) : Int32 × SG := (nI (z.1 8), (upG z.1 8 0, z.2))
def winS (z : SG) (mn sd : Nat) : Nat × (Nat → Nat) := crw mn (sd, z.2.1 2)
def wintersF (z : SG) (m sd what : Int32) : Int32 := if m < 1 ∨ ¬ m ≤ 20 ∨ sd < 0 ∨ what < 0 ∨ ¬ what ≤ 2 then -102 else if z.1 4 = 0 then -103 else if what = 2 then nI (winS z (tn m) (tn sd)).1 else if what = 0 then nI (sumN (winS z (tn m) (tn sd)).2) else nI (farv (z.2.1 1) (z.1 4) (z.1 5) (winS z (tn m) (tn sd)).2)
def imageG (z : SG) : Nat → Nat := fun k => match k with
  | 0 => 1
  | 9 => z.1 5
  | 10 => z.1 6
  | 11 => z.1 7
  | 12 => z.1 8
  | 13 => z.1 1 + 1
  | k => z.1 k
def imageW (z : SG) : Nat → Nat → Nat := fun k => match k with
  | 7 => z.2.1 2
  | 8 => z.2.1 3
  | 9 => z.2.1 4
  | 10 => z.2.1 5
  | 11 => z.2.1 6
  | k => z.2.1 k
def imageF (z : SG) : Int32 × SG := if z.1 4 = 0 then (-103, z) else (nI (z.1 6), (imageG z, imageW z, z.2.2))
def restoreG (z : SG) : Nat → Nat := fun k => match k with
  | 5 => z.1 9
  | 6 => z.1 10
  | 7 => z.1 11
  | 8 => z.1 12
  | k => z.1 k
def restoreW (z : SG) : Nat → Nat → Nat := fun k => match k with
  | 2 => z.2.1 7
  | 3 => z.2.1 8
  | 4 => z.2.1 9
  | 5 => z.2.1 10
  | 6 => z.2.1 11
  | k => z.2.1 k
def restoreF (z : SG) : Int32 × SG := if z.1 0 = 1 then (nI (z.1 10), (restoreG z, restoreW z, z.2.2)) else (-103, z)
def countN (z : SG) (k : Nat) : Nat := match k with
  | 0 => z.1 4
  | 1 => pcn (z.1 5)
  | 2 => sumN (z.2.1 2)
  | 3 => z.1 6
  | 4 => z.1 7
  | 5 => sumk pls (z.2.1 1) (z.1 5) (z.1 4)
  | 6 => sumk ets (z.2.1 1) (z.1 5) (z.1 4)
  | 7 => z.1 8
  | 8 => z.1 3
  | 9 => z.1 1
  | _ => z.1 2
def countF (z : SG) (what : Int32) : Int32 := if what < 0 ∨ ¬ what ≤ 10 then -102 else nI (countN z (tn what))
def sayv (h : Int64) (v : Int32) : Int64 := 31 * h + v.toInt64
def sayM (z : SG) (m : Nat) (h : Int64) : Nat → Int64
  | 0 => h
  | k + 1 => sayv (sayM z m h k) (tellF z m (nI k))
def sayMs (z : SG) (h : Int64) : Nat → Int64
  | 0 => h
  | m + 1 => sayM z m (sayMs z h m) 5
def sayC (z : SG) (h : Int64) : Nat → Int64
  | 0 => h
  | q + 1 => sayv (sayv (sayC z h q) (nI (z.2.1 2 q))) (nI (layS z (q + 1)))
def sayW (z : SG) (h : Int64) : Nat → Int64
  | 0 => h
  | k + 1 => sayv (sayW z h k) (tellM (marS z (z.1 5) 5 12) (nI k))
def sayP (z : SG) (h : Int64) : Nat → Int64
  | 0 => h
  | k + 1 => sayv (sayP z h k) (z.2.2 k)
def sayN (z : SG) (h : Int64) : Nat → Int64
  | 0 => h
  | k + 1 => sayv (sayN z h k) (nI (countN z k))
def sayCs (z : SG) (h : Int64) : Int64 := if z.1 4 = 0 then h else sayv (sayC z h 5) (tryS z 3)
def sayL (z : SG) (h : Int64) : Int64 := if z.1 5 = 0 then h else sayW z (sayv (sayv (sayv h (nI (farv (z.2.1 1) (z.1 4) (z.1 5) (z.2.1 2)))) (needv (z.2.1 1) (z.1 4) (z.1 5) 1 (z.2.1 2))) (needv (z.2.1 1) (z.1 4) (z.1 5) 4 (z.2.1 2))) 4
def digestF (z : SG) : Int64 := sayN z (sayP z (sayL z (sayCs z (sayMs z 1051 (z.1 4)))) (z.1 3)) 11
/-! arguments read as whole numbers -/
theorem tn_nI {k : Nat} (h : k < 2 ^ 31) : tn (nI k) = k := nI_clamp h
theorem tn_of {x : Int32} {M : Nat} (hM : M < 2 ^ 31) (h : ¬ x < 0) (h2 : x ≤ nI M) : ∃ k, k ≤ M ∧ x = nI k ∧ tn x = k := by
  obtain ⟨j, hj, e⟩ := nI_of2 (nI_toInt hM) h h2
  exact ⟨j, hj, e, by rw [e]; exact tn_nI (by omega)⟩
theorem neg_1 {x : Int32} (h : ¬ x < 1) : ¬ x < 0 := by
  simp only [Int32.lt_iff_toInt_lt] at h ⊢
  have h1 : (1 : Int32).toInt = 1 := rfl
  have h0 : (0 : Int32).toInt = 0 := rfl
  omega
theorem ge_1 {k : Nat} (hk : k < 2 ^ 31) (h : ¬ nI k < 1) : 1 ≤ k := by
  rcases Nat.eq_zero_or_pos k with e | e
  · subst e; exact absurd (by decide) h
  · exact e
theorem people_of {n : Nat} {x : Int32} (hn : n ≤ 6) (h : noPeople n x = false) : ∃ k, 1 ≤ k ∧ k < 2 ^ n ∧ x = nI k ∧ tn x = k := by
  unfold noPeople at h
  simp only [Bool.or_eq_false_iff, Bool.not_eq_false', decide_eq_false_iff_not, decide_eq_true_eq] at h
  have hp := pow_le6 hn
  have hp1 := Nat.pow_pos (n := n) (show 0 < 2 by decide)
  obtain ⟨k, h1, h2, h3⟩ := tn_of (by omega) (neg_1 h.1) h.2
  refine ⟨k, ge_1 (by omega) (h2 ▸ h.1), by omega, h2, h3⟩
theorem stage_of {y : Int32} (h : noStage y = false) : ∃ k, 1 ≤ k ∧ k ≤ 6 ∧ y = nI k ∧ tn y = k := by
  unfold noStage at h
  simp only [Bool.or_eq_false_iff, Bool.not_eq_false', decide_eq_false_iff_not, decide_eq_true_eq] at h
  obtain ⟨k, h1, h2, h3⟩ := tn_of (M := 6) (by decide) (neg_1 h.1) h.2
  exact ⟨k, ge_1 (by omega) (h2 ▸ h.1), h1, h2, h3⟩
theorem food_of {f : Int32} (h : noFood f = false) : ∃ k, k ≤ 40 ∧ f = nI k ∧ tn f = k := by
  unfold noFood at h
  simp only [Bool.or_eq_false_iff, Bool.not_eq_false', decide_eq_false_iff_not, decide_eq_true_eq] at h
  exact tn_of (M := 40) (by decide) h.1 h.2
theorem march_of {n : Nat} {x y f : Int32} (h : noMarch n x y f = false) : noPeople n x = false ∧ noStage y = false ∧ noFood f = false := by
  unfold noMarch at h
  simpa only [Bool.or_eq_false_iff] using h
theorem cairn_of {n : Nat} {x : Int32} (h : noCairn n x = false) : n ≠ 0 ∧ ∃ k, 1 ≤ k ∧ k < 6 ∧ x = nI k ∧ tn x = k := by
  unfold noCairn at h
  simp only [Bool.or_eq_false_iff, Bool.not_eq_false', decide_eq_false_iff_not, decide_eq_true_eq] at h
  obtain ⟨k, h1, h2, h3⟩ := tn_of (M := 5) (by decide) (neg_1 h.1) h.2.1
  exact ⟨h.2.2, k, ge_1 (by omega) (h2 ▸ h.1), by omega, h2, h3⟩
theorem member_of {z : SG} {m : Int32} (v : VS z) (h : noMember z m = false) : ∃ k, k < z.1 4 ∧ m = nI k ∧ tn m = k := by
  unfold noMember at h
  simp only [Bool.or_eq_false_iff, Bool.not_eq_false', decide_eq_false_iff_not, decide_eq_true_eq] at h
  have hn := v.2.2.2.1
  obtain ⟨k, h1, h2, h3⟩ := tn_of (M := z.1 4) (by omega) h.1 (by
    have := h.2
    simp only [Int32.lt_iff_toInt_lt, Int32.le_iff_toInt_le] at this ⊢
    omega)
  refine ⟨k, ?_, h2, h3⟩
  have h4 := h.2
  rw [h2] at h4
  exact (nI_ltI (by omega) (by omega)).mp h4
