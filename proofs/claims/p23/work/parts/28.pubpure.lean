theorem and_not2 : ∀ x, x < 64 → ∀ y, y < 64 → nI x &&& (nI y ^^^ (-1)) = nI (x - (x &&& y)) := by decide +kernel
theorem or_nI : ∀ x, x < 64 → ∀ y, y < 64 → nI x ||| nI y = nI (x ||| y) := by decide +kernel
theorem alv_lt {x y b n : Nat} (hx : x < 2 ^ n) (hb : b < 2 ^ n) : alv x y b < 2 ^ n := Nat.or_lt_two_pow (Nat.lt_of_le_of_lt (Nat.sub_le _ _) hx) hb
theorem march_al {x y b n : Nat} (hn : n ≤ 6) (hx : x < 2 ^ n) (hy : y < 2 ^ n) (hb : b < 2 ^ n) : (nI x &&& (nI y ^^^ (-1))) ||| nI b = nI (alv x y b) := by
  have := pow_le6 hn
  rw [and_not2 x (by omega) y (by omega), or_nI _ (by omega) _ (by omega)]
  rfl
theorem mar_ok {kd : Nat → Nat} {n x st f : Nat} {c : Nat → Nat} (hn : n ≤ 6) (hx : x < 2 ^ n) (hc : ∀ k, k < 5 → c k ≤ 9) : MOK kd n (marv kd n x st f c) := runv_ok hn _ _ (mok0 hx hc)
theorem kind_ok {x : Int32} (h : kindOfv x ≠ -1) : kindOfv x = nI (kdn x) ∧ kdn x ≤ 4 := by
  have key : kindOfv x = nI 0 ∨ kindOfv x = nI 1 ∨ kindOfv x = nI 2 ∨ kindOfv x = nI 3 ∨ kindOfv x = nI 4 := by
    unfold kindOfv at h ⊢
    by_cases e1 : x = 109
    · rw [if_pos e1]; exact Or.inl rfl
    rw [if_neg e1] at h ⊢
    by_cases e2 : x = 112
    · rw [if_pos e2]; exact Or.inr (Or.inl rfl)
    rw [if_neg e2] at h ⊢
    by_cases e3 : x = 100
    · rw [if_pos e3]; exact Or.inr (Or.inr (Or.inl rfl))
    rw [if_neg e3] at h ⊢
    by_cases e4 : x = 98
    · rw [if_pos e4]; exact Or.inr (Or.inr (Or.inr (Or.inl rfl)))
    rw [if_neg e4] at h ⊢
    by_cases e5 : x = 104
    · rw [if_pos e5]; exact Or.inr (Or.inr (Or.inr (Or.inr rfl)))
    rw [if_neg e5] at h
    exact absurd rfl h
  unfold kdn
  rcases key with e | e | e | e | e <;> rw [e] <;> exact ⟨rfl, by decide⟩
theorem digit_ok {x : Int32} (h1 : 48 ≤ x) (h2 : x ≤ 57) : x - 48 = nI (fdn x) ∧ fdn x ≤ 9 := by
  have h0 : ¬ x < 0 := by
    simp only [Int32.lt_iff_toInt_lt, Int32.le_iff_toInt_le] at h1 ⊢
    have a1 : (48 : Int32).toInt = 48 := rfl
    have a0 : (0 : Int32).toInt = 0 := rfl
    omega
  obtain ⟨k, hk, e, -⟩ := tn_of (M := 57) (by decide) h0 h2
  subst e
  have h3 : 48 ≤ k := (nI_leI (a := 48) (by decide) (by omega)).mp h1
  have e2 : nI k - 48 = nI (k - 48) := pk_sub (b := 48) h3
  unfold fdn
  rw [e2, tn_nI (by omega)]
  exact ⟨rfl, by omega⟩
/-- what a camp of the page is -/
theorem camp_facts {f : Nat → Int32} {L : Nat} (h : campb f L = true) : 8 ≤ L ∧ L ≤ 12 ∧ (∀ k, k < L - 6 → kindOfv (f k) = nI (kdn (f k)) ∧ kdn (f k) ≤ 4) ∧ (∀ k, k < 5 → f (L - 5 + k) - 48 = nI (fdn (f (L - 5 + k))) ∧ fdn (f (L - 5 + k)) ≤ 9) := by
  unfold campb at h
  simp only [Bool.and_eq_true, decide_eq_true_eq] at h
  have hs := scv_SI (f := f) L 0 0 SI_0
  obtain ⟨e1, e2, e3⟩ := h
  rw [e1] at hs
  obtain ⟨h1, h2, h3, h4, h5, h6⟩ := hs
  have h2' := h2 e2
  refine ⟨by omega, by omega, fun k hk => kind_ok (h5 k (by omega) (Or.inl (by omega))), fun k hk => ?_⟩
  obtain ⟨d1, d2⟩ := h6 (L - 5 + k) (by omega) e2 (by omega)
  exact digit_ok d1 d2
theorem campb_congr {f g : Nat → Int32} {L : Nat} (h : ∀ j, j < L → f j = g j) : campb f L = campb g L := by
  unfold campb
  rw [scv_congr h L 0 0 (by omega)]
/-! VS stays -/
theorem vs_letter {z : SG} (v : VS z) (x : Int32) : VS (letterF z x).2 := by
  unfold letterF
  split
  · exact v
  · split
    · exact v
    · rename_i h1 h2
      obtain ⟨v0, v2, v3, v4, v5, v8, vk, vc, vh, vi, v13, vb⟩ := v
      exact ⟨v0, v2, show z.1 3 + 1 ≤ 15 by omega, v4, v5, v8, vk, vc, vh, vi, v13, vb⟩
theorem vs_blank {z : SG} (v : VS z) : VS (blankF z).2 := by
  obtain ⟨v0, v2, v3, v4, v5, v8, vk, vc, vh, vi, v13, vb⟩ := v
  exact ⟨v0, v2, Nat.zero_le _, v4, v5, v8, vk, vc, vh, vi, v13, vb⟩
theorem vs_forget {z : SG} (v : VS z) : VS (forgetF z).2 := by
  obtain ⟨v0, v2, v3, v4, v5, v8, vk, vc, vh, vi, v13, vb⟩ := v
  exact ⟨v0, v2, v3, v4, v5, Nat.zero_le _, vk, vc, fun k hk => absurd hk (Nat.not_lt_zero k), vi, v13, vb⟩
theorem vs_camp {z : SG} (v : VS z) : VS (campF z).2 := by
  unfold campF
  split
  · rename_i h
    obtain ⟨f1, f2, f3, f4⟩ := camp_facts h
    obtain ⟨v0, v2, v3, v4, v5, v8, vk, vc, vh, vi, v13, vb⟩ := v
    have hp := Nat.pow_pos (n := z.1 3 - 6) (show 0 < 2 by decide)
    refine ⟨Nat.zero_le _, v2, Nat.zero_le _, show z.1 3 - 6 ≤ 6 by omega, show 2 ^ (z.1 3 - 6) - 1 < 2 ^ (z.1 3 - 6) by omega, Nat.zero_le _, fun k hk => (f3 k hk).2, fun k hk => (f4 k hk).2, fun k hk => absurd hk (Nat.not_lt_zero k), fun h => absurd h (show ¬ (0 : Nat) = 1 by decide), show z.1 13 ≤ z.1 1 + 1 + 1 by omega, ?_⟩
    show (0 : Nat) = 1 ↔ z.1 13 = z.1 1 + 1 + 1
    omega
  · exact v
theorem vs_lay {z : SG} (v : VS z) (x f : Int32) : VS (layF z x f).2 := by
  unfold layF
  split
  · exact v
  · split
    · exact v
    · rename_i h1 h2
      obtain ⟨v0, v2, v3, v4, v5, v8, vk, vc, vh, vi, v13, vb⟩ := v
      obtain ⟨k, hk, -, e⟩ := tn_of (x := f) (M := 9) (by decide) (fun h => h2 (Or.inl h)) (Classical.not_not.mp (fun h => h2 (Or.inr h)))
      refine ⟨v0, v2, v3, v4, v5, v8, vk, ?_, vh, vi, v13, vb⟩
      rw [e]
      exact upN_le vc hk
theorem vs_march {z : SG} (v : VS z) (x y f : Int32) : VS (marchF z x y f).2 := by
  unfold marchF
  split
  · exact v
  · split
    · exact v
    · rename_i h1 h2
      obtain ⟨v0, v2, v3, v4, v5, v8, vk, vc, vh, vi, v13, vb⟩ := v
      have h3 := march_of (by simpa using h1)
      obtain ⟨k, k1, k2, -, e⟩ := people_of v4 h3.1
      have hm : MOK (z.2.1 1) (z.1 4) (marS z (tn x) (tn y) (tn f)) := mar_ok v4 (by rw [e]; exact k2) vc
      exact ⟨v0, v2, v3, v4, alv_lt v5 hm.1.1, v8, vk, hm.2.1, vh, vi, v13, vb⟩
theorem vs_team {z : SG} (v : VS z) (y : Int32) : VS (teamF z y).2 := by
  unfold teamF
  split
  · exact v
  · split
    · exact v
    · rename_i h1 h2
      obtain ⟨v0, v2, v3, v4, v5, v8, vk, vc, vh, vi, v13, vb⟩ := v
      exact ⟨v0, show z.1 2 + 1 ≤ 20 by omega, v3, v4, v5, v8, vk, vc, vh, vi, v13, vb⟩
theorem vs_hear {z : SG} (v : VS z) (x y f h : Int32) : VS (hearF z x y f h).2 := by
  unfold hearF
  split
  · exact v
  · split
    · exact v
    · rename_i h1 h2
      obtain ⟨v0, v2, v3, v4, v5, v8, vk, vc, vh, vi, v13, vb⟩ := v
      have h3 := march_of (by simpa using h1)
      obtain ⟨a, a1, a2, -, ea⟩ := people_of v4 h3.1
      obtain ⟨b, b1, b2, -, eb⟩ := stage_of h3.2.1
      obtain ⟨d, d1, -, ed⟩ := food_of h3.2.2
      refine ⟨v0, v2, v3, v4, v5, show z.1 8 + 1 ≤ 6 by omega, vk, vc, fun k hk => ?_, vi, v13, vb⟩
      show upN (z.2.1 3) (z.1 8) (tn x) k < 2 ^ z.1 4 ∧ upN (z.2.1 4) (z.1 8) (tn y) k ≤ 6 ∧ upN (z.2.1 5) (z.1 8) (tn f) k ≤ 40 ∧ upN (z.2.1 6) (z.1 8) (if h = 0 then 0 else 1) k ≤ 1 ∧ 1 ≤ upN (z.2.1 4) (z.1 8) (tn y) k
      unfold upN
      by_cases e : k = z.1 8
      · simp only [if_pos e]
        refine ⟨by omega, by omega, by omega, ?_, by omega⟩
        split <;> omega
      · simp only [if_neg e]
        exact vh k (by have hk' : k < z.1 8 + 1 := hk; omega)
theorem vs_image {z : SG} (v : VS z) : VS (imageF z).2 := by
  unfold imageF
  split
  · exact v
  · obtain ⟨v0, v2, v3, v4, v5, v8, vk, vc, vh, vi, v13, vb⟩ := v
    exact ⟨Nat.le_refl _, v2, v3, v4, v5, v8, vk, vc, vh, fun _ => ⟨v5, v8, vc, vh⟩, Nat.le_refl _, ⟨fun _ => rfl, fun _ => rfl⟩⟩
theorem vs_restore {z : SG} (v : VS z) : VS (restoreF z).2 := by
  unfold restoreF
  split
  · rename_i h
    obtain ⟨v0, v2, v3, v4, v5, v8, vk, vc, vh, vi, v13, vb⟩ := v
    obtain ⟨w1, w2, w3, w4⟩ := vi h
    exact ⟨v0, v2, v3, v4, w1, w2, vk, w3, w4, vi, v13, vb⟩
  · exact v
/-! the class's object behind each change -/
theorem cl_letter {z : SG} {i : Nat → Int32} {r : Nat → Nat → Int32} {x : Int32} (h : Cls z i r) (h15 : z.1 3 < 15) : Cls (upG z.1 3 (z.1 3 + 1), z.2.1, upd z.2.2 (z.1 3) x) (upd i 3 (i 3 + 1)) (va_up r 0 (putv 15 (r 0) (i 3) x)) := by
  obtain ⟨⟨h0, h1, h2, h3, h4, h5, h6, h7, h8⟩, ⟨p0, p1, p2, p3⟩, hk⟩ := h
  refine ⟨⟨h0, h1, h2, ?_, h4, h5, h6, h7, h8⟩, ⟨fun k hk => ?_, p1, p2, p3⟩, hk⟩
  · show i 3 + 1 = nI (z.1 3 + 1)
    rw [h3, nI_1]
  · show putv 15 (r 0) (i 3) x k = upd z.2.2 (z.1 3) x k
    rw [h3, putv_nI h15 (by decide)]
    unfold upd
    by_cases e : k = z.1 3
    · rw [if_pos e, if_pos e]
    · rw [if_neg e, if_neg e]; exact p0 k (by have hk' : k < z.1 3 + 1 := hk; omega)
theorem cl_blank {z : SG} {i : Nat → Int32} {r : Nat → Nat → Int32} (h : Cls z i r) : Cls (blankF z).2 (upd i 3 0) r := by
  obtain ⟨⟨h0, h1, h2, h3, h4, h5, h6, h7, h8⟩, ⟨p0, p1, p2, p3⟩, hk⟩ := h
  exact ⟨⟨h0, h1, h2, rfl, h4, h5, h6, h7, h8⟩, ⟨fun k hk => absurd hk (Nat.not_lt_zero k), p1, p2, p3⟩, hk⟩
theorem cl_forget {z : SG} {i : Nat → Int32} {r : Nat → Nat → Int32} (h : Cls z i r) : Cls (forgetF z).2 (upd i 13 0) r := by
  obtain ⟨⟨h0, h1, h2, h3, h4, h5, h6, h7, h8⟩, ⟨p0, p1, p2, p3⟩, hk⟩ := h
  exact ⟨⟨h0, h1, h2, h3, h4, h5, h6, h7, rfl⟩, ⟨p0, p1, p2, fun k hk => absurd hk (Nat.not_lt_zero k)⟩, hk⟩
theorem cl_lay {z : SG} {i : Nat → Int32} {r : Nat → Nat → Int32} {q f : Nat} (h : Cls z i r) (h1 : 1 ≤ q) (h6 : q < 6) : Cls (z.1, va_up z.2.1 2 (upN (z.2.1 2) (q - 1) f), z.2.2) i (va_up r 3 (putv 5 (r 3) (nI q - 1) (nI f))) := by
  obtain ⟨hn, ⟨p0, p1, p2, p3⟩, hk⟩ := h
  exact ⟨hn, ⟨p0, p1, put_up h1 h6 p2, p3⟩, hk⟩
theorem cl_team {z : SG} {i : Nat → Int32} {r : Nat → Nat → Int32} (h : Cls z i r) : Cls (upG z.1 2 (z.1 2 + 1), z.2) (upd i 2 (i 2 + 1)) r := by
  obtain ⟨⟨h0, h1, h2, h3, h4, h5, h6, h7, h8⟩, ⟨p0, p1, p2, p3⟩, hk⟩ := h
  refine ⟨⟨h0, h1, ?_, h3, h4, h5, h6, h7, h8⟩, ⟨p0, p1, p2, p3⟩, hk⟩
  show i 2 + 1 = nI (z.1 2 + 1)
  rw [h2, nI_1]
theorem cl_march {z : SG} {i : Nat → Int32} {r : Nat → Nat → Int32} {x b a7 : Nat} {c : Nat → Nat} {v10 v12 : Int32} (h : Cls z i r) (h10 : v10 = nI (alv (z.1 5) x b)) (h12 : v12 = nI (z.1 7 + a7)) {r3 : Nat → Int32} (hc : ∀ k, k < 5 → r3 k = nI (c k)) :
    Cls (upG (upG (upG z.1 5 (alv (z.1 5) x b)) 6 (z.1 6 + 1)) 7 (z.1 7 + a7), va_up z.2.1 2 c, z.2.2) (upd (upd (upd i 10 v10) 11 (i 11 + 1)) 12 v12) (va_up r 3 r3) := by
  obtain ⟨⟨h0, h1, h2, h3, h4, h5, h6, h7, h8⟩, ⟨p0, p1, p2, p3⟩, hk⟩ := h
  refine ⟨⟨h0, h1, h2, h3, h4, h10, ?_, h12, h8⟩, ⟨p0, p1, hc, p3⟩, hk⟩
  show i 11 + 1 = nI (z.1 6 + 1)
  rw [h6, nI_1]
theorem cl_hear {z : SG} {i : Nat → Int32} {r : Nat → Nat → Int32} {x y f : Nat} {h' : Int32} (h : Cls z i r) (h6' : z.1 8 < 6) :
    Cls (upG z.1 8 (z.1 8 + 1), hearW z x y f (if h' = 0 then 0 else 1), z.2.2) (upd i 13 (i 13 + 1)) (va_up (va_up (va_up (va_up r 4 (putv 6 (r 4) (i 13) (nI x))) 5 (putv 6 (r 5) (i 13) (nI y))) 6 (putv 6 (r 6) (i 13) (nI f))) 7 (putv 6 (r 7) (i 13) (if h' = 0 then 0 else 1))) := by
  obtain ⟨⟨h0, h1, h2, h3, h4, h5, h6, h7, h8⟩, ⟨p0, p1, p2, p3⟩, hk⟩ := h
  refine ⟨⟨h0, h1, h2, h3, h4, h5, h6, h7, ?_⟩, ⟨p0, p1, p2, fun k hk => ?_⟩, hk⟩
  · show i 13 + 1 = nI (z.1 8 + 1)
    rw [h8, nI_1]
  · show putv 6 (r 4) (i 13) (nI x) k = nI (upN (z.2.1 3) (z.1 8) x k) ∧ putv 6 (r 5) (i 13) (nI y) k = nI (upN (z.2.1 4) (z.1 8) y k) ∧ putv 6 (r 6) (i 13) (nI f) k = nI (upN (z.2.1 5) (z.1 8) f k) ∧ putv 6 (r 7) (i 13) (if h' = 0 then 0 else 1) k = nI (upN (z.2.1 6) (z.1 8) (if h' = 0 then 0 else 1) k)
    rw [h8, putv_nI h6' (by decide), putv_nI h6' (by decide), putv_nI h6' (by decide), putv_nI h6' (by decide)]
    unfold upd upN
    by_cases e : k = z.1 8
    · simp only [if_pos e]
      refine ⟨trivial, trivial, trivial, ?_⟩
      by_cases e2 : h' = 0
      · rw [if_pos e2, if_pos e2]; rfl
      · rw [if_neg e2, if_neg e2]; rfl
    · simp only [if_neg e]
      exact p3 k (by have hk' : k < z.1 8 + 1 := hk; omega)
theorem cpv_k {n : Nat} {f g : Nat → Int32} {k : Nat} (hn : n < 2 ^ 31) (hk : k < n) : cpv n f n g n k = f k := by
  rw [cpv_at hn hn n (Nat.le_refl _) (Nat.le_refl _), if_pos hk]
theorem cl_image {z : SG} {i : Nat → Int32} {r : Nat → Nat → Int32} (v : VS z) (h : Cls z i r) : Cls (imageG z, imageW z, z.2.2) (upd (upd (upd (upd (upd i 14 (i 10)) 15 (i 11)) 16 (i 12)) 17 (i 13)) 0 1) (va_up (va_up (va_up (va_up (va_up r 8 (cpv 5 (r 3) 5 (r 8) 5)) 9 (cpv 6 (r 4) 6 (r 9) 6)) 10 (cpv 6 (r 5) 6 (r 10) 6)) 11 (cpv 6 (r 6) 6 (r 11) 6)) 12 (cpv 6 (r 7) 6 (r 12) 6)) := by
  obtain ⟨⟨h0, h1, h2, h3, h4, h5, h6, h7, h8⟩, ⟨p0, p1, p2, p3⟩, hk⟩ := h
  have v8 := v.2.2.2.2.2.1
  refine ⟨⟨rfl, h1, h2, h3, h4, h5, h6, h7, h8⟩, ⟨p0, p1, p2, p3⟩, fun _ => ⟨⟨h5, h6, h7, h8⟩, fun k hk => ?_, fun k hk => ?_⟩⟩
  · show cpv 5 (r 3) 5 (r 8) 5 k = _
    rw [cpv_k (by decide) hk]; exact p2 k hk
  · have hk' : k < z.1 8 := hk
    show cpv 6 (r 4) 6 (r 9) 6 k = _ ∧ cpv 6 (r 5) 6 (r 10) 6 k = _ ∧ cpv 6 (r 6) 6 (r 11) 6 k = _ ∧ cpv 6 (r 7) 6 (r 12) 6 k = _
    rw [cpv_k (by decide) (by omega), cpv_k (by decide) (by omega), cpv_k (by decide) (by omega), cpv_k (by decide) (by omega)]
    exact p3 k hk'
theorem cl_restore {z : SG} {i : Nat → Int32} {r : Nat → Nat → Int32} (v : VS z) (h : Cls z i r) (hi : z.1 0 = 1) : Cls (restoreG z, restoreW z, z.2.2) (upd (upd (upd (upd i 10 (i 14)) 11 (i 15)) 12 (i 16)) 13 (i 17)) (va_up (va_up (va_up (va_up (va_up r 3 (cpv 5 (r 8) 5 (r 3) 5)) 4 (cpv 6 (r 9) 6 (r 4) 6)) 5 (cpv 6 (r 10) 6 (r 5) 6)) 6 (cpv 6 (r 11) 6 (r 6) 6)) 7 (cpv 6 (r 12) 6 (r 7) 6)) := by
  obtain ⟨⟨h0, h1, h2, h3, h4, h5, h6, h7, h8⟩, ⟨p0, p1, p2, p3⟩, hk⟩ := h
  obtain ⟨⟨k1, k2, k3, k4⟩, k5, k6⟩ := hk hi
  have v12 := (v.2.2.2.2.2.2.2.2.2.1 hi).2.1
  refine ⟨⟨h0, h1, h2, h3, h4, k1, k2, k3, k4⟩, ⟨p0, p1, fun k hk => ?_, fun k hk => ?_⟩, fun _ => ⟨⟨k1, k2, k3, k4⟩, k5, k6⟩⟩
  · show cpv 5 (r 8) 5 (r 3) 5 k = _
    rw [cpv_k (by decide) hk]; exact k5 k hk
  · have hk' : k < z.1 12 := hk
    show cpv 6 (r 9) 6 (r 4) 6 k = _ ∧ cpv 6 (r 10) 6 (r 5) 6 k = _ ∧ cpv 6 (r 11) 6 (r 6) 6 k = _ ∧ cpv 6 (r 12) 6 (r 7) 6 k = _
    rw [cpv_k (by decide) (by omega), cpv_k (by decide) (by omega), cpv_k (by decide) (by omega), cpv_k (by decide) (by omega)]
    exact k6 k hk'
theorem lay_lt {z : SG} {q : Nat} : layS z q < 1024 := lyv_lt _ 10
theorem sum_nI {f : Nat → Int32} {c : Nat → Nat} (h : ∀ k, k < 5 → f k = nI (c k)) : sumv f 5 = nI (sumN c) := by
  show (((((0 + f 0) + f 1) + f 2) + f 3) + f 4) = _
  rw [h 0 (by decide), h 1 (by decide), h 2 (by decide), h 3 (by decide), h 4 (by decide), show (0 : Int32) = nI 0 from rfl, nI_add, nI_add, nI_add, nI_add, nI_add]
  unfold sumN
  rw [Nat.zero_add]
