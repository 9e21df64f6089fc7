set_option maxHeartbeats 4000000 in
set_option maxRecDepth 100000 in
theorem m_in (l : Launch) (D : va_G) (cI : ClassId) (tt : Nat × Nat × Nat) (v x y : Int64) : MetI (S := Unit) l yX4_in cX4_in 6 (some .boolean) (rm 0 0) D cI tt [.long v, .long x, .long y] [] (fun q _ => q = b2 (inb v x y)) (fun _ => []) := by
  refine met_ofI (by decide) (Nat.le_of_ble_eq_true rfl) ?_
  intro pP eE sS mM aV bB mE cC AA C hin
  refine z_conv (lv' := [(0, .long v), (2, .long x), (4, .long y)]) ⟨rfl, rfl, rfl, trivial⟩ rfl rfl ?_
  refine z_lload_n C (pc := 0) dX4_in_0 rfl ?_
  refine z_lload_n C (pc := 1) dX4_in_1 rfl ?_
  refine z_lcmp C (pc := 2) dX4_in_2 ?_
  refine z_if_lt C (pc := 3) (tgt := 17) dX4_in_3 (by decide) (fun c_1 => ?_) (fun c_1 => ?_)
  · refine z_iconst C (pc := 17) (v := 0) dX4_in_17 (by decide) ?_
    refine z_zret C (pc := 18) () dX4_in_18 rfl ?_ rfl
    simp only [lg_lt] at c_1
    simp [b2, inb, c_1]
  · refine z_lload_n C (pc := 6) dX4_in_6 rfl ?_
    refine z_lload C (pc := 7) dX4_in_7 rfl ?_
    refine z_lcmp C (pc := 9) dX4_in_9 ?_
    refine z_if_gt C (pc := 10) (tgt := 17) dX4_in_10 (by decide) (fun c_2 => ?_) (fun c_2 => ?_)
    · refine z_iconst C (pc := 17) (v := 0) dX4_in_17 (by decide) ?_
      refine z_zret C (pc := 18) () dX4_in_18 rfl ?_ rfl
      simp only [lg_lt] at c_1
      simp only [lg_gt] at c_2
      simp [b2, inb, c_1, c_2]
    · refine z_iconst C (pc := 13) (v := 1) dX4_in_13 (by decide) ?_
      refine z_goto C (pc := 14) (tgt := 18) dX4_in_14 (by decide) ?_
      refine z_zret C (pc := 18) () dX4_in_18 rfl ?_ rfl
      simp only [lg_lt] at c_1
      simp only [lg_gt] at c_2
      simp [b2, inb, c_1, c_2]

set_option maxHeartbeats 4000000 in
set_option maxRecDepth 100000 in
theorem m_copy (l : Launch) (D : va_G) (cI : ClassId) (tt : Nat × Nat × Nat) (b1 n1 b2 n2 : Nat) (f1 f2 : Nat → Int32) (h1 : n1 ≤ n2) (h2 : n2 < 2 ^ 31) : MetV (S := (Nat → Int32)) l yX4_copy cX4_copy 3 none (rm 0 0) D cI tt [.ref b1, .ref b2] [(b1, .inl (cI, n1, .inl f1)), (b2, .inl (cI, n2, .inl f2))] (fun g => g = cqv f1 f2 n1) (fun g => [(b1, .inl (cI, n1, .inl f1)), (b2, .inl (cI, n2, .inl g))]) := by
  refine met_ofV (by decide) (Nat.le_of_ble_eq_true rfl) ?_
  intro pP eE sS mM aV bB mE cC AA C hin
  refine z_conv (lv' := [(0, .ref b1), (1, .ref b2)]) ⟨rfl, rfl, trivial⟩ rfl rfl ?_
  refine z_iconst C (pc := 0) (v := 0) dX4_copy_0 (by decide) ?_
  refine z_istore_n C (pc := 1) (lv' := [(0, .ref b1), (1, .ref b2), (2, .int 0)]) dX4_copy_1 (Nat.le_of_ble_eq_true rfl) rfl rfl ?_
  have key2 : ∀ (fu2 : Nat) (j : Nat), n1 - j < fu2 → (j ≤ n1) → Z pP l eE (rm 0 0) sS mM aV bB mE cC D AA 3 0 0 (MQ bB (va_Qv (S := (Nat → Int32)) (fun g => g = cqv f1 f2 n1) (fun u t => va_P D vwCl ((fun g => [(b1, .inl (cI, n1, .inl f1)), (b2, .inl (cI, n2, .inl g))]) u) t.heap) AA) aV sS 0 0 AA) 2 [(0, .ref b1), (1, .ref b2), (2, .int (nI j))] [] [(b1, .inl (cI, n1, .inl f1)), (b2, .inl (cI, n2, .inl (cqv f1 f2 j)))] := by
    intro fu2
    induction fu2 with
    | zero => intro j hfu2; exact absurd hfu2 (Nat.not_lt_zero _)
    | succ fu2 ih2 =>
      intro j hfu2 hjn
      refine z_iload_n C (pc := 2) dX4_copy_2 rfl ?_
      refine z_aload_n C (pc := 3) dX4_copy_3 rfl ?_
      refine z_alen C (pc := 4) 0 rfl (v := (nI n1)) rfl dX4_copy_4 ?_
      refine z_icmp_ge C (pc := 5) (tgt := 20) dX4_copy_5 (by decide) (fun c_1 => ?_) (fun c_1 => ?_)
      · refine z_vret C (pc := 20) (cqv f1 f2 j) dX4_copy_20 ?_ rfl
        have hje : j = n1 := by
          have := ge_of_nI c_1 (by omega)
          omega
        rw [hje]
      · have hj : j < n1 := lt_of_nI c_1 (by omega)
        refine z_aload_n C (pc := 8) dX4_copy_8 rfl ?_
        refine z_iload_n C (pc := 9) dX4_copy_9 rfl ?_
        refine z_aload_n C (pc := 10) dX4_copy_10 rfl ?_
        refine z_iload_n C (pc := 11) dX4_copy_11 rfl ?_
        have h_2 : vp_in (nI j) n1 := by exact vp_in_nI hj (by omega)
        refine z_iald C (pc := 12) 0 rfl h_2 dX4_copy_12 ?_
        refine z_seti (y := f1 j) (by rw [nI_clamp (by omega)]) ?_
        have h_3 : vp_in (nI j) n2 := by exact vp_in_nI (by omega) h2
        refine z_iast C (pc := 13) 1 rfl h_3 (ws' := [(b1, .inl (cI, n1, .inl f1)), (b2, .inl (cI, n2, .inl (upd (cqv f1 f2 j) (nI j).toNatClampNeg (f1 j))))]) rfl dX4_copy_13 ?_
        refine z_iinc C (pc := 14) (v := ((nI j) + 1)) (lv' := [(0, .ref b1), (1, .ref b2), (2, .int ((nI j) + 1))]) dX4_copy_14 rfl rfl (Nat.le_of_ble_eq_true rfl) rfl rfl ?_
        refine z_goto C (pc := 17) (tgt := 2) dX4_copy_17 (by decide) ?_
        refine z_ws (st' := []) (ws' := [(b1, .inl (cI, n1, .inl f1)), (b2, .inl (cI, n2, .inl (cqv f1 f2 (j + 1))))]) (by rw [nI_clamp (by omega)]; rfl) rfl ?_
        refine z_lv (lv' := [(0, .ref b1), (1, .ref b2), (2, .int (nI (j + 1)))]) ⟨rfl, rfl, lki (nI_1 j), trivial⟩ ?_
        exact ih2 (j + 1) (by omega) hj
  refine z_ws (st' := []) (ws' := [(b1, .inl (cI, n1, .inl f1)), (b2, .inl (cI, n2, .inl (cqv f1 f2 0)))]) (rfl) rfl ?_
  refine z_lv (lv' := [(0, .ref b1), (1, .ref b2), (2, .int (nI 0))]) ⟨rfl, rfl, rfl, trivial⟩ ?_
  exact key2 (_ + 1) 0 (Nat.lt_succ_self _) (Nat.zero_le _)

set_option maxHeartbeats 4000000 in
set_option maxRecDepth 100000 in
theorem m_ones (l : Launch) (D : va_G) (cI : ClassId) (tt : Nat × Nat × Nat) (x : Nat) (hx : x < 2 ^ 31) : MetI (S := Unit) l yX4_ones cX4_ones 3 (some .int) (rm 0 0) D cI tt [.int (nI x)] [] (fun q _ => q = nI (sumk (fun _ => 1) (fun _ => 0) x 6)) (fun _ => []) := by
  refine met_ofI (by decide) (Nat.le_of_ble_eq_true rfl) ?_
  intro pP eE sS mM aV bB mE cC AA C hin
  refine z_conv (lv' := [(0, .int (nI x))]) ⟨rfl, trivial⟩ rfl rfl ?_
  refine z_iconst C (pc := 0) (v := 0) dX4_ones_0 (by decide) ?_
  refine z_istore_n C (pc := 1) (lv' := [(0, .int (nI x)), (1, .int 0)]) dX4_ones_1 (Nat.le_of_ble_eq_true rfl) rfl rfl ?_
  refine z_iconst C (pc := 2) (v := 0) dX4_ones_2 (by decide) ?_
  refine z_istore_n C (pc := 3) (lv' := [(0, .int (nI x)), (1, .int 0), (2, .int 0)]) dX4_ones_3 (Nat.le_of_ble_eq_true rfl) rfl rfl ?_
  have key4 : ∀ (fu4 : Nat) (k : Nat), 6 - k < fu4 → (k ≤ 6) → Z pP l eE (rm 0 0) sS mM aV bB mE cC D AA 3 0 0 (MQ bB (va_Qi (S := Unit) (fun q _ => q = nI (sumk (fun _ => 1) (fun _ => 0) x 6)) (fun u t => va_P D vwCl ((fun _ => []) u) t.heap) AA) aV sS 0 0 AA) 4 [(0, .int (nI x)), (1, .int (nI (sumk (fun _ => 1) (fun _ => 0) x k))), (2, .int (nI k))] [] [] := by
    intro fu4
    induction fu4 with
    | zero => intro k hfu4; exact absurd hfu4 (Nat.not_lt_zero _)
    | succ fu4 ih4 =>
      intro k hfu4 hk6
      refine z_iload_n C (pc := 4) dX4_ones_4 rfl ?_
      refine z_bipush C (pc := 5) (v := 6) dX4_ones_5 (by decide) ?_
      refine z_icmp_ge C (pc := 7) (tgt := 24) dX4_ones_7 (by decide) (fun c_1 => ?_) (fun c_1 => ?_)
      · refine z_iload_n C (pc := 24) dX4_ones_24 rfl ?_
        refine z_iret C (pc := 25) () dX4_ones_25 ?_ rfl
        have hke : k = 6 := by
          have := ge_of_nI (n := 6) c_1 (by decide)
          omega
        rw [hke]
      · have hk : k < 6 := lt_of_nI (n := 6) c_1 (by omega)
        refine z_iload_n C (pc := 10) dX4_ones_10 rfl ?_
        refine z_iload_n C (pc := 11) dX4_ones_11 rfl ?_
        refine z_iload_n C (pc := 12) dX4_ones_12 rfl ?_
        refine z_ishr C (pc := 13) dX4_ones_13 ?_
        refine z_iconst C (pc := 14) (v := 1) dX4_ones_14 (by decide) ?_
        refine z_iand C (pc := 15) dX4_ones_15 ?_
        refine z_iadd C (pc := 16) dX4_ones_16 ?_
        refine z_istore_n C (pc := 17) (lv' := [(0, .int (nI x)), (1, .int ((nI (sumk (fun _ => 1) (fun _ => 0) x k)) + (((nI x) >>> ((nI k) &&& 31)) &&& 1))), (2, .int (nI k))]) dX4_ones_17 (Nat.le_of_ble_eq_true rfl) rfl rfl ?_
        refine z_iinc C (pc := 18) (v := ((nI k) + 1)) (lv' := [(0, .int (nI x)), (1, .int ((nI (sumk (fun _ => 1) (fun _ => 0) x k)) + (((nI x) >>> ((nI k) &&& 31)) &&& 1))), (2, .int ((nI k) + 1))]) dX4_ones_18 rfl rfl (Nat.le_of_ble_eq_true rfl) rfl rfl ?_
        refine z_goto C (pc := 21) (tgt := 4) dX4_ones_21 (by decide) ?_
        refine z_lv (lv' := [(0, .int (nI x)), (1, .int (nI (sumk (fun _ => 1) (fun _ => 0) x (k + 1)))), (2, .int (nI (k + 1)))]) ⟨rfl, lki (by rw [shr_bt (by omega) hx, nI_add]; simp [sumk]), lki (nI_1 k), trivial⟩ ?_
        exact ih4 (k + 1) (by omega) hk
  refine z_lv (lv' := [(0, .int (nI x)), (1, .int (nI (sumk (fun _ => 1) (fun _ => 0) x 0))), (2, .int (nI 0))]) ⟨rfl, rfl, rfl, trivial⟩ ?_
  exact key4 (_ + 1) 0 (Nat.lt_succ_self _) (Nat.zero_le _)

set_option maxHeartbeats 4000000 in
set_option maxRecDepth 100000 in
theorem m_kindBy (l : Launch) (D : va_G) (cI : ClassId) (tt : Nat × Nat × Nat) (x : Int32) : MetI (S := Unit) l yX4_kindBy cX4_kindBy 1 (some .int) (rm 0 0) D cI tt [.int x] [] (fun q _ => q = kindOfv x) (fun _ => []) := by
  refine met_ofI (by decide) (Nat.le_of_ble_eq_true rfl) ?_
  intro pP eE sS mM aV bB mE cC AA C hin
  refine z_conv (lv' := [(0, .int x)]) ⟨rfl, trivial⟩ rfl rfl ?_
  refine z_iload_n C (pc := 0) dX4_kindBy_0 rfl ?_
  refine z_bipush C (pc := 1) (v := 109) dX4_kindBy_1 (by decide) ?_
  refine z_icmp_ne C (pc := 3) (tgt := 10) dX4_kindBy_3 (by decide) (fun c_1 => ?_) (fun c_1 => ?_)
  · refine z_iload_n C (pc := 10) dX4_kindBy_10 rfl ?_
    refine z_bipush C (pc := 11) (v := 112) dX4_kindBy_11 (by decide) ?_
    refine z_icmp_ne C (pc := 13) (tgt := 20) dX4_kindBy_13 (by decide) (fun c_2 => ?_) (fun c_2 => ?_)
    · refine z_iload_n C (pc := 20) dX4_kindBy_20 rfl ?_
      refine z_bipush C (pc := 21) (v := 100) dX4_kindBy_21 (by decide) ?_
      refine z_icmp_ne C (pc := 23) (tgt := 30) dX4_kindBy_23 (by decide) (fun c_3 => ?_) (fun c_3 => ?_)
      · refine z_iload_n C (pc := 30) dX4_kindBy_30 rfl ?_
        refine z_bipush C (pc := 31) (v := 98) dX4_kindBy_31 (by decide) ?_
        refine z_icmp_ne C (pc := 33) (tgt := 40) dX4_kindBy_33 (by decide) (fun c_4 => ?_) (fun c_4 => ?_)
        · refine z_iload_n C (pc := 40) dX4_kindBy_40 rfl ?_
          refine z_bipush C (pc := 41) (v := 104) dX4_kindBy_41 (by decide) ?_
          refine z_icmp_ne C (pc := 43) (tgt := 50) dX4_kindBy_43 (by decide) (fun c_5 => ?_) (fun c_5 => ?_)
          · refine z_iconst C (pc := 50) (v := (-1)) dX4_kindBy_50 (by decide) ?_
            refine z_iret C (pc := 51) () dX4_kindBy_51 ?_ rfl
            simp only [kindOfv, c_1, c_2, c_3, c_4, c_5, if_true, if_false, reduceIte] <;> decide
          · refine z_iconst C (pc := 46) (v := 4) dX4_kindBy_46 (by decide) ?_
            refine z_goto C (pc := 47) (tgt := 51) dX4_kindBy_47 (by decide) ?_
            refine z_iret C (pc := 51) () dX4_kindBy_51 ?_ rfl
            simp only [kindOfv, c_1, c_2, c_3, c_4, c_5, if_true, if_false, reduceIte] <;> decide
        · refine z_iconst C (pc := 36) (v := 3) dX4_kindBy_36 (by decide) ?_
          refine z_goto C (pc := 37) (tgt := 51) dX4_kindBy_37 (by decide) ?_
          refine z_iret C (pc := 51) () dX4_kindBy_51 ?_ rfl
          simp only [kindOfv, c_1, c_2, c_3, c_4, if_true, if_false, reduceIte] <;> decide
      · refine z_iconst C (pc := 26) (v := 2) dX4_kindBy_26 (by decide) ?_
        refine z_goto C (pc := 27) (tgt := 51) dX4_kindBy_27 (by decide) ?_
        refine z_iret C (pc := 51) () dX4_kindBy_51 ?_ rfl
        simp only [kindOfv, c_1, c_2, c_3, if_true, if_false, reduceIte] <;> decide
    · refine z_iconst C (pc := 16) (v := 1) dX4_kindBy_16 (by decide) ?_
      refine z_goto C (pc := 17) (tgt := 51) dX4_kindBy_17 (by decide) ?_
      refine z_iret C (pc := 51) () dX4_kindBy_51 ?_ rfl
      simp only [kindOfv, c_1, c_2, if_true, if_false, reduceIte] <;> decide
  · refine z_iconst C (pc := 6) (v := 0) dX4_kindBy_6 (by decide) ?_
    refine z_goto C (pc := 7) (tgt := 51) dX4_kindBy_7 (by decide) ?_
    refine z_iret C (pc := 51) () dX4_kindBy_51 ?_ rfl
    simp only [kindOfv, c_1, if_true, if_false, reduceIte] <;> decide

set_option maxHeartbeats 4000000 in
set_option maxRecDepth 100000 in
theorem m_sumOf (l : Launch) (D : va_G) (cI : ClassId) (tt : Nat × Nat × Nat) (b1 : Nat) (f : Nat → Int32) : MetI (S := Unit) l yX4_sumOf cX4_sumOf 3 (some .int) (rm 0 0) D cI tt [.ref b1] [(b1, .inl (cI, 7, .inl f))] (fun q _ => q = sumw f 5) (fun _ => [(b1, .inl (cI, 7, .inl f))]) := by
  refine met_ofI (by decide) (Nat.le_of_ble_eq_true rfl) ?_
  intro pP eE sS mM aV bB mE cC AA C hin
  refine z_conv (lv' := [(0, .ref b1)]) ⟨rfl, trivial⟩ rfl rfl ?_
  refine z_iconst C (pc := 0) (v := 0) dX4_sumOf_0 (by decide) ?_
  refine z_istore_n C (pc := 1) (lv' := [(0, .ref b1), (1, .int 0)]) dX4_sumOf_1 (Nat.le_of_ble_eq_true rfl) rfl rfl ?_
  refine z_iconst C (pc := 2) (v := 1) dX4_sumOf_2 (by decide) ?_
  refine z_istore_n C (pc := 3) (lv' := [(0, .ref b1), (1, .int 0), (2, .int 1)]) dX4_sumOf_3 (Nat.le_of_ble_eq_true rfl) rfl rfl ?_
  have key4 : ∀ (fu4 : Nat) (k : Nat), 5 - k < fu4 → (k ≤ 5) → Z pP l eE (rm 0 0) sS mM aV bB mE cC D AA 3 0 0 (MQ bB (va_Qi (S := Unit) (fun q _ => q = sumw f 5) (fun u t => va_P D vwCl ((fun _ => [(b1, .inl (cI, 7, .inl f))]) u) t.heap) AA) aV sS 0 0 AA) 4 [(0, .ref b1), (1, .int (sumw f k)), (2, .int (nI (k + 1)))] [] [(b1, .inl (cI, 7, .inl f))] := by
    intro fu4
    induction fu4 with
    | zero => intro k hfu4; exact absurd hfu4 (Nat.not_lt_zero _)
    | succ fu4 ih4 =>
      intro k hfu4 hk5
      refine z_iload_n C (pc := 4) dX4_sumOf_4 rfl ?_
      refine z_bipush C (pc := 5) (v := 6) dX4_sumOf_5 (by decide) ?_
      refine z_icmp_ge C (pc := 7) (tgt := 22) dX4_sumOf_7 (by decide) (fun c_1 => ?_) (fun c_1 => ?_)
      · refine z_iload_n C (pc := 22) dX4_sumOf_22 rfl ?_
        refine z_iret C (pc := 23) () dX4_sumOf_23 ?_ rfl
        have hke : k = 5 := by
          have := ge_of_nI (n := 6) (j := k + 1) c_1 (by decide)
          omega
        rw [hke]
      · have hk : k < 5 := by
          have := lt_of_nI (n := 6) (j := k + 1) c_1 (by omega)
          omega
        refine z_iload_n C (pc := 10) dX4_sumOf_10 rfl ?_
        refine z_aload_n C (pc := 11) dX4_sumOf_11 rfl ?_
        refine z_iload_n C (pc := 12) dX4_sumOf_12 rfl ?_
        have h_2 : vp_in (nI (k + 1)) 7 := by exact vp_in_nI (by omega) (by decide)
        refine z_iald C (pc := 13) 0 rfl h_2 dX4_sumOf_13 ?_
        refine z_seti (y := f (k + 1)) (by rw [nI_clamp (by omega)]) ?_
        refine z_iadd C (pc := 14) dX4_sumOf_14 ?_
        refine z_istore_n C (pc := 15) (lv' := [(0, .ref b1), (1, .int ((sumw f k) + (f (k + 1)))), (2, .int (nI (k + 1)))]) dX4_sumOf_15 (Nat.le_of_ble_eq_true rfl) rfl rfl ?_
        refine z_iinc C (pc := 16) (v := ((nI (k + 1)) + 1)) (lv' := [(0, .ref b1), (1, .int ((sumw f k) + (f (k + 1)))), (2, .int ((nI (k + 1)) + 1))]) dX4_sumOf_16 rfl rfl (Nat.le_of_ble_eq_true rfl) rfl rfl ?_
        refine z_goto C (pc := 19) (tgt := 4) dX4_sumOf_19 (by decide) ?_
        refine z_lv (lv' := [(0, .ref b1), (1, .int (sumw f (k + 1))), (2, .int (nI ((k + 1) + 1)))]) ⟨rfl, rfl, lki (nI_1 _), trivial⟩ ?_
        exact ih4 (k + 1) (by omega) hk
  refine z_lv (lv' := [(0, .ref b1), (1, .int (sumw f 0)), (2, .int (nI (0 + 1)))]) ⟨rfl, rfl, rfl, trivial⟩ ?_
  exact key4 (_ + 1) 0 (Nat.lt_succ_self _) (Nat.zero_le _)
