set_option maxHeartbeats 4000000 in
set_option maxRecDepth 100000 in
theorem g_at (l : Launch) (D : va_G) (cI : ClassId) (tt : Nat × Nat × Nat) (x : Int32) (m : Nat) (h0 : 0 < m) (hm : m < 2 ^ 31) : MetI (S := Unit) l yL_at cL_at 2 (some .int) (rm 0 0) D cI tt [.int x, .int (nI m)] [] (fun q _ => ∃ k, k < m ∧ q = nI k) (fun _ => []) := by
  refine met_ofI (by decide) (Nat.le_of_ble_eq_true rfl) ?_
  intro pP eE sS mM aV bB mE cC AA C hin
  refine z_conv (lv' := [(0, .int x), (1, .int (nI m))]) ⟨rfl, rfl, trivial⟩ rfl rfl ?_
  refine z_iload_n C (pc := 0) dL_at_0 rfl ?_
  refine z_iconst C (pc := 1) (v := nI 1) dL_at_1 (by decide) ?_
  refine z_iushr C (pc := 2) (v := ((x).toUInt32 >>> (((nI 1) : Int32).toUInt32 &&& Int32.toUInt32 31)).toInt32) dL_at_2 rfl ?_
  refine z_iload_n C (pc := 3) dL_at_3 rfl ?_
  refine z_irem C (pc := 4) dL_at_4 (nI_ne0 h0 hm) ?_
  refine z_iret C (pc := 5) () dL_at_5 ?_ rfl
  exact ushr_rem x h0 hm

set_option maxHeartbeats 4000000 in
set_option maxRecDepth 100000 in
theorem g_in (l : Launch) (D : va_G) (cI : ClassId) (tt : Nat × Nat × Nat) (x k : Nat) (hx : x < 2 ^ 31) (hk : k < 32) : MetI (S := Unit) l yL_in cL_in 2 (some .boolean) (rm 0 0) D cI tt [.int (nI x), .int (nI k)] [] (fun q _ => q = b2 (inv x k)) (fun _ => []) := by
  refine met_ofI (by decide) (Nat.le_of_ble_eq_true rfl) ?_
  intro pP eE sS mM aV bB mE cC AA C hin
  refine z_conv (lv' := [(0, .int (nI x)), (1, .int (nI k))]) ⟨rfl, rfl, trivial⟩ rfl rfl ?_
  refine z_iload_n C (pc := 0) dL_in_0 rfl ?_
  refine z_iload_n C (pc := 1) dL_in_1 rfl ?_
  refine z_ishr C (pc := 2) dL_in_2 ?_
  refine z_iconst C (pc := 3) (v := nI 1) dL_in_3 (by decide) ?_
  refine z_iand C (pc := 4) dL_in_4 ?_
  refine z_seti (y := nI (bt x k)) (shr_bt hk hx) ?_
  refine z_iconst C (pc := 5) (v := nI 1) dL_in_5 (by decide) ?_
  refine z_icmp_ne C (pc := 6) (tgt := 13) dL_in_6 (by decide) (fun c_1 => ?_) (fun c_1 => ?_)
  · refine z_iconst C (pc := 13) (v := nI 0) dL_in_13 (by decide) ?_
    refine z_zret C (pc := 14) () dL_in_14 rfl ?_ rfl
    have h1 : ¬ bt x k = 1 := fun e => c_1 (by rw [e])
    unfold inv b2
    rw [decide_eq_false h1]
    rfl
  · refine z_iconst C (pc := 9) (v := nI 1) dL_in_9 (by decide) ?_
    refine z_goto C (pc := 10) (tgt := 14) dL_in_10 (by decide) ?_
    refine z_zret C (pc := 14) () dL_in_14 rfl ?_ rfl
    have h1 : bt x k = 1 := (nI_eq (by have := bt_lt x k; omega) (by decide)).mp c_1
    unfold inv b2
    rw [decide_eq_true h1]
    rfl

set_option maxHeartbeats 4000000 in
set_option maxRecDepth 100000 in
theorem g_size (l : Launch) (D : va_G) (cI : ClassId) (tt : Nat × Nat × Nat) (x : Nat) (hx : x < 2 ^ 31) : MetI (S := Unit) l yL_size cL_size 3 (some .int) (rm 0 0) D cI tt [.int (nI x)] [] (fun q _ => q = nI (pcn x)) (fun _ => []) := by
  refine met_ofI (by decide) (Nat.le_of_ble_eq_true rfl) ?_
  intro pP eE sS mM aV bB mE cC AA C hin
  refine z_conv (lv' := [(0, .int (nI x))]) ⟨rfl, trivial⟩ rfl rfl ?_
  refine z_iconst C (pc := 0) (v := nI 0) dL_size_0 (by decide) ?_
  refine z_istore_n C (pc := 1) (lv' := [(0, .int (nI x)), (1, .int (nI 0))]) dL_size_1 (Nat.le_of_ble_eq_true rfl) rfl rfl ?_
  refine z_iconst C (pc := 2) (v := nI 0) dL_size_2 (by decide) ?_
  refine z_istore_n C (pc := 3) (lv' := [(0, .int (nI x)), (1, .int (nI 0)), (2, .int (nI 0))]) dL_size_3 (Nat.le_of_ble_eq_true rfl) rfl rfl ?_
  have key4 : ∀ (fu4 : Nat) (k : Nat), 10 - k < fu4 → (k ≤ 10) → Z pP l eE (rm 0 0) sS mM aV bB mE cC D AA 3 0 0 (MQ bB (va_Qi (S := Unit) (fun q _ => q = nI (pcn x)) (fun u t => va_P D vwCl ((fun _ => []) u) t.heap) AA) aV sS 0 0 AA) 4 [(0, .int (nI x)), (1, .int (nI (sumk (fun _ => 1) (fun _ => 0) x k))), (2, .int (nI k))] [] [] := by
    intro fu4
    induction fu4 with
    | zero => intro k hfu4; exact absurd hfu4 (Nat.not_lt_zero _)
    | succ fu4 ih4 =>
      intro k hfu4 hk10
      refine z_iload_n C (pc := 4) dL_size_4 rfl ?_
      refine z_bipush C (pc := 5) (v := nI 10) dL_size_5 (by decide) ?_
      refine z_icmp_ge C (pc := 7) (tgt := 24) dL_size_7 (by decide) (fun c_1 => ?_) (fun c_1 => ?_)
      · refine z_iload_n C (pc := 24) dL_size_24 rfl ?_
        refine z_iret C (pc := 25) () dL_size_25 ?_ rfl
        have hke : k = 10 := by
          have := ge_of_nI (n := 10) c_1 (by decide)
          omega
        rw [hke]; rfl
      · have hk : k < 10 := lt_of_nI (n := 10) c_1 (by omega)
        refine z_iload_n C (pc := 10) dL_size_10 rfl ?_
        refine z_iload_n C (pc := 11) dL_size_11 rfl ?_
        refine z_iload_n C (pc := 12) dL_size_12 rfl ?_
        refine z_ishr C (pc := 13) dL_size_13 ?_
        refine z_iconst C (pc := 14) (v := nI 1) dL_size_14 (by decide) ?_
        refine z_iand C (pc := 15) dL_size_15 ?_
        refine z_seti (y := nI (bt x k)) (shr_bt (by omega) hx) ?_
        refine z_iadd C (pc := 16) dL_size_16 ?_
        refine z_seti (y := nI ((sumk (fun _ => 1) (fun _ => 0) x k) + (bt x k))) (nI_add _ _) ?_
        refine z_istore_n C (pc := 17) (lv' := [(0, .int (nI x)), (1, .int (nI ((sumk (fun _ => 1) (fun _ => 0) x k) + (bt x k)))), (2, .int (nI k))]) dL_size_17 (Nat.le_of_ble_eq_true rfl) rfl rfl ?_
        refine z_iinc C (pc := 18) (v := ((nI k) + 1)) (lv' := [(0, .int (nI x)), (1, .int (nI ((sumk (fun _ => 1) (fun _ => 0) x k) + (bt x k)))), (2, .int ((nI k) + 1))]) dL_size_18 rfl rfl (Nat.le_of_ble_eq_true rfl) rfl rfl ?_
        refine z_goto C (pc := 21) (tgt := 4) dL_size_21 (by decide) ?_
        refine z_lv (lv' := [(0, .int (nI x)), (1, .int (nI (sumk (fun _ => 1) (fun _ => 0) x (k + 1)))), (2, .int (nI (k + 1)))]) ⟨rfl, lki (by simp [sumk]), lki (nI_1 k), trivial⟩ ?_
        exact ih4 (k + 1) (by omega) hk
  refine z_lv (lv' := [(0, .int (nI x)), (1, .int (nI (sumk (fun _ => 1) (fun _ => 0) x 0))), (2, .int (nI 0))]) ⟨rfl, rfl, rfl, trivial⟩ ?_
  exact key4 (_ + 1) 0 (Nat.lt_succ_self _) (Nat.zero_le _)

set_option maxHeartbeats 4000000 in
set_option maxRecDepth 100000 in
theorem g_pulls (l : Launch) (D : va_G) (cI : ClassId) (tt : Nat × Nat × Nat) (t : Nat) (ht : t ≤ 4) : MetI (S := Unit) l yL_pulls cL_pulls 1 (some .int) (rm 0 0) D cI tt [.int (nI t)] [] (fun q _ => q = nI (pls t)) (fun _ => []) := by
  refine met_ofI (by decide) (Nat.le_of_ble_eq_true rfl) ?_
  intro pP eE sS mM aV bB mE cC AA C hin
  refine z_conv (lv' := [(0, .int (nI t))]) ⟨rfl, trivial⟩ rfl rfl ?_
  refine z_iload_n C (pc := 0) dL_pulls_0 rfl ?_
  refine z_if_ne C (pc := 1) (tgt := 8) dL_pulls_1 (by decide) (fun c_1 => ?_) (fun c_1 => ?_)
  · refine z_iload_n C (pc := 8) dL_pulls_8 rfl ?_
    refine z_iconst C (pc := 9) (v := nI 1) dL_pulls_9 (by decide) ?_
    refine z_icmp_ne C (pc := 10) (tgt := 18) dL_pulls_10 (by decide) (fun c_2 => ?_) (fun c_2 => ?_)
    · refine z_iload_n C (pc := 18) dL_pulls_18 rfl ?_
      refine z_iconst C (pc := 19) (v := nI 4) dL_pulls_19 (by decide) ?_
      refine z_icmp_ne C (pc := 20) (tgt := 27) dL_pulls_20 (by decide) (fun c_3 => ?_) (fun c_3 => ?_)
      · refine z_iconst C (pc := 27) (v := nI 2) dL_pulls_27 (by decide) ?_
        refine z_iret C (pc := 28) () dL_pulls_28 ?_ rfl
        rcases le4 ht with rfl | rfl | rfl | rfl | rfl <;> first | rfl | exact absurd rfl c_1 | exact absurd c_1 (by decide) | exact absurd rfl c_2 | exact absurd c_2 (by decide) | exact absurd rfl c_3 | exact absurd c_3 (by decide)
      · refine z_iconst C (pc := 23) (v := nI 3) dL_pulls_23 (by decide) ?_
        refine z_goto C (pc := 24) (tgt := 28) dL_pulls_24 (by decide) ?_
        refine z_iret C (pc := 28) () dL_pulls_28 ?_ rfl
        rcases le4 ht with rfl | rfl | rfl | rfl | rfl <;> first | rfl | exact absurd rfl c_1 | exact absurd c_1 (by decide) | exact absurd rfl c_2 | exact absurd c_2 (by decide) | exact absurd rfl c_3 | exact absurd c_3 (by decide)
    · refine z_bipush C (pc := 13) (v := nI 8) dL_pulls_13 (by decide) ?_
      refine z_goto C (pc := 15) (tgt := 28) dL_pulls_15 (by decide) ?_
      refine z_iret C (pc := 28) () dL_pulls_28 ?_ rfl
      rcases le4 ht with rfl | rfl | rfl | rfl | rfl <;> first | rfl | exact absurd rfl c_1 | exact absurd c_1 (by decide) | exact absurd rfl c_2 | exact absurd c_2 (by decide)
  · refine z_iconst C (pc := 4) (v := nI 4) dL_pulls_4 (by decide) ?_
    refine z_goto C (pc := 5) (tgt := 28) dL_pulls_5 (by decide) ?_
    refine z_iret C (pc := 28) () dL_pulls_28 ?_ rfl
    rcases le4 ht with rfl | rfl | rfl | rfl | rfl <;> first | rfl | exact absurd rfl c_1 | exact absurd c_1 (by decide)

set_option maxHeartbeats 4000000 in
set_option maxRecDepth 100000 in
theorem g_feeds (l : Launch) (D : va_G) (cI : ClassId) (tt : Nat × Nat × Nat) (t : Nat) (ht : t ≤ 4) : MetI (S := Unit) l yL_feeds cL_feeds 1 (some .int) (rm 0 0) D cI tt [.int (nI t)] [] (fun q _ => q = nI (fds t)) (fun _ => []) := by
  refine met_ofI (by decide) (Nat.le_of_ble_eq_true rfl) ?_
  intro pP eE sS mM aV bB mE cC AA C hin
  refine z_conv (lv' := [(0, .int (nI t))]) ⟨rfl, trivial⟩ rfl rfl ?_
  refine z_iload_n C (pc := 0) dL_feeds_0 rfl ?_
  refine z_iconst C (pc := 1) (v := nI 1) dL_feeds_1 (by decide) ?_
  refine z_icmp_ne C (pc := 2) (tgt := 10) dL_feeds_2 (by decide) (fun c_1 => ?_) (fun c_1 => ?_)
  · refine z_iload_n C (pc := 10) dL_feeds_10 rfl ?_
    refine z_iconst C (pc := 11) (v := nI 2) dL_feeds_11 (by decide) ?_
    refine z_icmp_ne C (pc := 12) (tgt := 19) dL_feeds_12 (by decide) (fun c_2 => ?_) (fun c_2 => ?_)
    · refine z_iload_n C (pc := 19) dL_feeds_19 rfl ?_
      refine z_iconst C (pc := 20) (v := nI 4) dL_feeds_20 (by decide) ?_
      refine z_icmp_ne C (pc := 21) (tgt := 28) dL_feeds_21 (by decide) (fun c_3 => ?_) (fun c_3 => ?_)
      · refine z_iconst C (pc := 28) (v := nI 0) dL_feeds_28 (by decide) ?_
        refine z_iret C (pc := 29) () dL_feeds_29 ?_ rfl
        rcases le4 ht with rfl | rfl | rfl | rfl | rfl <;> first | rfl | exact absurd rfl c_1 | exact absurd c_1 (by decide) | exact absurd rfl c_2 | exact absurd c_2 (by decide) | exact absurd rfl c_3 | exact absurd c_3 (by decide)
      · refine z_iconst C (pc := 24) (v := nI 3) dL_feeds_24 (by decide) ?_
        refine z_goto C (pc := 25) (tgt := 29) dL_feeds_25 (by decide) ?_
        refine z_iret C (pc := 29) () dL_feeds_29 ?_ rfl
        rcases le4 ht with rfl | rfl | rfl | rfl | rfl <;> first | rfl | exact absurd rfl c_1 | exact absurd c_1 (by decide) | exact absurd rfl c_2 | exact absurd c_2 (by decide) | exact absurd rfl c_3 | exact absurd c_3 (by decide)
    · refine z_iconst C (pc := 15) (v := nI 2) dL_feeds_15 (by decide) ?_
      refine z_goto C (pc := 16) (tgt := 29) dL_feeds_16 (by decide) ?_
      refine z_iret C (pc := 29) () dL_feeds_29 ?_ rfl
      rcases le4 ht with rfl | rfl | rfl | rfl | rfl <;> first | rfl | exact absurd rfl c_1 | exact absurd c_1 (by decide) | exact absurd rfl c_2 | exact absurd c_2 (by decide)
  · refine z_bipush C (pc := 5) (v := nI 6) dL_feeds_5 (by decide) ?_
    refine z_goto C (pc := 7) (tgt := 29) dL_feeds_7 (by decide) ?_
    refine z_iret C (pc := 29) () dL_feeds_29 ?_ rfl
    rcases le4 ht with rfl | rfl | rfl | rfl | rfl <;> first | rfl | exact absurd rfl c_1 | exact absurd c_1 (by decide)

set_option maxHeartbeats 4000000 in
set_option maxRecDepth 100000 in
theorem g_sumP (l : Launch) (D : va_G) (cI : ClassId) (tt : Nat × Nat × Nat) (ab : Nat) (fb : Nat → Int32) (kd : Nat → Nat) (n : Nat) (hb : BV fb kd n) (x : Nat) (hx : x < 2 ^ 31) : MetI (S := Unit) l yL_sum cL_sum 5 (some .int) (rm 1 21) D cI tt [.ref ab, .int (nI x), .int (nI 0)] [(ab, .inl (cI, 7, .inl fb))] (fun q _ => q = nI (sumk pls kd x n)) (fun _ => [(ab, .inl (cI, 7, .inl fb))]) := by
  have hn6 := hb.2.1
  refine met_ofI (by decide) (Nat.le_of_ble_eq_true rfl) ?_
  intro pP eE sS mM aV bB mE cC AA C hin
  refine z_conv (lv' := [(0, .ref ab), (1, .int (nI x)), (2, .int (nI 0))]) ⟨rfl, rfl, rfl, trivial⟩ rfl rfl ?_
  refine z_iconst C (pc := 0) (v := nI 0) dL_sum_0 (by decide) ?_
  refine z_istore_n C (pc := 1) (lv' := [(0, .ref ab), (1, .int (nI x)), (2, .int (nI 0)), (3, .int (nI 0))]) dL_sum_1 (Nat.le_of_ble_eq_true rfl) rfl rfl ?_
  refine z_iconst C (pc := 2) (v := nI 0) dL_sum_2 (by decide) ?_
  refine z_istore C (pc := 3) (lv' := [(0, .ref ab), (1, .int (nI x)), (2, .int (nI 0)), (3, .int (nI 0)), (4, .int (nI 0))]) dL_sum_3 (Nat.le_of_ble_eq_true rfl) rfl rfl ?_
  have key5 : ∀ (fu5 : Nat) (k : Nat), n - k < fu5 → (k ≤ n) → Z pP l eE (rm 1 21) sS mM aV bB mE cC D AA 5 0 0 (MQ bB (va_Qi (S := Unit) (fun q _ => q = nI (sumk pls kd x n)) (fun u t => va_P D vwCl ((fun _ => [(ab, .inl (cI, 7, .inl fb))]) u) t.heap) AA) aV sS 0 0 AA) 5 [(0, .ref ab), (1, .int (nI x)), (2, .int (nI 0)), (3, .int (nI (sumk pls kd x k))), (4, .int (nI k))] [] [(ab, .inl (cI, 7, .inl fb))] := by
    intro fu5
    induction fu5 with
    | zero => intro k hfu5; exact absurd hfu5 (Nat.not_lt_zero _)
    | succ fu5 ih5 =>
      intro k hfu5 hkn
      refine z_iload C (pc := 5) dL_sum_5 rfl ?_
      refine z_aload_n C (pc := 7) dL_sum_7 rfl ?_
      refine z_iconst C (pc := 8) (v := nI 0) dL_sum_8 (by decide) ?_
      have h_1 : vp_in (nI 0) 7 := by exact vp_in_nI (by omega) (by decide)
      refine z_iald C (pc := 9) 0 rfl h_1 dL_sum_9 ?_
      refine z_seti (y := (fb 0)) (by rw [nI_clamp (by omega)]) ?_
      refine z_seti (y := nI n) hb.1 ?_
      refine z_icmp_ge C (pc := 10) (tgt := 62) dL_sum_10 (by decide) (fun c_2 => ?_) (fun c_2 => ?_)
      · refine z_iload_n C (pc := 62) dL_sum_62 rfl ?_
        refine z_iret C (pc := 63) () dL_sum_63 ?_ rfl
        have hke : k = n := by
          have := ge_of_nI c_2 (by omega)
          omega
        rw [hke]
      · have hk : k < n := lt_of_nI c_2 (by omega)
        have hbk := hb.2.2 k hk
        refine z_iload_n C (pc := 13) dL_sum_13 rfl ?_
        refine z_iload C (pc := 14) dL_sum_14 rfl ?_
        refine z_calli C (isC := []) rfl (by exact fun _ => rfl) (runS C (wc := []) (pc := 16) (rY' := rm 0 0) (nn := 2) (As := [.int (nI x), .int (nI k)]) (rest := []) (g_in l D cI tt x k hx (by omega)) rfl rfl ⟨rfl, rfl, ⟨Nat.le_of_ble_eq_true rfl, Nat.le_of_ble_eq_true rfl⟩, Nat.le_of_ble_eq_true rfl, Nat.le_of_ble_eq_true rfl⟩ wl_L_20 ws_L_in wi_L wc_L_in (by decide +kernel) rfl rfl (Nat.le_of_ble_eq_true rfl) dL_sum_16) (fun r_3 u_3 h_3 => ?_)
        subst h_3
        refine z_ws (st' := [.int (b2 (inv x k))]) (ws' := [(ab, .inl (cI, 7, .inl fb))]) rfl rfl ?_
        refine z_if_eq C (pc := 19) (tgt := 56) dL_sum_19 (by decide) (fun c_4 => ?_) (fun c_4 => ?_)
        · have hin0 : inv x k = false := b2_f c_4
          refine z_iinc C (pc := 56) (v := ((nI k) + 1)) (lv' := [(0, .ref ab), (1, .int (nI x)), (2, .int (nI 0)), (3, .int (nI (sumk pls kd x k))), (4, .int ((nI k) + 1))]) dL_sum_56 rfl rfl (Nat.le_of_ble_eq_true rfl) rfl rfl ?_
          refine z_goto C (pc := 59) (tgt := 5) dL_sum_59 (by decide) ?_
          refine z_lv (lv' := [(0, .ref ab), (1, .int (nI x)), (2, .int (nI 0)), (3, .int (nI (sumk pls kd x (k + 1)))), (4, .int (nI (k + 1)))]) ⟨rfl, rfl, rfl, lki (by have e : bt x k = 0 := (bt_01 x k).resolve_right (of_decide_eq_false hin0); simp [sumk, e]), lki (nI_1 k), trivial⟩ ?_
          exact ih5 (k + 1) (by omega) hk
        · have hin0 : inv x k = true := b2_t c_4
          refine z_iload_n C (pc := 22) dL_sum_22 rfl ?_
          refine z_iload_n C (pc := 23) dL_sum_23 rfl ?_
          refine z_if_ne C (pc := 24) (tgt := 39) dL_sum_24 (by decide) (fun c_5 => ?_) (fun c_5 => ?_)
          · exact absurd c_5 (by decide)
          · refine z_aload_n C (pc := 27) dL_sum_27 rfl ?_
            refine z_iconst C (pc := 28) (v := nI 1) dL_sum_28 (by decide) ?_
            refine z_iload C (pc := 29) dL_sum_29 rfl ?_
            refine z_iadd C (pc := 31) dL_sum_31 ?_
            refine z_seti (y := nI (1 + k)) (nI_add _ _) ?_
            have h_6 : vp_in (nI (1 + k)) 7 := by exact vp_in_nI (by omega) (by decide)
            refine z_iald C (pc := 32) 0 rfl h_6 dL_sum_32 ?_
            refine z_seti (y := (fb (1 + k))) (by rw [nI_clamp (by omega)]) ?_
            refine z_seti (y := nI (kd k)) (by rw [Nat.add_comm]; exact hbk.1) ?_
            refine z_calli C (isC := []) rfl (by exact fun _ => rfl) (runS C (wc := []) (pc := 33) (rY' := rm 0 0) (nn := 1) (As := [.int (nI (kd k))]) (rest := [.int (nI (sumk pls kd x k))]) (g_pulls l D cI tt (kd k) hbk.2) rfl rfl ⟨rfl, rfl, ⟨Nat.le_of_ble_eq_true rfl, Nat.le_of_ble_eq_true rfl⟩, Nat.le_of_ble_eq_true rfl, Nat.le_of_ble_eq_true rfl⟩ wl_L_24 ws_L_pulls wi_L wc_L_pulls (by decide +kernel) rfl rfl (Nat.le_of_ble_eq_true rfl) dL_sum_33) (fun r_7 u_7 h_7 => ?_)
            subst h_7
            refine z_ws (st' := [.int (nI (pls (kd k))), .int (nI (sumk pls kd x k))]) (ws' := [(ab, .inl (cI, 7, .inl fb))]) rfl rfl ?_
            refine z_goto C (pc := 36) (tgt := 54) dL_sum_36 (by decide) ?_
            refine z_iadd C (pc := 54) dL_sum_54 ?_
            refine z_seti (y := nI ((sumk pls kd x k) + (pls (kd k)))) (nI_add _ _) ?_
            refine z_istore_n C (pc := 55) (lv' := [(0, .ref ab), (1, .int (nI x)), (2, .int (nI 0)), (3, .int (nI ((sumk pls kd x k) + (pls (kd k))))), (4, .int (nI k))]) dL_sum_55 (Nat.le_of_ble_eq_true rfl) rfl rfl ?_
            refine z_iinc C (pc := 56) (v := ((nI k) + 1)) (lv' := [(0, .ref ab), (1, .int (nI x)), (2, .int (nI 0)), (3, .int (nI ((sumk pls kd x k) + (pls (kd k))))), (4, .int ((nI k) + 1))]) dL_sum_56 rfl rfl (Nat.le_of_ble_eq_true rfl) rfl rfl ?_
            refine z_goto C (pc := 59) (tgt := 5) dL_sum_59 (by decide) ?_
            refine z_lv (lv' := [(0, .ref ab), (1, .int (nI x)), (2, .int (nI 0)), (3, .int (nI (sumk pls kd x (k + 1)))), (4, .int (nI (k + 1)))]) ⟨rfl, rfl, rfl, lki (by have e : bt x k = 1 := of_decide_eq_true hin0; simp [sumk, e]), lki (nI_1 k), trivial⟩ ?_
            exact ih5 (k + 1) (by omega) hk
  refine z_lv (lv' := [(0, .ref ab), (1, .int (nI x)), (2, .int (nI 0)), (3, .int (nI (sumk pls kd x 0))), (4, .int (nI 0))]) ⟨rfl, rfl, rfl, rfl, rfl, trivial⟩ ?_
  exact key5 (_ + 1) 0 (Nat.lt_succ_self _) (Nat.zero_le _)

set_option maxHeartbeats 4000000 in
set_option maxRecDepth 100000 in
theorem g_sumE (l : Launch) (D : va_G) (cI : ClassId) (tt : Nat × Nat × Nat) (ab : Nat) (fb : Nat → Int32) (kd : Nat → Nat) (n : Nat) (hb : BV fb kd n) (x : Nat) (hx : x < 2 ^ 31) : MetI (S := Unit) l yL_sum cL_sum 5 (some .int) (rm 1 21) D cI tt [.ref ab, .int (nI x), .int (nI 1)] [(ab, .inl (cI, 7, .inl fb))] (fun q _ => q = nI (sumk ets kd x n)) (fun _ => [(ab, .inl (cI, 7, .inl fb))]) := by
  have hn6 := hb.2.1
  refine met_ofI (by decide) (Nat.le_of_ble_eq_true rfl) ?_
  intro pP eE sS mM aV bB mE cC AA C hin
  refine z_conv (lv' := [(0, .ref ab), (1, .int (nI x)), (2, .int (nI 1))]) ⟨rfl, rfl, rfl, trivial⟩ rfl rfl ?_
  refine z_iconst C (pc := 0) (v := nI 0) dL_sum_0 (by decide) ?_
  refine z_istore_n C (pc := 1) (lv' := [(0, .ref ab), (1, .int (nI x)), (2, .int (nI 1)), (3, .int (nI 0))]) dL_sum_1 (Nat.le_of_ble_eq_true rfl) rfl rfl ?_
  refine z_iconst C (pc := 2) (v := nI 0) dL_sum_2 (by decide) ?_
  refine z_istore C (pc := 3) (lv' := [(0, .ref ab), (1, .int (nI x)), (2, .int (nI 1)), (3, .int (nI 0)), (4, .int (nI 0))]) dL_sum_3 (Nat.le_of_ble_eq_true rfl) rfl rfl ?_
  have key5 : ∀ (fu5 : Nat) (k : Nat), n - k < fu5 → (k ≤ n) → Z pP l eE (rm 1 21) sS mM aV bB mE cC D AA 5 0 0 (MQ bB (va_Qi (S := Unit) (fun q _ => q = nI (sumk ets kd x n)) (fun u t => va_P D vwCl ((fun _ => [(ab, .inl (cI, 7, .inl fb))]) u) t.heap) AA) aV sS 0 0 AA) 5 [(0, .ref ab), (1, .int (nI x)), (2, .int (nI 1)), (3, .int (nI (sumk ets kd x k))), (4, .int (nI k))] [] [(ab, .inl (cI, 7, .inl fb))] := by
    intro fu5
    induction fu5 with
    | zero => intro k hfu5; exact absurd hfu5 (Nat.not_lt_zero _)
    | succ fu5 ih5 =>
      intro k hfu5 hkn
      refine z_iload C (pc := 5) dL_sum_5 rfl ?_
      refine z_aload_n C (pc := 7) dL_sum_7 rfl ?_
      refine z_iconst C (pc := 8) (v := nI 0) dL_sum_8 (by decide) ?_
      have h_1 : vp_in (nI 0) 7 := by exact vp_in_nI (by omega) (by decide)
      refine z_iald C (pc := 9) 0 rfl h_1 dL_sum_9 ?_
      refine z_seti (y := (fb 0)) (by rw [nI_clamp (by omega)]) ?_
      refine z_seti (y := nI n) hb.1 ?_
      refine z_icmp_ge C (pc := 10) (tgt := 62) dL_sum_10 (by decide) (fun c_2 => ?_) (fun c_2 => ?_)
      · refine z_iload_n C (pc := 62) dL_sum_62 rfl ?_
        refine z_iret C (pc := 63) () dL_sum_63 ?_ rfl
        have hke : k = n := by
          have := ge_of_nI c_2 (by omega)
          omega
        rw [hke]
      · have hk : k < n := lt_of_nI c_2 (by omega)
        have hbk := hb.2.2 k hk
        refine z_iload_n C (pc := 13) dL_sum_13 rfl ?_
        refine z_iload C (pc := 14) dL_sum_14 rfl ?_
        refine z_calli C (isC := []) rfl (by exact fun _ => rfl) (runS C (wc := []) (pc := 16) (rY' := rm 0 0) (nn := 2) (As := [.int (nI x), .int (nI k)]) (rest := []) (g_in l D cI tt x k hx (by omega)) rfl rfl ⟨rfl, rfl, ⟨Nat.le_of_ble_eq_true rfl, Nat.le_of_ble_eq_true rfl⟩, Nat.le_of_ble_eq_true rfl, Nat.le_of_ble_eq_true rfl⟩ wl_L_20 ws_L_in wi_L wc_L_in (by decide +kernel) rfl rfl (Nat.le_of_ble_eq_true rfl) dL_sum_16) (fun r_3 u_3 h_3 => ?_)
        subst h_3
        refine z_ws (st' := [.int (b2 (inv x k))]) (ws' := [(ab, .inl (cI, 7, .inl fb))]) rfl rfl ?_
        refine z_if_eq C (pc := 19) (tgt := 56) dL_sum_19 (by decide) (fun c_4 => ?_) (fun c_4 => ?_)
        · have hin0 : inv x k = false := b2_f c_4
          refine z_iinc C (pc := 56) (v := ((nI k) + 1)) (lv' := [(0, .ref ab), (1, .int (nI x)), (2, .int (nI 1)), (3, .int (nI (sumk ets kd x k))), (4, .int ((nI k) + 1))]) dL_sum_56 rfl rfl (Nat.le_of_ble_eq_true rfl) rfl rfl ?_
          refine z_goto C (pc := 59) (tgt := 5) dL_sum_59 (by decide) ?_
          refine z_lv (lv' := [(0, .ref ab), (1, .int (nI x)), (2, .int (nI 1)), (3, .int (nI (sumk ets kd x (k + 1)))), (4, .int (nI (k + 1)))]) ⟨rfl, rfl, rfl, lki (by have e : bt x k = 0 := (bt_01 x k).resolve_right (of_decide_eq_false hin0); simp [sumk, e]), lki (nI_1 k), trivial⟩ ?_
          exact ih5 (k + 1) (by omega) hk
        · have hin0 : inv x k = true := b2_t c_4
          refine z_iload_n C (pc := 22) dL_sum_22 rfl ?_
          refine z_iload_n C (pc := 23) dL_sum_23 rfl ?_
          refine z_if_ne C (pc := 24) (tgt := 39) dL_sum_24 (by decide) (fun c_5 => ?_) (fun c_5 => ?_)
          · refine z_aload_n C (pc := 39) dL_sum_39 rfl ?_
            refine z_iconst C (pc := 40) (v := nI 1) dL_sum_40 (by decide) ?_
            refine z_iload C (pc := 41) dL_sum_41 rfl ?_
            refine z_iadd C (pc := 43) dL_sum_43 ?_
            refine z_seti (y := nI (1 + k)) (nI_add _ _) ?_
            have h_6 : vp_in (nI (1 + k)) 7 := by exact vp_in_nI (by omega) (by decide)
            refine z_iald C (pc := 44) 0 rfl h_6 dL_sum_44 ?_
            refine z_seti (y := (fb (1 + k))) (by rw [nI_clamp (by omega)]) ?_
            refine z_seti (y := nI (kd k)) (by rw [Nat.add_comm]; exact hbk.1) ?_
            refine z_iconst C (pc := 45) (v := nI 1) dL_sum_45 (by decide) ?_
            refine z_icmp_ne C (pc := 46) (tgt := 53) dL_sum_46 (by decide) (fun c_7 => ?_) (fun c_7 => ?_)
            · have hke : ¬ kd k = 1 := fun e => c_7 (by rw [e])
              have het : ets (kd k) = 1 := (show ∀ t, t < 5 → ¬ t = 1 → ets t = 1 by decide) _ (by omega) hke
              refine z_iconst C (pc := 53) (v := nI 1) dL_sum_53 (by decide) ?_
              refine z_iadd C (pc := 54) dL_sum_54 ?_
              refine z_seti (y := nI ((sumk ets kd x k) + 1)) (nI_add _ _) ?_
              refine z_istore_n C (pc := 55) (lv' := [(0, .ref ab), (1, .int (nI x)), (2, .int (nI 1)), (3, .int (nI ((sumk ets kd x k) + 1))), (4, .int (nI k))]) dL_sum_55 (Nat.le_of_ble_eq_true rfl) rfl rfl ?_
              refine z_iinc C (pc := 56) (v := ((nI k) + 1)) (lv' := [(0, .ref ab), (1, .int (nI x)), (2, .int (nI 1)), (3, .int (nI ((sumk ets kd x k) + 1))), (4, .int ((nI k) + 1))]) dL_sum_56 rfl rfl (Nat.le_of_ble_eq_true rfl) rfl rfl ?_
              refine z_goto C (pc := 59) (tgt := 5) dL_sum_59 (by decide) ?_
              refine z_lv (lv' := [(0, .ref ab), (1, .int (nI x)), (2, .int (nI 1)), (3, .int (nI (sumk ets kd x (k + 1)))), (4, .int (nI (k + 1)))]) ⟨rfl, rfl, rfl, lki (by have e : bt x k = 1 := of_decide_eq_true hin0; simp [sumk, e, het]), lki (nI_1 k), trivial⟩ ?_
              exact ih5 (k + 1) (by omega) hk
            · have hke : kd k = 1 := (nI_eq (by omega) (by decide)).mp c_7
              have het : ets (kd k) = 2 := by rw [hke]; rfl
              refine z_iconst C (pc := 49) (v := nI 2) dL_sum_49 (by decide) ?_
              refine z_goto C (pc := 50) (tgt := 54) dL_sum_50 (by decide) ?_
              refine z_iadd C (pc := 54) dL_sum_54 ?_
              refine z_seti (y := nI ((sumk ets kd x k) + 2)) (nI_add _ _) ?_
              refine z_istore_n C (pc := 55) (lv' := [(0, .ref ab), (1, .int (nI x)), (2, .int (nI 1)), (3, .int (nI ((sumk ets kd x k) + 2))), (4, .int (nI k))]) dL_sum_55 (Nat.le_of_ble_eq_true rfl) rfl rfl ?_
              refine z_iinc C (pc := 56) (v := ((nI k) + 1)) (lv' := [(0, .ref ab), (1, .int (nI x)), (2, .int (nI 1)), (3, .int (nI ((sumk ets kd x k) + 2))), (4, .int ((nI k) + 1))]) dL_sum_56 rfl rfl (Nat.le_of_ble_eq_true rfl) rfl rfl ?_
              refine z_goto C (pc := 59) (tgt := 5) dL_sum_59 (by decide) ?_
              refine z_lv (lv' := [(0, .ref ab), (1, .int (nI x)), (2, .int (nI 1)), (3, .int (nI (sumk ets kd x (k + 1)))), (4, .int (nI (k + 1)))]) ⟨rfl, rfl, rfl, lki (by have e : bt x k = 1 := of_decide_eq_true hin0; simp [sumk, e, het]), lki (nI_1 k), trivial⟩ ?_
              exact ih5 (k + 1) (by omega) hk
          · exact absurd c_5 (by decide)
  refine z_lv (lv' := [(0, .ref ab), (1, .int (nI x)), (2, .int (nI 1)), (3, .int (nI (sumk ets kd x 0))), (4, .int (nI 0))]) ⟨rfl, rfl, rfl, rfl, rfl, trivial⟩ ?_
  exact key5 (_ + 1) 0 (Nat.lt_succ_self _) (Nat.zero_le _)

set_option maxHeartbeats 4000000 in
set_option maxRecDepth 100000 in
theorem g_lying (l : Launch) (D : va_G) (cI : ClassId) (tt : Nat × Nat × Nat) (ad : Nat) (fd : Nat → Int32) (c : Nat → Nat) (hd : DV fd c) : MetI (S := Unit) l yL_lying cL_lying 1 (some .int) (rm 0 0) D cI tt [.ref ad] [(ad, .inl (cI, 9, .inl fd))] (fun q _ => q = nI (sumN c)) (fun _ => [(ad, .inl (cI, 9, .inl fd))]) := by
  refine met_ofI (by decide) (Nat.le_of_ble_eq_true rfl) ?_
  intro pP eE sS mM aV bB mE cC AA C hin
  refine z_conv (lv' := [(0, .ref ad)]) ⟨rfl, trivial⟩ rfl rfl ?_
  refine z_aload_n C (pc := 0) dL_lying_0 rfl ?_
  refine z_iconst C (pc := 1) (v := nI 1) dL_lying_1 (by decide) ?_
  have h_1 : vp_in (nI 1) 9 := by exact vp_in_nI (by omega) (by decide)
  refine z_iald C (pc := 2) 0 rfl h_1 dL_lying_2 ?_
  refine z_seti (y := (fd 1)) (by rw [nI_clamp (by omega)]) ?_
  refine z_seti (y := nI (c 0)) ((hd 0 (by decide)).1) ?_
  refine z_aload_n C (pc := 3) dL_lying_3 rfl ?_
  refine z_iconst C (pc := 4) (v := nI 2) dL_lying_4 (by decide) ?_
  have h_2 : vp_in (nI 2) 9 := by exact vp_in_nI (by omega) (by decide)
  refine z_iald C (pc := 5) 0 rfl h_2 dL_lying_5 ?_
  refine z_seti (y := (fd 2)) (by rw [nI_clamp (by omega)]) ?_
  refine z_seti (y := nI (c 1)) ((hd 1 (by decide)).1) ?_
  refine z_iadd C (pc := 6) dL_lying_6 ?_
  refine z_seti (y := nI ((c 0) + (c 1))) (nI_add _ _) ?_
  refine z_aload_n C (pc := 7) dL_lying_7 rfl ?_
  refine z_iconst C (pc := 8) (v := nI 3) dL_lying_8 (by decide) ?_
  have h_3 : vp_in (nI 3) 9 := by exact vp_in_nI (by omega) (by decide)
  refine z_iald C (pc := 9) 0 rfl h_3 dL_lying_9 ?_
  refine z_seti (y := (fd 3)) (by rw [nI_clamp (by omega)]) ?_
  refine z_seti (y := nI (c 2)) ((hd 2 (by decide)).1) ?_
  refine z_iadd C (pc := 10) dL_lying_10 ?_
  refine z_seti (y := nI (((c 0) + (c 1)) + (c 2))) (nI_add _ _) ?_
  refine z_aload_n C (pc := 11) dL_lying_11 rfl ?_
  refine z_iconst C (pc := 12) (v := nI 4) dL_lying_12 (by decide) ?_
  have h_4 : vp_in (nI 4) 9 := by exact vp_in_nI (by omega) (by decide)
  refine z_iald C (pc := 13) 0 rfl h_4 dL_lying_13 ?_
  refine z_seti (y := (fd 4)) (by rw [nI_clamp (by omega)]) ?_
  refine z_seti (y := nI (c 3)) ((hd 3 (by decide)).1) ?_
  refine z_iadd C (pc := 14) dL_lying_14 ?_
  refine z_seti (y := nI ((((c 0) + (c 1)) + (c 2)) + (c 3))) (nI_add _ _) ?_
  refine z_aload_n C (pc := 15) dL_lying_15 rfl ?_
  refine z_iconst C (pc := 16) (v := nI 5) dL_lying_16 (by decide) ?_
  have h_5 : vp_in (nI 5) 9 := by exact vp_in_nI (by omega) (by decide)
  refine z_iald C (pc := 17) 0 rfl h_5 dL_lying_17 ?_
  refine z_seti (y := (fd 5)) (by rw [nI_clamp (by omega)]) ?_
  refine z_seti (y := nI (c 4)) ((hd 4 (by decide)).1) ?_
  refine z_iadd C (pc := 18) dL_lying_18 ?_
  refine z_seti (y := nI (((((c 0) + (c 1)) + (c 2)) + (c 3)) + (c 4))) (nI_add _ _) ?_
  refine z_iret C (pc := 19) () dL_lying_19 ?_ rfl
  rfl

def ovv (f1 f2 : Nat → Int32) : Nat → Nat → Int32
  | 0 => f1
  | j + 1 => upd (ovv f1 f2 j) j (f2 j)
theorem ovv_at (f1 f2 : Nat → Int32) : ∀ (n k : Nat), ovv f1 f2 n k = if k < n then f2 k else f1 k
  | 0, k => by simp [ovv]
  | n + 1, k => by
    show upd (ovv f1 f2 n) n (f2 n) k = _
    unfold upd
    by_cases e : k = n
    · subst e; simp
    · rw [if_neg e, ovv_at f1 f2 n k]
      by_cases e2 : k < n
      · rw [if_pos e2, if_pos (by omega)]
      · rw [if_neg e2, if_neg (by omega)]

set_option maxHeartbeats 4000000 in
set_option maxRecDepth 100000 in
theorem g_over (l : Launch) (D : va_G) (cI : ClassId) (tt : Nat × Nat × Nat) (a1 a2 : Nat) (f1 f2 : Nat → Int32) : MetV (S := (Nat → Int32)) l yL_over cL_over 3 none (rm 0 0) D cI tt [.ref a1, .ref a2] [(a1, .inl (cI, 9, .inl f1)), (a2, .inl (cI, 9, .inl f2))] (fun g => ∀ k, k < 9 → g k = f2 k) (fun g => [(a1, .inl (cI, 9, .inl g)), (a2, .inl (cI, 9, .inl f2))]) := by
  refine met_ofV (by decide) (Nat.le_of_ble_eq_true rfl) ?_
  intro pP eE sS mM aV bB mE cC AA C hin
  refine z_conv (lv' := [(0, .ref a1), (1, .ref a2)]) ⟨rfl, rfl, trivial⟩ rfl rfl ?_
  refine z_iconst C (pc := 0) (v := nI 0) dL_over_0 (by decide) ?_
  refine z_istore_n C (pc := 1) (lv' := [(0, .ref a1), (1, .ref a2), (2, .int (nI 0))]) dL_over_1 (Nat.le_of_ble_eq_true rfl) rfl rfl ?_
  have key2 : ∀ (fu2 : Nat) (j : Nat), 9 - j < fu2 → (j ≤ 9) → Z pP l eE (rm 0 0) sS mM aV bB mE cC D AA 3 0 0 (MQ bB (va_Qv (S := (Nat → Int32)) (fun g => ∀ k, k < 9 → g k = f2 k) (fun u t => va_P D vwCl ((fun g => [(a1, .inl (cI, 9, .inl g)), (a2, .inl (cI, 9, .inl f2))]) u) t.heap) AA) aV sS 0 0 AA) 2 [(0, .ref a1), (1, .ref a2), (2, .int (nI j))] [] [(a1, .inl (cI, 9, .inl (ovv f1 f2 j))), (a2, .inl (cI, 9, .inl f2))] := by
    intro fu2
    induction fu2 with
    | zero => intro j hfu2; exact absurd hfu2 (Nat.not_lt_zero _)
    | succ fu2 ih2 =>
      intro j hfu2 hj9
      refine z_iload_n C (pc := 2) dL_over_2 rfl ?_
      refine z_bipush C (pc := 3) (v := nI 9) dL_over_3 (by decide) ?_
      refine z_icmp_ge C (pc := 5) (tgt := 20) dL_over_5 (by decide) (fun c_1 => ?_) (fun c_1 => ?_)
      · refine z_vret C (pc := 20) (ovv f1 f2 j) dL_over_20 ?_ rfl
        have hje : j = 9 := by
          have := ge_of_nI (n := 9) c_1 (by decide)
          omega
        subst hje
        exact fun k hk => by rw [ovv_at, if_pos hk]
      · have hj : j < 9 := lt_of_nI (n := 9) c_1 (by omega)
        refine z_aload_n C (pc := 8) dL_over_8 rfl ?_
        refine z_iload_n C (pc := 9) dL_over_9 rfl ?_
        refine z_aload_n C (pc := 10) dL_over_10 rfl ?_
        refine z_iload_n C (pc := 11) dL_over_11 rfl ?_
        have h_2 : vp_in (nI j) 9 := by exact vp_in_nI (by omega) (by decide)
        refine z_iald C (pc := 12) 1 rfl h_2 dL_over_12 ?_
        refine z_seti (y := (f2 j)) (by rw [nI_clamp (by omega)]) ?_
        have h_3 : vp_in (nI j) 9 := by exact vp_in_nI (by omega) (by decide)
        refine z_iast C (pc := 13) 0 rfl h_3 (ws' := [(a1, .inl (cI, 9, .inl (upd (ovv f1 f2 j) j (f2 j)))), (a2, .inl (cI, 9, .inl f2))]) (by rw [nI_clamp (by omega)]; rfl) dL_over_13 ?_
        refine z_iinc C (pc := 14) (v := ((nI j) + 1)) (lv' := [(0, .ref a1), (1, .ref a2), (2, .int ((nI j) + 1))]) dL_over_14 rfl rfl (Nat.le_of_ble_eq_true rfl) rfl rfl ?_
        refine z_goto C (pc := 17) (tgt := 2) dL_over_17 (by decide) ?_
        refine z_ws (st' := []) (ws' := [(a1, .inl (cI, 9, .inl (ovv f1 f2 (j + 1)))), (a2, .inl (cI, 9, .inl f2))]) (rfl) rfl ?_
        refine z_lv (lv' := [(0, .ref a1), (1, .ref a2), (2, .int (nI (j + 1)))]) ⟨rfl, rfl, lki (nI_1 j), trivial⟩ ?_
        exact ih2 (j + 1) (by omega) hj
  refine z_ws (st' := []) (ws' := [(a1, .inl (cI, 9, .inl (ovv f1 f2 0))), (a2, .inl (cI, 9, .inl f2))]) (rfl) rfl ?_
  refine z_lv (lv' := [(0, .ref a1), (1, .ref a2), (2, .int (nI 0))]) ⟨rfl, rfl, rfl, trivial⟩ ?_
  exact key2 (_ + 1) 0 (Nat.lt_succ_self _) (Nat.zero_le _)
