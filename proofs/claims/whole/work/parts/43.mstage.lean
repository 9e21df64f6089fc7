/-! the reference: one stage -/
theorem isB_t {t : Nat} (h : t ≤ 4) (h2 : ¬ nI (fds t) ≤ 0) : isB t = true := (show ∀ t, t < 5 → ¬ nI (fds t) ≤ 0 → isB t = true by decide) t (by omega) h2
theorem isB_f {t : Nat} (h : t ≤ 4) (h2 : nI (fds t) ≤ 0) : ¬ isB t = true := (show ∀ t, t < 5 → nI (fds t) ≤ 0 → ¬ isB t = true by decide) t (by omega) h2
theorem PM.up12 {i : Nat → Int32} {x f : Nat} {v : Int32} (h : PM i x f) : PM (upd i 12 v) x f := ⟨(upd_n (by decide)).trans h.1, (upd_n (by decide)).trans h.2⟩
theorem dev_lt {kd : Nat → Nat} {n k : Nat} {s : Nat × Nat} (hx : s.1 < 64) (hk : k < 6) (hb : bt s.1 k = 1) : (dev kd n k s).1 < s.1 := by
  unfold dev
  rw [if_pos hb]
  have := bit_le s.1 hx k hk hb
  have h2 := Nat.pow_pos (n := k) (show 0 < 2 by decide)
  show s.1 - 2 ^ k < s.1
  omega
theorem lsv_ne : ∀ m, m < 7 → (nI m - 1 = -1 ↔ m = 0) := by decide +kernel
set_option maxHeartbeats 4000000 in
set_option maxRecDepth 100000 in
theorem m_pullsOf (l : Launch) (D : va_G) (cI : ClassId) (tt : Nat × Nat × Nat) (b : Nat → Nat) (i : Nat → Int32) (r : Nat → Nat → Int32) (h : Int64) (kd : Nat → Nat) (n : Nat) (hv : PVm i r kd n) (k : Nat) (hk : k < n) : MetI (S := Unit) l yX4_pullsOf cX4_pullsOf 2 (some .int) (rm 0 0) D cI tt [.ref (b 0), .int (nI k)] (mW cI b i r h) (fun q _ => q = nI (pls (kd k))) (fun _ => mW cI b i r h) := by
  have hn6 := hv.2.1
  refine met_ofI (by decide) (Nat.le_of_ble_eq_true rfl) ?_
  intro pP eE sS mM aV bB mE cC AA C hin
  refine z_conv (lv' := [(0, .ref (b 0)), (1, .int (nI k))]) ⟨rfl, rfl, trivial⟩ rfl rfl ?_
  refine z_aload_n C (pc := 0) dX4_pullsOf_0 rfl ?_
  refine z_get C (pc := 1) 0 rfl rfl wf_X4 8 (by decide) rfl wl_X4_13 (v := .ref (b 2)) rfl dX4_pullsOf_1 ?_
  refine z_iload_n C (pc := 4) dX4_pullsOf_4 rfl ?_
  have h_1 : vp_in (nI k) 6 := by exact vp_in_nI (by omega) (by decide)
  refine z_iald C (pc := 5) 2 rfl h_1 dX4_pullsOf_5 ?_
  refine z_seti (y := (nI (kd k))) (by rw [nI_clamp (by omega)]; exact (hv.2.2 k hk).1) ?_
  refine z_iconst C (pc := 6) (v := 1) dX4_pullsOf_6 (by decide) ?_
  refine z_icmp_ne C (pc := 7) (tgt := 15) dX4_pullsOf_7 (by decide) (fun c_2 => ?_) (fun c_2 => ?_)
  · refine z_aload_n C (pc := 15) dX4_pullsOf_15 rfl ?_
    refine z_get C (pc := 16) 0 rfl rfl wf_X4 8 (by decide) rfl wl_X4_13 (v := .ref (b 2)) rfl dX4_pullsOf_16 ?_
    refine z_iload_n C (pc := 19) dX4_pullsOf_19 rfl ?_
    have h_3 : vp_in (nI k) 6 := by exact vp_in_nI (by omega) (by decide)
    refine z_iald C (pc := 20) 2 rfl h_3 dX4_pullsOf_20 ?_
    refine z_seti (y := (nI (kd k))) (by rw [nI_clamp (by omega)]; exact (hv.2.2 k hk).1) ?_
    refine z_iconst C (pc := 21) (v := 2) dX4_pullsOf_21 (by decide) ?_
    refine z_icmp_eq C (pc := 22) (tgt := 35) dX4_pullsOf_22 (by decide) (fun c_4 => ?_) (fun c_4 => ?_)
    · refine z_iconst C (pc := 35) (v := 2) dX4_pullsOf_35 (by decide) ?_
      refine z_goto C (pc := 36) (tgt := 54) dX4_pullsOf_36 (by decide) ?_
      refine z_iret C (pc := 54) () dX4_pullsOf_54 ?_ rfl
      have h4 := (hv.2.2 k hk).2
      clear hin C
      show (2 : Int32) = nI (pls (kd k))
      generalize kd k = t at h4 c_2 c_4 ⊢
      revert h4 c_2 c_4
      revert t
      decide +kernel
    · refine z_aload_n C (pc := 25) dX4_pullsOf_25 rfl ?_
      refine z_get C (pc := 26) 0 rfl rfl wf_X4 8 (by decide) rfl wl_X4_13 (v := .ref (b 2)) rfl dX4_pullsOf_26 ?_
      refine z_iload_n C (pc := 29) dX4_pullsOf_29 rfl ?_
      have h_5 : vp_in (nI k) 6 := by exact vp_in_nI (by omega) (by decide)
      refine z_iald C (pc := 30) 2 rfl h_5 dX4_pullsOf_30 ?_
      refine z_seti (y := (nI (kd k))) (by rw [nI_clamp (by omega)]; exact (hv.2.2 k hk).1) ?_
      refine z_iconst C (pc := 31) (v := 3) dX4_pullsOf_31 (by decide) ?_
      refine z_icmp_ne C (pc := 32) (tgt := 39) dX4_pullsOf_32 (by decide) (fun c_6 => ?_) (fun c_6 => ?_)
      · refine z_aload_n C (pc := 39) dX4_pullsOf_39 rfl ?_
        refine z_get C (pc := 40) 0 rfl rfl wf_X4 8 (by decide) rfl wl_X4_13 (v := .ref (b 2)) rfl dX4_pullsOf_40 ?_
        refine z_iload_n C (pc := 43) dX4_pullsOf_43 rfl ?_
        have h_7 : vp_in (nI k) 6 := by exact vp_in_nI (by omega) (by decide)
        refine z_iald C (pc := 44) 2 rfl h_7 dX4_pullsOf_44 ?_
        refine z_seti (y := (nI (kd k))) (by rw [nI_clamp (by omega)]; exact (hv.2.2 k hk).1) ?_
        refine z_iconst C (pc := 45) (v := 4) dX4_pullsOf_45 (by decide) ?_
        refine z_icmp_ne C (pc := 46) (tgt := 53) dX4_pullsOf_46 (by decide) (fun c_8 => ?_) (fun c_8 => ?_)
        · refine z_iconst C (pc := 53) (v := 4) dX4_pullsOf_53 (by decide) ?_
          refine z_iret C (pc := 54) () dX4_pullsOf_54 ?_ rfl
          have h4 := (hv.2.2 k hk).2
          clear hin C
          show (4 : Int32) = nI (pls (kd k))
          generalize kd k = t at h4 c_2 c_4 c_6 c_8 ⊢
          revert h4 c_2 c_4 c_6 c_8
          revert t
          decide +kernel
        · refine z_iconst C (pc := 49) (v := 3) dX4_pullsOf_49 (by decide) ?_
          refine z_goto C (pc := 50) (tgt := 54) dX4_pullsOf_50 (by decide) ?_
          refine z_iret C (pc := 54) () dX4_pullsOf_54 ?_ rfl
          have h4 := (hv.2.2 k hk).2
          clear hin C
          show (3 : Int32) = nI (pls (kd k))
          generalize kd k = t at h4 c_2 c_4 c_6 c_8 ⊢
          revert h4 c_2 c_4 c_6 c_8
          revert t
          decide +kernel
      · refine z_iconst C (pc := 35) (v := 2) dX4_pullsOf_35 (by decide) ?_
        refine z_goto C (pc := 36) (tgt := 54) dX4_pullsOf_36 (by decide) ?_
        refine z_iret C (pc := 54) () dX4_pullsOf_54 ?_ rfl
        have h4 := (hv.2.2 k hk).2
        clear hin C
        show (2 : Int32) = nI (pls (kd k))
        generalize kd k = t at h4 c_2 c_4 c_6 ⊢
        revert h4 c_2 c_4 c_6
        revert t
        decide +kernel
  · refine z_bipush C (pc := 10) (v := 8) dX4_pullsOf_10 (by decide) ?_
    refine z_goto C (pc := 12) (tgt := 54) dX4_pullsOf_12 (by decide) ?_
    refine z_iret C (pc := 54) () dX4_pullsOf_54 ?_ rfl
    have h4 := (hv.2.2 k hk).2
    clear hin C
    show (8 : Int32) = nI (pls (kd k))
    generalize kd k = t at h4 c_2 ⊢
    revert h4 c_2
    revert t
    decide +kernel

set_option maxHeartbeats 4000000 in
set_option maxRecDepth 100000 in
theorem m_eatsOf (l : Launch) (D : va_G) (cI : ClassId) (tt : Nat × Nat × Nat) (b : Nat → Nat) (i : Nat → Int32) (r : Nat → Nat → Int32) (h : Int64) (kd : Nat → Nat) (n : Nat) (hv : PVm i r kd n) (k : Nat) (hk : k < n) : MetI (S := Unit) l yX4_eatsOf cX4_eatsOf 2 (some .int) (rm 0 0) D cI tt [.ref (b 0), .int (nI k)] (mW cI b i r h) (fun q _ => q = nI (ets (kd k))) (fun _ => mW cI b i r h) := by
  have hn6 := hv.2.1
  refine met_ofI (by decide) (Nat.le_of_ble_eq_true rfl) ?_
  intro pP eE sS mM aV bB mE cC AA C hin
  refine z_conv (lv' := [(0, .ref (b 0)), (1, .int (nI k))]) ⟨rfl, rfl, trivial⟩ rfl rfl ?_
  refine z_aload_n C (pc := 0) dX4_eatsOf_0 rfl ?_
  refine z_get C (pc := 1) 0 rfl rfl wf_X4 8 (by decide) rfl wl_X4_13 (v := .ref (b 2)) rfl dX4_eatsOf_1 ?_
  refine z_iload_n C (pc := 4) dX4_eatsOf_4 rfl ?_
  have h_1 : vp_in (nI k) 6 := by exact vp_in_nI (by omega) (by decide)
  refine z_iald C (pc := 5) 2 rfl h_1 dX4_eatsOf_5 ?_
  refine z_seti (y := (nI (kd k))) (by rw [nI_clamp (by omega)]; exact (hv.2.2 k hk).1) ?_
  refine z_iconst C (pc := 6) (v := 1) dX4_eatsOf_6 (by decide) ?_
  refine z_icmp_ne C (pc := 7) (tgt := 14) dX4_eatsOf_7 (by decide) (fun c_2 => ?_) (fun c_2 => ?_)
  · refine z_iconst C (pc := 14) (v := 1) dX4_eatsOf_14 (by decide) ?_
    refine z_iret C (pc := 15) () dX4_eatsOf_15 ?_ rfl
    have h4 := (hv.2.2 k hk).2
    clear hin C
    show (1 : Int32) = nI (ets (kd k))
    generalize kd k = t at h4 c_2 ⊢
    revert h4 c_2
    revert t
    decide +kernel
  · refine z_iconst C (pc := 10) (v := 2) dX4_eatsOf_10 (by decide) ?_
    refine z_goto C (pc := 11) (tgt := 15) dX4_eatsOf_11 (by decide) ?_
    refine z_iret C (pc := 15) () dX4_eatsOf_15 ?_ rfl
    have h4 := (hv.2.2 k hk).2
    clear hin C
    show (2 : Int32) = nI (ets (kd k))
    generalize kd k = t at h4 c_2 ⊢
    revert h4 c_2
    revert t
    decide +kernel

set_option maxHeartbeats 4000000 in
set_option maxRecDepth 100000 in
theorem m_feedsOf (l : Launch) (D : va_G) (cI : ClassId) (tt : Nat × Nat × Nat) (b : Nat → Nat) (i : Nat → Int32) (r : Nat → Nat → Int32) (h : Int64) (kd : Nat → Nat) (n : Nat) (hv : PVm i r kd n) (k : Nat) (hk : k < n) : MetI (S := Unit) l yX4_feedsOf cX4_feedsOf 2 (some .int) (rm 0 0) D cI tt [.ref (b 0), .int (nI k)] (mW cI b i r h) (fun q _ => q = nI (fds (kd k))) (fun _ => mW cI b i r h) := by
  have hn6 := hv.2.1
  refine met_ofI (by decide) (Nat.le_of_ble_eq_true rfl) ?_
  intro pP eE sS mM aV bB mE cC AA C hin
  refine z_conv (lv' := [(0, .ref (b 0)), (1, .int (nI k))]) ⟨rfl, rfl, trivial⟩ rfl rfl ?_
  refine z_aload_n C (pc := 0) dX4_feedsOf_0 rfl ?_
  refine z_get C (pc := 1) 0 rfl rfl wf_X4 8 (by decide) rfl wl_X4_13 (v := .ref (b 2)) rfl dX4_feedsOf_1 ?_
  refine z_iload_n C (pc := 4) dX4_feedsOf_4 rfl ?_
  have h_1 : vp_in (nI k) 6 := by exact vp_in_nI (by omega) (by decide)
  refine z_iald C (pc := 5) 2 rfl h_1 dX4_feedsOf_5 ?_
  refine z_seti (y := (nI (kd k))) (by rw [nI_clamp (by omega)]; exact (hv.2.2 k hk).1) ?_
  refine z_iconst C (pc := 6) (v := 1) dX4_feedsOf_6 (by decide) ?_
  refine z_icmp_ne C (pc := 7) (tgt := 15) dX4_feedsOf_7 (by decide) (fun c_2 => ?_) (fun c_2 => ?_)
  · refine z_aload_n C (pc := 15) dX4_feedsOf_15 rfl ?_
    refine z_get C (pc := 16) 0 rfl rfl wf_X4 8 (by decide) rfl wl_X4_13 (v := .ref (b 2)) rfl dX4_feedsOf_16 ?_
    refine z_iload_n C (pc := 19) dX4_feedsOf_19 rfl ?_
    have h_3 : vp_in (nI k) 6 := by exact vp_in_nI (by omega) (by decide)
    refine z_iald C (pc := 20) 2 rfl h_3 dX4_feedsOf_20 ?_
    refine z_seti (y := (nI (kd k))) (by rw [nI_clamp (by omega)]; exact (hv.2.2 k hk).1) ?_
    refine z_iconst C (pc := 21) (v := 2) dX4_feedsOf_21 (by decide) ?_
    refine z_icmp_ne C (pc := 22) (tgt := 29) dX4_feedsOf_22 (by decide) (fun c_4 => ?_) (fun c_4 => ?_)
    · refine z_aload_n C (pc := 29) dX4_feedsOf_29 rfl ?_
      refine z_get C (pc := 30) 0 rfl rfl wf_X4 8 (by decide) rfl wl_X4_13 (v := .ref (b 2)) rfl dX4_feedsOf_30 ?_
      refine z_iload_n C (pc := 33) dX4_feedsOf_33 rfl ?_
      have h_5 : vp_in (nI k) 6 := by exact vp_in_nI (by omega) (by decide)
      refine z_iald C (pc := 34) 2 rfl h_5 dX4_feedsOf_34 ?_
      refine z_seti (y := (nI (kd k))) (by rw [nI_clamp (by omega)]; exact (hv.2.2 k hk).1) ?_
      refine z_iconst C (pc := 35) (v := 4) dX4_feedsOf_35 (by decide) ?_
      refine z_icmp_ne C (pc := 36) (tgt := 43) dX4_feedsOf_36 (by decide) (fun c_6 => ?_) (fun c_6 => ?_)
      · refine z_iconst C (pc := 43) (v := 0) dX4_feedsOf_43 (by decide) ?_
        refine z_iret C (pc := 44) () dX4_feedsOf_44 ?_ rfl
        have h4 := (hv.2.2 k hk).2
        clear hin C
        show (0 : Int32) = nI (fds (kd k))
        generalize kd k = t at h4 c_2 c_4 c_6 ⊢
        revert h4 c_2 c_4 c_6
        revert t
        decide +kernel
      · refine z_iconst C (pc := 39) (v := 3) dX4_feedsOf_39 (by decide) ?_
        refine z_goto C (pc := 40) (tgt := 44) dX4_feedsOf_40 (by decide) ?_
        refine z_iret C (pc := 44) () dX4_feedsOf_44 ?_ rfl
        have h4 := (hv.2.2 k hk).2
        clear hin C
        show (3 : Int32) = nI (fds (kd k))
        generalize kd k = t at h4 c_2 c_4 c_6 ⊢
        revert h4 c_2 c_4 c_6
        revert t
        decide +kernel
    · refine z_iconst C (pc := 25) (v := 2) dX4_feedsOf_25 (by decide) ?_
      refine z_goto C (pc := 26) (tgt := 44) dX4_feedsOf_26 (by decide) ?_
      refine z_iret C (pc := 44) () dX4_feedsOf_44 ?_ rfl
      have h4 := (hv.2.2 k hk).2
      clear hin C
      show (2 : Int32) = nI (fds (kd k))
      generalize kd k = t at h4 c_2 c_4 ⊢
      revert h4 c_2 c_4
      revert t
      decide +kernel
  · refine z_bipush C (pc := 10) (v := 6) dX4_feedsOf_10 (by decide) ?_
    refine z_goto C (pc := 12) (tgt := 44) dX4_feedsOf_12 (by decide) ?_
    refine z_iret C (pc := 44) () dX4_feedsOf_44 ?_ rfl
    have h4 := (hv.2.2 k hk).2
    clear hin C
    show (6 : Int32) = nI (fds (kd k))
    generalize kd k = t at h4 c_2 ⊢
    revert h4 c_2
    revert t
    decide +kernel

set_option maxHeartbeats 4000000 in
set_option maxRecDepth 100000 in
theorem m_pullOf (l : Launch) (D : va_G) (cI : ClassId) (tt : Nat × Nat × Nat) (b : Nat → Nat) (i : Nat → Int32) (r : Nat → Nat → Int32) (h : Int64) (kd : Nat → Nat) (n : Nat) (hv : PVm i r kd n) (x : Nat) (hx : x < 2 ^ 31) : MetI (S := Unit) l yX4_pullOf cX4_pullOf 4 (some .int) (rm 1 21) D cI tt [.ref (b 0), .int (nI x)] (mW cI b i r h) (fun q _ => q = nI (sumk pls kd x n)) (fun _ => mW cI b i r h) := by
  have hn6 := hv.2.1
  refine met_ofI (by decide) (Nat.le_of_ble_eq_true rfl) ?_
  intro pP eE sS mM aV bB mE cC AA C hin
  refine z_conv (lv' := [(0, .ref (b 0)), (1, .int (nI x))]) ⟨rfl, rfl, trivial⟩ rfl rfl ?_
  refine z_iconst C (pc := 0) (v := 0) dX4_pullOf_0 (by decide) ?_
  refine z_istore_n C (pc := 1) (lv' := [(0, .ref (b 0)), (1, .int (nI x)), (2, .int 0)]) dX4_pullOf_1 (Nat.le_of_ble_eq_true rfl) rfl rfl ?_
  refine z_iconst C (pc := 2) (v := 0) dX4_pullOf_2 (by decide) ?_
  refine z_istore_n C (pc := 3) (lv' := [(0, .ref (b 0)), (1, .int (nI x)), (2, .int 0), (3, .int 0)]) dX4_pullOf_3 (Nat.le_of_ble_eq_true rfl) rfl rfl ?_
  have key4 : ∀ (fu4 : Nat) (k : Nat), n - k < fu4 → (k ≤ n) → Z pP l eE (rm 1 21) sS mM aV bB mE cC D AA 4 0 0 (MQ bB (va_Qi (S := Unit) (fun q _ => q = nI (sumk pls kd x n)) (fun u t => va_P D vwCl ((fun _ => mW cI b i r h) u) t.heap) AA) aV sS 0 0 AA) 4 [(0, .ref (b 0)), (1, .int (nI x)), (2, .int (nI (sumk pls kd x k))), (3, .int (nI k))] [] (mW cI b i r h) := by
    intro fu4
    induction fu4 with
    | zero => intro k hfu4; exact absurd hfu4 (Nat.not_lt_zero _)
    | succ fu4 ih4 =>
      intro k hfu4 hkn
      refine z_iload_n C (pc := 4) dX4_pullOf_4 rfl ?_
      refine z_aload_n C (pc := 5) dX4_pullOf_5 rfl ?_
      refine z_get C (pc := 6) 0 rfl rfl wf_X4 3 (by decide) rfl wl_X4_69 (v := .int (i 3)) rfl dX4_pullOf_6 ?_
      refine z_icmp_ge C (pc := 9) (tgt := 32) dX4_pullOf_9 (by decide) (fun c_1 => ?_) (fun c_1 => ?_)
      · refine z_iload_n C (pc := 32) dX4_pullOf_32 rfl ?_
        refine z_iret C (pc := 33) () dX4_pullOf_33 ?_ rfl
        rw [hv.1] at c_1
        have : k = n := by
          have := ge_of_nI c_1 (by omega)
          omega
        rw [this]
      · rw [hv.1] at c_1
        have hk : k < n := lt_of_nI c_1 (by omega)
        refine z_iload_n C (pc := 12) dX4_pullOf_12 rfl ?_
        refine z_iload_n C (pc := 13) dX4_pullOf_13 rfl ?_
        refine z_iload_n C (pc := 14) dX4_pullOf_14 rfl ?_
        refine z_ishr C (pc := 15) dX4_pullOf_15 ?_
        refine z_iconst C (pc := 16) (v := 1) dX4_pullOf_16 (by decide) ?_
        refine z_iand C (pc := 17) dX4_pullOf_17 ?_
        refine z_aload_n C (pc := 18) dX4_pullOf_18 rfl ?_
        refine z_iload_n C (pc := 19) dX4_pullOf_19 rfl ?_
        refine z_calliF C (by exact fun _ => mW_ad) (runV C (wc := (mW cI b i r h)) (pc := 20) (rY' := rm 0 0) (nn := 1) (As := [.int (nI k)]) (rest := [.int (((nI x) >>> ((nI k) &&& 31)) &&& 1), .int (nI (sumk pls kd x k))]) (m_pullsOf l D cI tt b i r h kd n hv k hk) (full_hC _) (full_nd _) ⟨rfl, rfl, ⟨Nat.le_of_ble_eq_true rfl, Nat.le_of_ble_eq_true rfl⟩, Nat.le_of_ble_eq_true rfl, Nat.le_of_ble_eq_true rfl⟩ wl_X4_93 wm_X4_pullsOf we_X4_pullsOf wi_X4 wc_X4_pullsOf (by decide +kernel) rfl 0 rfl rfl rfl rfl (Nat.le_of_ble_eq_true rfl) dX4_pullOf_20) (fun q_2 u_2 h_2 => ?_)
        subst h_2
        refine z_ws (st' := [.int (nI (pls (kd k))), .int (((nI x) >>> ((nI k) &&& 31)) &&& 1), .int (nI (sumk pls kd x k))]) (ws' := (mW cI b i r h)) rfl rfl ?_
        refine z_imul C (pc := 23) dX4_pullOf_23 ?_
        refine z_iadd C (pc := 24) dX4_pullOf_24 ?_
        refine z_istore_n C (pc := 25) (lv' := [(0, .ref (b 0)), (1, .int (nI x)), (2, .int ((nI (sumk pls kd x k)) + ((((nI x) >>> ((nI k) &&& 31)) &&& 1) * (nI (pls (kd k)))))), (3, .int (nI k))]) dX4_pullOf_25 (Nat.le_of_ble_eq_true rfl) rfl rfl ?_
        refine z_iinc C (pc := 26) (v := ((nI k) + 1)) (lv' := [(0, .ref (b 0)), (1, .int (nI x)), (2, .int ((nI (sumk pls kd x k)) + ((((nI x) >>> ((nI k) &&& 31)) &&& 1) * (nI (pls (kd k)))))), (3, .int ((nI k) + 1))]) dX4_pullOf_26 rfl rfl (Nat.le_of_ble_eq_true rfl) rfl rfl ?_
        refine z_goto C (pc := 29) (tgt := 4) dX4_pullOf_29 (by decide) ?_
        refine z_lv (lv' := [(0, .ref (b 0)), (1, .int (nI x)), (2, .int (nI (sumk pls kd x (k + 1)))), (3, .int (nI (k + 1)))]) ⟨rfl, rfl, lki (by rw [shr_bt (by omega) hx, mul_nI, nI_add]; rfl), lki (nI_1 k), trivial⟩ ?_
        exact ih4 (k + 1) (by omega) hk
  refine z_lv (lv' := [(0, .ref (b 0)), (1, .int (nI x)), (2, .int (nI (sumk pls kd x 0))), (3, .int (nI 0))]) ⟨rfl, rfl, rfl, rfl, trivial⟩ ?_
  exact key4 (_ + 1) 0 (Nat.lt_succ_self _) (Nat.zero_le _)

set_option maxHeartbeats 4000000 in
set_option maxRecDepth 100000 in
theorem m_eatOf (l : Launch) (D : va_G) (cI : ClassId) (tt : Nat × Nat × Nat) (b : Nat → Nat) (i : Nat → Int32) (r : Nat → Nat → Int32) (h : Int64) (kd : Nat → Nat) (n : Nat) (hv : PVm i r kd n) (x : Nat) (hx : x < 2 ^ 31) : MetI (S := Unit) l yX4_eatOf cX4_eatOf 4 (some .int) (rm 1 21) D cI tt [.ref (b 0), .int (nI x)] (mW cI b i r h) (fun q _ => q = nI (sumk ets kd x n)) (fun _ => mW cI b i r h) := by
  have hn6 := hv.2.1
  refine met_ofI (by decide) (Nat.le_of_ble_eq_true rfl) ?_
  intro pP eE sS mM aV bB mE cC AA C hin
  refine z_conv (lv' := [(0, .ref (b 0)), (1, .int (nI x))]) ⟨rfl, rfl, trivial⟩ rfl rfl ?_
  refine z_iconst C (pc := 0) (v := 0) dX4_eatOf_0 (by decide) ?_
  refine z_istore_n C (pc := 1) (lv' := [(0, .ref (b 0)), (1, .int (nI x)), (2, .int 0)]) dX4_eatOf_1 (Nat.le_of_ble_eq_true rfl) rfl rfl ?_
  refine z_iconst C (pc := 2) (v := 0) dX4_eatOf_2 (by decide) ?_
  refine z_istore_n C (pc := 3) (lv' := [(0, .ref (b 0)), (1, .int (nI x)), (2, .int 0), (3, .int 0)]) dX4_eatOf_3 (Nat.le_of_ble_eq_true rfl) rfl rfl ?_
  have key4 : ∀ (fu4 : Nat) (k : Nat), n - k < fu4 → (k ≤ n) → Z pP l eE (rm 1 21) sS mM aV bB mE cC D AA 4 0 0 (MQ bB (va_Qi (S := Unit) (fun q _ => q = nI (sumk ets kd x n)) (fun u t => va_P D vwCl ((fun _ => mW cI b i r h) u) t.heap) AA) aV sS 0 0 AA) 4 [(0, .ref (b 0)), (1, .int (nI x)), (2, .int (nI (sumk ets kd x k))), (3, .int (nI k))] [] (mW cI b i r h) := by
    intro fu4
    induction fu4 with
    | zero => intro k hfu4; exact absurd hfu4 (Nat.not_lt_zero _)
    | succ fu4 ih4 =>
      intro k hfu4 hkn
      refine z_iload_n C (pc := 4) dX4_eatOf_4 rfl ?_
      refine z_aload_n C (pc := 5) dX4_eatOf_5 rfl ?_
      refine z_get C (pc := 6) 0 rfl rfl wf_X4 3 (by decide) rfl wl_X4_69 (v := .int (i 3)) rfl dX4_eatOf_6 ?_
      refine z_icmp_ge C (pc := 9) (tgt := 32) dX4_eatOf_9 (by decide) (fun c_1 => ?_) (fun c_1 => ?_)
      · refine z_iload_n C (pc := 32) dX4_eatOf_32 rfl ?_
        refine z_iret C (pc := 33) () dX4_eatOf_33 ?_ rfl
        rw [hv.1] at c_1
        have : k = n := by
          have := ge_of_nI c_1 (by omega)
          omega
        rw [this]
      · rw [hv.1] at c_1
        have hk : k < n := lt_of_nI c_1 (by omega)
        refine z_iload_n C (pc := 12) dX4_eatOf_12 rfl ?_
        refine z_iload_n C (pc := 13) dX4_eatOf_13 rfl ?_
        refine z_iload_n C (pc := 14) dX4_eatOf_14 rfl ?_
        refine z_ishr C (pc := 15) dX4_eatOf_15 ?_
        refine z_iconst C (pc := 16) (v := 1) dX4_eatOf_16 (by decide) ?_
        refine z_iand C (pc := 17) dX4_eatOf_17 ?_
        refine z_aload_n C (pc := 18) dX4_eatOf_18 rfl ?_
        refine z_iload_n C (pc := 19) dX4_eatOf_19 rfl ?_
        refine z_calliF C (by exact fun _ => mW_ad) (runV C (wc := (mW cI b i r h)) (pc := 20) (rY' := rm 0 0) (nn := 1) (As := [.int (nI k)]) (rest := [.int (((nI x) >>> ((nI k) &&& 31)) &&& 1), .int (nI (sumk ets kd x k))]) (m_eatsOf l D cI tt b i r h kd n hv k hk) (full_hC _) (full_nd _) ⟨rfl, rfl, ⟨Nat.le_of_ble_eq_true rfl, Nat.le_of_ble_eq_true rfl⟩, Nat.le_of_ble_eq_true rfl, Nat.le_of_ble_eq_true rfl⟩ wl_X4_96 wm_X4_eatsOf we_X4_eatsOf wi_X4 wc_X4_eatsOf (by decide +kernel) rfl 0 rfl rfl rfl rfl (Nat.le_of_ble_eq_true rfl) dX4_eatOf_20) (fun q_2 u_2 h_2 => ?_)
        subst h_2
        refine z_ws (st' := [.int (nI (ets (kd k))), .int (((nI x) >>> ((nI k) &&& 31)) &&& 1), .int (nI (sumk ets kd x k))]) (ws' := (mW cI b i r h)) rfl rfl ?_
        refine z_imul C (pc := 23) dX4_eatOf_23 ?_
        refine z_iadd C (pc := 24) dX4_eatOf_24 ?_
        refine z_istore_n C (pc := 25) (lv' := [(0, .ref (b 0)), (1, .int (nI x)), (2, .int ((nI (sumk ets kd x k)) + ((((nI x) >>> ((nI k) &&& 31)) &&& 1) * (nI (ets (kd k)))))), (3, .int (nI k))]) dX4_eatOf_25 (Nat.le_of_ble_eq_true rfl) rfl rfl ?_
        refine z_iinc C (pc := 26) (v := ((nI k) + 1)) (lv' := [(0, .ref (b 0)), (1, .int (nI x)), (2, .int ((nI (sumk ets kd x k)) + ((((nI x) >>> ((nI k) &&& 31)) &&& 1) * (nI (ets (kd k)))))), (3, .int ((nI k) + 1))]) dX4_eatOf_26 rfl rfl (Nat.le_of_ble_eq_true rfl) rfl rfl ?_
        refine z_goto C (pc := 29) (tgt := 4) dX4_eatOf_29 (by decide) ?_
        refine z_lv (lv' := [(0, .ref (b 0)), (1, .int (nI x)), (2, .int (nI (sumk ets kd x (k + 1)))), (3, .int (nI (k + 1)))]) ⟨rfl, rfl, lki (by rw [shr_bt (by omega) hx, mul_nI, nI_add]; rfl), lki (nI_1 k), trivial⟩ ?_
        exact ih4 (k + 1) (by omega) hk
  refine z_lv (lv' := [(0, .ref (b 0)), (1, .int (nI x)), (2, .int (nI (sumk ets kd x 0))), (3, .int (nI 0))]) ⟨rfl, rfl, rfl, rfl, trivial⟩ ?_
  exact key4 (_ + 1) 0 (Nat.lt_succ_self _) (Nat.zero_le _)

set_option maxHeartbeats 4000000 in
set_option maxRecDepth 100000 in
theorem m_lastP (l : Launch) (D : va_G) (cI : ClassId) (tt : Nat × Nat × Nat) (b : Nat → Nat) (i : Nat → Int32) (r : Nat → Nat → Int32) (h : Int64) (kd : Nat → Nat) (n : Nat) (hv : PVm i r kd n) (x : Nat) (hx : x < 2 ^ 31) : MetI (S := Unit) l yX4_lastOf cX4_lastOf 6 (some .int) (rm 1 21) D cI tt [.ref (b 0), .int (nI x), .int 1] (mW cI b i r h) (fun q _ => q = nI (lsv (fun k => decide (kd k = 1)) x n) - 1) (fun _ => mW cI b i r h) := by
  have hn6 := hv.2.1
  refine met_ofI (by decide) (Nat.le_of_ble_eq_true rfl) ?_
  intro pP eE sS mM aV bB mE cC AA C hin
  refine z_conv (lv' := [(0, .ref (b 0)), (1, .int (nI x)), (2, .int 1)]) ⟨rfl, rfl, rfl, trivial⟩ rfl rfl ?_
  refine z_iconst C (pc := 0) (v := (-1)) dX4_lastOf_0 (by decide) ?_
  refine z_istore_n C (pc := 1) (lv' := [(0, .ref (b 0)), (1, .int (nI x)), (2, .int 1), (3, .int (-1))]) dX4_lastOf_1 (Nat.le_of_ble_eq_true rfl) rfl rfl ?_
  refine z_iconst C (pc := 2) (v := 0) dX4_lastOf_2 (by decide) ?_
  refine z_istore C (pc := 3) (lv' := [(0, .ref (b 0)), (1, .int (nI x)), (2, .int 1), (3, .int (-1)), (4, .int 0)]) dX4_lastOf_3 (Nat.le_of_ble_eq_true rfl) rfl rfl ?_
  have key5 : ∀ (fu5 : Nat) (k : Nat), n - k < fu5 → (k ≤ n) → Z pP l eE (rm 1 21) sS mM aV bB mE cC D AA 6 0 0 (MQ bB (va_Qi (S := Unit) (fun q _ => q = nI (lsv (fun k => decide (kd k = 1)) x n) - 1) (fun u t => va_P D vwCl ((fun _ => mW cI b i r h) u) t.heap) AA) aV sS 0 0 AA) 5 [(0, .ref (b 0)), (1, .int (nI x)), (2, .int 1), (3, .int (nI (lsv (fun k => decide (kd k = 1)) x k) - 1)), (4, .int (nI k))] [] (mW cI b i r h) := by
    intro fu5
    induction fu5 with
    | zero => intro k hfu5; exact absurd hfu5 (Nat.not_lt_zero _)
    | succ fu5 ih5 =>
      intro k hfu5 hkn
      refine z_iload C (pc := 5) dX4_lastOf_5 rfl ?_
      refine z_aload_n C (pc := 7) dX4_lastOf_7 rfl ?_
      refine z_get C (pc := 8) 0 rfl rfl wf_X4 3 (by decide) rfl wl_X4_69 (v := .int (i 3)) rfl dX4_lastOf_8 ?_
      refine z_icmp_ge C (pc := 11) (tgt := 81) dX4_lastOf_11 (by decide) (fun c_1 => ?_) (fun c_1 => ?_)
      · refine z_iload_n C (pc := 81) dX4_lastOf_81 rfl ?_
        refine z_iret C (pc := 82) () dX4_lastOf_82 ?_ rfl
        rw [hv.1] at c_1
        have : k = n := by
          have := ge_of_nI c_1 (by omega)
          omega
        rw [this]
      · rw [hv.1] at c_1
        have hk : k < n := lt_of_nI c_1 (by omega)
        refine z_iload_n C (pc := 14) dX4_lastOf_14 rfl ?_
        refine z_if_eq C (pc := 15) (tgt := 37) dX4_lastOf_15 (by decide) (fun c_2 => ?_) (fun c_2 => ?_)
        · exact absurd c_2 (by decide)
        · refine z_aload_n C (pc := 18) dX4_lastOf_18 rfl ?_
          refine z_get C (pc := 19) 0 rfl rfl wf_X4 8 (by decide) rfl wl_X4_13 (v := .ref (b 2)) rfl dX4_lastOf_19 ?_
          refine z_iload C (pc := 22) dX4_lastOf_22 rfl ?_
          have h_3 : vp_in (nI k) 6 := by exact vp_in_nI (by omega) (by decide)
          refine z_iald C (pc := 24) 2 rfl h_3 dX4_lastOf_24 ?_
          refine z_seti (y := (nI (kd k))) (by rw [nI_clamp (by omega)]; exact (hv.2.2 k hk).1) ?_
          refine z_iconst C (pc := 25) (v := 1) dX4_lastOf_25 (by decide) ?_
          refine z_icmp_ne C (pc := 26) (tgt := 33) dX4_lastOf_26 (by decide) (fun c_4 => ?_) (fun c_4 => ?_)
          · have hP : ¬ (fun k => decide (kd k = 1)) k = true := fun e => c_4 ((nI_eq1 (by have := (hv.2.2 k hk).2; omega)).mpr (of_decide_eq_true e))
            refine z_iconst C (pc := 33) (v := 0) dX4_lastOf_33 (by decide) ?_
            refine z_goto C (pc := 34) (tgt := 51) dX4_lastOf_34 (by decide) ?_
            refine z_istore C (pc := 51) (lv' := [(0, .ref (b 0)), (1, .int (nI x)), (2, .int 1), (3, .int (nI (lsv (fun k => decide (kd k = 1)) x k) - 1)), (4, .int (nI k)), (5, .int 0)]) dX4_lastOf_51 (Nat.le_of_ble_eq_true rfl) rfl rfl ?_
            refine z_iload C (pc := 53) dX4_lastOf_53 rfl ?_
            refine z_if_eq C (pc := 55) (tgt := 73) dX4_lastOf_55 (by decide) (fun c_5 => ?_) (fun c_5 => ?_)
            · refine z_iload_n C (pc := 73) dX4_lastOf_73 rfl ?_
              refine z_istore_n C (pc := 74) (lv' := [(0, .ref (b 0)), (1, .int (nI x)), (2, .int 1), (3, .int (nI (lsv (fun k => decide (kd k = 1)) x k) - 1)), (4, .int (nI k)), (5, .int 0)]) dX4_lastOf_74 (Nat.le_of_ble_eq_true rfl) rfl rfl ?_
              refine z_iinc C (pc := 75) (v := ((nI k) + 1)) (lv' := [(0, .ref (b 0)), (1, .int (nI x)), (2, .int 1), (3, .int (nI (lsv (fun k => decide (kd k = 1)) x k) - 1)), (4, .int ((nI k) + 1)), (5, .int 0)]) dX4_lastOf_75 rfl rfl (Nat.le_of_ble_eq_true rfl) rfl rfl ?_
              refine z_goto C (pc := 78) (tgt := 5) dX4_lastOf_78 (by decide) ?_
              refine z_lv (lv' := [(0, .ref (b 0)), (1, .int (nI x)), (2, .int 1), (3, .int (nI (lsv (fun k => decide (kd k = 1)) x (k + 1)) - 1)), (4, .int (nI (k + 1)))]) ⟨rfl, rfl, rfl, lki (by rw [lsv_f (P := (fun k => decide (kd k = 1))) (fun e => hP e.1)]), lki (nI_1 k), trivial⟩ ?_
              exact ih5 (k + 1) (by omega) hk
            · exact absurd c_5 (by decide)
          · have hP : (fun k => decide (kd k = 1)) k = true := decide_eq_true ((nI_eq1 (by have := (hv.2.2 k hk).2; omega)).mp c_4)
            refine z_iconst C (pc := 29) (v := 1) dX4_lastOf_29 (by decide) ?_
            refine z_goto C (pc := 30) (tgt := 51) dX4_lastOf_30 (by decide) ?_
            refine z_istore C (pc := 51) (lv' := [(0, .ref (b 0)), (1, .int (nI x)), (2, .int 1), (3, .int (nI (lsv (fun k => decide (kd k = 1)) x k) - 1)), (4, .int (nI k)), (5, .int 1)]) dX4_lastOf_51 (Nat.le_of_ble_eq_true rfl) rfl rfl ?_
            refine z_iload C (pc := 53) dX4_lastOf_53 rfl ?_
            refine z_if_eq C (pc := 55) (tgt := 73) dX4_lastOf_55 (by decide) (fun c_6 => ?_) (fun c_6 => ?_)
            · exact absurd c_6 (by decide)
            · refine z_iload_n C (pc := 58) dX4_lastOf_58 rfl ?_
              refine z_iload C (pc := 59) dX4_lastOf_59 rfl ?_
              refine z_ishr C (pc := 61) dX4_lastOf_61 ?_
              refine z_iconst C (pc := 62) (v := 1) dX4_lastOf_62 (by decide) ?_
              refine z_iand C (pc := 63) dX4_lastOf_63 ?_
              refine z_iconst C (pc := 64) (v := 1) dX4_lastOf_64 (by decide) ?_
              refine z_icmp_ne C (pc := 65) (tgt := 73) dX4_lastOf_65 (by decide) (fun c_7 => ?_) (fun c_7 => ?_)
              · have hb : ¬ bt x k = 1 := by
                  have := bt0 (by omega) hx c_7
                  omega
                refine z_iload_n C (pc := 73) dX4_lastOf_73 rfl ?_
                refine z_istore_n C (pc := 74) (lv' := [(0, .ref (b 0)), (1, .int (nI x)), (2, .int 1), (3, .int (nI (lsv (fun k => decide (kd k = 1)) x k) - 1)), (4, .int (nI k)), (5, .int 1)]) dX4_lastOf_74 (Nat.le_of_ble_eq_true rfl) rfl rfl ?_
                refine z_iinc C (pc := 75) (v := ((nI k) + 1)) (lv' := [(0, .ref (b 0)), (1, .int (nI x)), (2, .int 1), (3, .int (nI (lsv (fun k => decide (kd k = 1)) x k) - 1)), (4, .int ((nI k) + 1)), (5, .int 1)]) dX4_lastOf_75 rfl rfl (Nat.le_of_ble_eq_true rfl) rfl rfl ?_
                refine z_goto C (pc := 78) (tgt := 5) dX4_lastOf_78 (by decide) ?_
                refine z_lv (lv' := [(0, .ref (b 0)), (1, .int (nI x)), (2, .int 1), (3, .int (nI (lsv (fun k => decide (kd k = 1)) x (k + 1)) - 1)), (4, .int (nI (k + 1)))]) ⟨rfl, rfl, rfl, lki (by rw [lsv_f (P := (fun k => decide (kd k = 1))) (fun e => hb e.2)]), lki (nI_1 k), trivial⟩ ?_
                exact ih5 (k + 1) (by omega) hk
              · have hb := bt1 (by omega) hx c_7
                refine z_iload C (pc := 68) dX4_lastOf_68 rfl ?_
                refine z_goto C (pc := 70) (tgt := 74) dX4_lastOf_70 (by decide) ?_
                refine z_istore_n C (pc := 74) (lv' := [(0, .ref (b 0)), (1, .int (nI x)), (2, .int 1), (3, .int (nI k)), (4, .int (nI k)), (5, .int 1)]) dX4_lastOf_74 (Nat.le_of_ble_eq_true rfl) rfl rfl ?_
                refine z_iinc C (pc := 75) (v := ((nI k) + 1)) (lv' := [(0, .ref (b 0)), (1, .int (nI x)), (2, .int 1), (3, .int (nI k)), (4, .int ((nI k) + 1)), (5, .int 1)]) dX4_lastOf_75 rfl rfl (Nat.le_of_ble_eq_true rfl) rfl rfl ?_
                refine z_goto C (pc := 78) (tgt := 5) dX4_lastOf_78 (by decide) ?_
                refine z_lv (lv' := [(0, .ref (b 0)), (1, .int (nI x)), (2, .int 1), (3, .int (nI (lsv (fun k => decide (kd k = 1)) x (k + 1)) - 1)), (4, .int (nI (k + 1)))]) ⟨rfl, rfl, rfl, lki (by rw [lsv_t (P := (fun k => decide (kd k = 1))) ⟨hP, hb⟩]; exact (nI_pred k).symm), lki (nI_1 k), trivial⟩ ?_
                exact ih5 (k + 1) (by omega) hk
  refine z_lv (lv' := [(0, .ref (b 0)), (1, .int (nI x)), (2, .int 1), (3, .int (nI (lsv (fun k => decide (kd k = 1)) x 0) - 1)), (4, .int (nI 0))]) ⟨rfl, rfl, rfl, lki (by show (-1 : Int32) = nI 0 - 1; decide), rfl, trivial⟩ ?_
  exact key5 (_ + 1) 0 (Nat.lt_succ_self _) (Nat.zero_le _)

set_option maxHeartbeats 4000000 in
set_option maxRecDepth 100000 in
theorem m_lastB (l : Launch) (D : va_G) (cI : ClassId) (tt : Nat × Nat × Nat) (b : Nat → Nat) (i : Nat → Int32) (r : Nat → Nat → Int32) (h : Int64) (kd : Nat → Nat) (n : Nat) (hv : PVm i r kd n) (x : Nat) (hx : x < 2 ^ 31) : MetI (S := Unit) l yX4_lastOf cX4_lastOf 6 (some .int) (rm 1 21) D cI tt [.ref (b 0), .int (nI x), .int 0] (mW cI b i r h) (fun q _ => q = nI (lsv (fun k => isB (kd k)) x n) - 1) (fun _ => mW cI b i r h) := by
  have hn6 := hv.2.1
  refine met_ofI (by decide) (Nat.le_of_ble_eq_true rfl) ?_
  intro pP eE sS mM aV bB mE cC AA C hin
  refine z_conv (lv' := [(0, .ref (b 0)), (1, .int (nI x)), (2, .int 0)]) ⟨rfl, rfl, rfl, trivial⟩ rfl rfl ?_
  refine z_iconst C (pc := 0) (v := (-1)) dX4_lastOf_0 (by decide) ?_
  refine z_istore_n C (pc := 1) (lv' := [(0, .ref (b 0)), (1, .int (nI x)), (2, .int 0), (3, .int (-1))]) dX4_lastOf_1 (Nat.le_of_ble_eq_true rfl) rfl rfl ?_
  refine z_iconst C (pc := 2) (v := 0) dX4_lastOf_2 (by decide) ?_
  refine z_istore C (pc := 3) (lv' := [(0, .ref (b 0)), (1, .int (nI x)), (2, .int 0), (3, .int (-1)), (4, .int 0)]) dX4_lastOf_3 (Nat.le_of_ble_eq_true rfl) rfl rfl ?_
  have key5 : ∀ (fu5 : Nat) (k : Nat), n - k < fu5 → (k ≤ n) → Z pP l eE (rm 1 21) sS mM aV bB mE cC D AA 6 0 0 (MQ bB (va_Qi (S := Unit) (fun q _ => q = nI (lsv (fun k => isB (kd k)) x n) - 1) (fun u t => va_P D vwCl ((fun _ => mW cI b i r h) u) t.heap) AA) aV sS 0 0 AA) 5 [(0, .ref (b 0)), (1, .int (nI x)), (2, .int 0), (3, .int (nI (lsv (fun k => isB (kd k)) x k) - 1)), (4, .int (nI k))] [] (mW cI b i r h) := by
    intro fu5
    induction fu5 with
    | zero => intro k hfu5; exact absurd hfu5 (Nat.not_lt_zero _)
    | succ fu5 ih5 =>
      intro k hfu5 hkn
      refine z_iload C (pc := 5) dX4_lastOf_5 rfl ?_
      refine z_aload_n C (pc := 7) dX4_lastOf_7 rfl ?_
      refine z_get C (pc := 8) 0 rfl rfl wf_X4 3 (by decide) rfl wl_X4_69 (v := .int (i 3)) rfl dX4_lastOf_8 ?_
      refine z_icmp_ge C (pc := 11) (tgt := 81) dX4_lastOf_11 (by decide) (fun c_1 => ?_) (fun c_1 => ?_)
      · refine z_iload_n C (pc := 81) dX4_lastOf_81 rfl ?_
        refine z_iret C (pc := 82) () dX4_lastOf_82 ?_ rfl
        rw [hv.1] at c_1
        have : k = n := by
          have := ge_of_nI c_1 (by omega)
          omega
        rw [this]
      · rw [hv.1] at c_1
        have hk : k < n := lt_of_nI c_1 (by omega)
        refine z_iload_n C (pc := 14) dX4_lastOf_14 rfl ?_
        refine z_if_eq C (pc := 15) (tgt := 37) dX4_lastOf_15 (by decide) (fun c_2 => ?_) (fun c_2 => ?_)
        · refine z_aload_n C (pc := 37) dX4_lastOf_37 rfl ?_
          refine z_iload C (pc := 38) dX4_lastOf_38 rfl ?_
          refine z_calliF C (by exact fun _ => mW_ad) (runV C (wc := (mW cI b i r h)) (pc := 40) (rY' := rm 0 0) (nn := 1) (As := [.int (nI k)]) (rest := []) (m_feedsOf l D cI tt b i r h kd n hv k hk) (full_hC _) (full_nd _) ⟨rfl, rfl, ⟨Nat.le_of_ble_eq_true rfl, Nat.le_of_ble_eq_true rfl⟩, Nat.le_of_ble_eq_true rfl, Nat.le_of_ble_eq_true rfl⟩ wl_X4_99 wm_X4_feedsOf we_X4_feedsOf wi_X4 wc_X4_feedsOf (by decide +kernel) rfl 0 rfl rfl rfl rfl (Nat.le_of_ble_eq_true rfl) dX4_lastOf_40) (fun q_3 u_3 h_3 => ?_)
          subst h_3
          refine z_ws (st' := [.int (nI (fds (kd k)))]) (ws' := (mW cI b i r h)) rfl rfl ?_
          refine z_if_le C (pc := 43) (tgt := 50) dX4_lastOf_43 (by decide) (fun c_4 => ?_) (fun c_4 => ?_)
          · have hP : ¬ (fun k => isB (kd k)) k = true := isB_f (hv.2.2 k hk).2 c_4
            refine z_iconst C (pc := 50) (v := 0) dX4_lastOf_50 (by decide) ?_
            refine z_istore C (pc := 51) (lv' := [(0, .ref (b 0)), (1, .int (nI x)), (2, .int 0), (3, .int (nI (lsv (fun k => isB (kd k)) x k) - 1)), (4, .int (nI k)), (5, .int 0)]) dX4_lastOf_51 (Nat.le_of_ble_eq_true rfl) rfl rfl ?_
            refine z_iload C (pc := 53) dX4_lastOf_53 rfl ?_
            refine z_if_eq C (pc := 55) (tgt := 73) dX4_lastOf_55 (by decide) (fun c_5 => ?_) (fun c_5 => ?_)
            · refine z_iload_n C (pc := 73) dX4_lastOf_73 rfl ?_
              refine z_istore_n C (pc := 74) (lv' := [(0, .ref (b 0)), (1, .int (nI x)), (2, .int 0), (3, .int (nI (lsv (fun k => isB (kd k)) x k) - 1)), (4, .int (nI k)), (5, .int 0)]) dX4_lastOf_74 (Nat.le_of_ble_eq_true rfl) rfl rfl ?_
              refine z_iinc C (pc := 75) (v := ((nI k) + 1)) (lv' := [(0, .ref (b 0)), (1, .int (nI x)), (2, .int 0), (3, .int (nI (lsv (fun k => isB (kd k)) x k) - 1)), (4, .int ((nI k) + 1)), (5, .int 0)]) dX4_lastOf_75 rfl rfl (Nat.le_of_ble_eq_true rfl) rfl rfl ?_
              refine z_goto C (pc := 78) (tgt := 5) dX4_lastOf_78 (by decide) ?_
              refine z_lv (lv' := [(0, .ref (b 0)), (1, .int (nI x)), (2, .int 0), (3, .int (nI (lsv (fun k => isB (kd k)) x (k + 1)) - 1)), (4, .int (nI (k + 1)))]) ⟨rfl, rfl, rfl, lki (by rw [lsv_f (P := (fun k => isB (kd k))) (fun e => hP e.1)]), lki (nI_1 k), trivial⟩ ?_
              exact ih5 (k + 1) (by omega) hk
            · exact absurd c_5 (by decide)
          · have hP : (fun k => isB (kd k)) k = true := isB_t (hv.2.2 k hk).2 c_4
            refine z_iconst C (pc := 46) (v := 1) dX4_lastOf_46 (by decide) ?_
            refine z_goto C (pc := 47) (tgt := 51) dX4_lastOf_47 (by decide) ?_
            refine z_istore C (pc := 51) (lv' := [(0, .ref (b 0)), (1, .int (nI x)), (2, .int 0), (3, .int (nI (lsv (fun k => isB (kd k)) x k) - 1)), (4, .int (nI k)), (5, .int 1)]) dX4_lastOf_51 (Nat.le_of_ble_eq_true rfl) rfl rfl ?_
            refine z_iload C (pc := 53) dX4_lastOf_53 rfl ?_
            refine z_if_eq C (pc := 55) (tgt := 73) dX4_lastOf_55 (by decide) (fun c_6 => ?_) (fun c_6 => ?_)
            · exact absurd c_6 (by decide)
            · refine z_iload_n C (pc := 58) dX4_lastOf_58 rfl ?_
              refine z_iload C (pc := 59) dX4_lastOf_59 rfl ?_
              refine z_ishr C (pc := 61) dX4_lastOf_61 ?_
              refine z_iconst C (pc := 62) (v := 1) dX4_lastOf_62 (by decide) ?_
              refine z_iand C (pc := 63) dX4_lastOf_63 ?_
              refine z_iconst C (pc := 64) (v := 1) dX4_lastOf_64 (by decide) ?_
              refine z_icmp_ne C (pc := 65) (tgt := 73) dX4_lastOf_65 (by decide) (fun c_7 => ?_) (fun c_7 => ?_)
              · have hb : ¬ bt x k = 1 := by
                  have := bt0 (by omega) hx c_7
                  omega
                refine z_iload_n C (pc := 73) dX4_lastOf_73 rfl ?_
                refine z_istore_n C (pc := 74) (lv' := [(0, .ref (b 0)), (1, .int (nI x)), (2, .int 0), (3, .int (nI (lsv (fun k => isB (kd k)) x k) - 1)), (4, .int (nI k)), (5, .int 1)]) dX4_lastOf_74 (Nat.le_of_ble_eq_true rfl) rfl rfl ?_
                refine z_iinc C (pc := 75) (v := ((nI k) + 1)) (lv' := [(0, .ref (b 0)), (1, .int (nI x)), (2, .int 0), (3, .int (nI (lsv (fun k => isB (kd k)) x k) - 1)), (4, .int ((nI k) + 1)), (5, .int 1)]) dX4_lastOf_75 rfl rfl (Nat.le_of_ble_eq_true rfl) rfl rfl ?_
                refine z_goto C (pc := 78) (tgt := 5) dX4_lastOf_78 (by decide) ?_
                refine z_lv (lv' := [(0, .ref (b 0)), (1, .int (nI x)), (2, .int 0), (3, .int (nI (lsv (fun k => isB (kd k)) x (k + 1)) - 1)), (4, .int (nI (k + 1)))]) ⟨rfl, rfl, rfl, lki (by rw [lsv_f (P := (fun k => isB (kd k))) (fun e => hb e.2)]), lki (nI_1 k), trivial⟩ ?_
                exact ih5 (k + 1) (by omega) hk
              · have hb := bt1 (by omega) hx c_7
                refine z_iload C (pc := 68) dX4_lastOf_68 rfl ?_
                refine z_goto C (pc := 70) (tgt := 74) dX4_lastOf_70 (by decide) ?_
                refine z_istore_n C (pc := 74) (lv' := [(0, .ref (b 0)), (1, .int (nI x)), (2, .int 0), (3, .int (nI k)), (4, .int (nI k)), (5, .int 1)]) dX4_lastOf_74 (Nat.le_of_ble_eq_true rfl) rfl rfl ?_
                refine z_iinc C (pc := 75) (v := ((nI k) + 1)) (lv' := [(0, .ref (b 0)), (1, .int (nI x)), (2, .int 0), (3, .int (nI k)), (4, .int ((nI k) + 1)), (5, .int 1)]) dX4_lastOf_75 rfl rfl (Nat.le_of_ble_eq_true rfl) rfl rfl ?_
                refine z_goto C (pc := 78) (tgt := 5) dX4_lastOf_78 (by decide) ?_
                refine z_lv (lv' := [(0, .ref (b 0)), (1, .int (nI x)), (2, .int 0), (3, .int (nI (lsv (fun k => isB (kd k)) x (k + 1)) - 1)), (4, .int (nI (k + 1)))]) ⟨rfl, rfl, rfl, lki (by rw [lsv_t (P := (fun k => isB (kd k))) ⟨hP, hb⟩]; exact (nI_pred k).symm), lki (nI_1 k), trivial⟩ ?_
                exact ih5 (k + 1) (by omega) hk
        · exact absurd c_2 (by decide)
  refine z_lv (lv' := [(0, .ref (b 0)), (1, .int (nI x)), (2, .int 0), (3, .int (nI (lsv (fun k => isB (kd k)) x 0) - 1)), (4, .int (nI 0))]) ⟨rfl, rfl, rfl, lki (by show (-1 : Int32) = nI 0 - 1; decide), rfl, trivial⟩ ?_
  exact key5 (_ + 1) 0 (Nat.lt_succ_self _) (Nat.zero_le _)

set_option maxHeartbeats 4000000 in
set_option maxRecDepth 100000 in
theorem m_keepPulled (l : Launch) (D : va_G) (cI : ClassId) (tt : Nat × Nat × Nat) (b : Nat → Nat) (i : Nat → Int32) (r : Nat → Nat → Int32) (h : Int64) (kd : Nat → Nat) (n : Nat) (hv : PVm i r kd n) (x f : Nat) (hx : x < 2 ^ 31) (hf : f < 2 ^ 31) (hp : PM i x f) : MetV (S := (Nat → Int32)) l yX4_keepPulled cX4_keepPulled 2 none (rm 2 44) D cI tt [.ref (b 0)] (mW cI b i r h) (fun i' => SPm i i' ∧ i' 12 = i 12 ∧ PM i' x (min f (sumk pls kd x n))) (fun i' => mW cI b i' r h) := by
  have hn6 := hv.2.1
  refine met_ofV (by decide) (Nat.le_of_ble_eq_true rfl) ?_
  intro pP eE sS mM aV bB mE cC AA C hin
  refine z_conv (lv' := [(0, .ref (b 0))]) ⟨rfl, trivial⟩ rfl rfl ?_
  refine z_aload_n C (pc := 0) dX4_keepPulled_0 rfl ?_
  refine z_aload_n C (pc := 1) dX4_keepPulled_1 rfl ?_
  refine z_get C (pc := 2) 0 rfl rfl wf_X4 10 (by decide) rfl wl_X4_125 (v := .int (i 10)) rfl dX4_keepPulled_2 ?_
  refine z_seti (y := nI x) hp.1 ?_
  refine z_calliF C (by exact fun _ => mW_ad) (runV C (wc := (mW cI b i r h)) (pc := 5) (rY' := rm 1 21) (nn := 1) (As := [.int (nI x)]) (rest := []) (m_pullOf l D cI tt b i r h kd n hv x (by omega)) (full_hC _) (full_nd _) ⟨rfl, rfl, ⟨Nat.le_of_ble_eq_true rfl, Nat.le_of_ble_eq_true rfl⟩, Nat.le_of_ble_eq_true rfl, Nat.le_of_ble_eq_true rfl⟩ wl_X4_134 wm_X4_pullOf we_X4_pullOf wi_X4 wc_X4_pullOf (by decide +kernel) rfl 0 rfl rfl rfl rfl (Nat.le_of_ble_eq_true rfl) dX4_keepPulled_5) (fun q_1 u_1 h_1 => ?_)
  subst h_1
  refine z_ws (st' := [.int (nI (sumk pls kd x n))]) (ws' := (mW cI b i r h)) rfl rfl ?_
  refine z_istore_n C (pc := 8) (lv' := [(0, .ref (b 0)), (1, .int (nI (sumk pls kd x n)))]) dX4_keepPulled_8 (Nat.le_of_ble_eq_true rfl) rfl rfl ?_
  refine z_aload_n C (pc := 9) dX4_keepPulled_9 rfl ?_
  refine z_aload_n C (pc := 10) dX4_keepPulled_10 rfl ?_
  refine z_get C (pc := 11) 0 rfl rfl wf_X4 11 (by decide) rfl wl_X4_128 (v := .int (i 11)) rfl dX4_keepPulled_11 ?_
  refine z_iload_n C (pc := 14) dX4_keepPulled_14 rfl ?_
  refine z_icmp_le C (pc := 15) (tgt := 22) dX4_keepPulled_15 (by decide) (fun c_2 => ?_) (fun c_2 => ?_)
  · refine z_aload_n C (pc := 22) dX4_keepPulled_22 rfl ?_
    refine z_get C (pc := 23) 0 rfl rfl wf_X4 11 (by decide) rfl wl_X4_128 (v := .int (i 11)) rfl dX4_keepPulled_23 ?_
    refine z_put C (pc := 26) 0 rfl rfl wf_X4 11 (by decide) rfl tyX4 tyX4_ok nmX4 rfl rfl rfl (Nat.le_of_ble_eq_true rfl) (ws' := (mW cI b (upd i 11 (i 11)) r h)) rfl wl_X4_128 dX4_keepPulled_26 ?_
    refine z_vret C (pc := 29) (upd i 11 (i 11)) dX4_keepPulled_29 ?_ rfl
    have hpl := pl_le (kd := kd) (x := x) hn6
    rw [hp.2] at c_2
    refine ⟨SPm.rf.up (by omega), by simp [upd], ⟨by simp [upd]; exact hp.1, ?_⟩⟩
    rw [upd_s]
    exact (by rw [hp.2, Nat.min_eq_left (Nat.le_of_not_lt (fun e => i_nlt.mpr c_2 (nI_lt e hf)))])
  · refine z_iload_n C (pc := 18) dX4_keepPulled_18 rfl ?_
    refine z_goto C (pc := 19) (tgt := 26) dX4_keepPulled_19 (by decide) ?_
    refine z_put C (pc := 26) 0 rfl rfl wf_X4 11 (by decide) rfl tyX4 tyX4_ok nmX4 rfl rfl rfl (Nat.le_of_ble_eq_true rfl) (ws' := (mW cI b (upd i 11 (nI (sumk pls kd x n))) r h)) rfl wl_X4_128 dX4_keepPulled_26 ?_
    refine z_vret C (pc := 29) (upd i 11 (nI (sumk pls kd x n))) dX4_keepPulled_29 ?_ rfl
    have hpl := pl_le (kd := kd) (x := x) hn6
    rw [hp.2] at c_2
    refine ⟨SPm.rf.up (by omega), by simp [upd], ⟨by simp [upd]; exact hp.1, ?_⟩⟩
    rw [upd_s]
    rw [Nat.min_eq_right (Nat.le_of_not_lt (fun e => c_2 (nI_le (Nat.le_of_lt e) (by omega))))]

set_option maxHeartbeats 4000000 in
set_option maxRecDepth 100000 in
theorem m_eatBeast (l : Launch) (D : va_G) (cI : ClassId) (tt : Nat × Nat × Nat) (b : Nat → Nat) (i : Nat → Int32) (r : Nat → Nat → Int32) (h : Int64) (kd : Nat → Nat) (n : Nat) (hv : PVm i r kd n) (x f : Nat) (ho : OK kd n x f) (hp : PM i x f) (k : Nat) (hk : k < n) (hb : bt x k = 1) : MetV (S := (Nat → Int32)) l yX4_eatBeast cX4_eatBeast 2 none (rm 3 65) D cI tt [.ref (b 0), .int (nI k)] (mW cI b i r h) (fun i' => SPm i i' ∧ i' 12 = i 12 ∧ PM i' (dev kd n k (x, f)).1 (dev kd n k (x, f)).2) (fun i' => mW cI b i' r h) := by
  have hn6 := hv.2.1
  have hx6 := pow_le6 hn6
  have hx := ho.1
  have hpl := pl_le (kd := kd) (x := x) hn6
  have hf := ho.2
  have hfd := fds_le (kd k)
  refine met_ofV (by decide) (Nat.le_of_ble_eq_true rfl) ?_
  intro pP eE sS mM aV bB mE cC AA C hin
  refine z_conv (lv' := [(0, .ref (b 0)), (1, .int (nI k))]) ⟨rfl, rfl, trivial⟩ rfl rfl ?_
  refine z_aload_n C (pc := 0) dX4_eatBeast_0 rfl ?_
  refine z_dup C (pc := 1) dX4_eatBeast_1 rfl ?_
  refine z_get C (pc := 2) 0 rfl rfl wf_X4 10 (by decide) rfl wl_X4_125 (v := .int (i 10)) rfl dX4_eatBeast_2 ?_
  refine z_iconst C (pc := 5) (v := 1) dX4_eatBeast_5 (by decide) ?_
  refine z_iload_n C (pc := 6) dX4_eatBeast_6 rfl ?_
  refine z_ishl C (pc := 7) dX4_eatBeast_7 ?_
  refine z_isub C (pc := 8) dX4_eatBeast_8 ?_
  refine z_seti (y := nI (x - 2 ^ k)) (by rw [hp.1]; exact sub_bit x (by omega) k (by omega) hb) ?_
  refine z_put C (pc := 9) 0 rfl rfl wf_X4 10 (by decide) rfl tyX4 tyX4_ok nmX4 rfl rfl rfl (Nat.le_of_ble_eq_true rfl) (ws' := (mW cI b (upd i 10 (nI (x - 2 ^ k))) r h)) rfl wl_X4_125 dX4_eatBeast_9 ?_
  refine z_aload_n C (pc := 12) dX4_eatBeast_12 rfl ?_
  refine z_dup C (pc := 13) dX4_eatBeast_13 rfl ?_
  refine z_get C (pc := 14) 0 rfl rfl wf_X4 11 (by decide) rfl wl_X4_128 (v := .int (i 11)) rfl dX4_eatBeast_14 ?_
  refine z_aload_n C (pc := 17) dX4_eatBeast_17 rfl ?_
  refine z_iload_n C (pc := 18) dX4_eatBeast_18 rfl ?_
  refine z_calliF C (by exact fun _ => mW_ad) (runV C (wc := (mW cI b (upd i 10 (nI (x - 2 ^ k))) r h)) (pc := 19) (rY' := rm 0 0) (nn := 1) (As := [.int (nI k)]) (rest := [.int (i 11), .ref (b 0)]) (m_feedsOf l D cI tt b (upd i 10 (nI (x - 2 ^ k))) r h kd n (hv.sp (SPm.rf.up (by omega)) SRm.rf) k hk) (full_hC _) (full_nd _) ⟨rfl, rfl, ⟨Nat.le_of_ble_eq_true rfl, Nat.le_of_ble_eq_true rfl⟩, Nat.le_of_ble_eq_true rfl, Nat.le_of_ble_eq_true rfl⟩ wl_X4_99 wm_X4_feedsOf we_X4_feedsOf wi_X4 wc_X4_feedsOf (by decide +kernel) rfl 0 rfl rfl rfl rfl (Nat.le_of_ble_eq_true rfl) dX4_eatBeast_19) (fun q_1 u_1 h_1 => ?_)
  subst h_1
  refine z_ws (st' := [.int (nI (fds (kd k))), .int (i 11), .ref (b 0)]) (ws' := (mW cI b (upd i 10 (nI (x - 2 ^ k))) r h)) rfl rfl ?_
  refine z_iadd C (pc := 22) dX4_eatBeast_22 ?_
  refine z_seti (y := nI (f + fds (kd k))) (by rw [hp.2, nI_add]) ?_
  refine z_put C (pc := 23) 0 rfl rfl wf_X4 11 (by decide) rfl tyX4 tyX4_ok nmX4 rfl rfl rfl (Nat.le_of_ble_eq_true rfl) (ws' := (mW cI b (upd (upd i 10 (nI (x - 2 ^ k))) 11 (nI (f + fds (kd k)))) r h)) rfl wl_X4_128 dX4_eatBeast_23 ?_
  refine z_aload_n C (pc := 26) dX4_eatBeast_26 rfl ?_
  refine z_callvF C (by exact fun _ => mW_ad) (runV C (wc := (mW cI b (upd (upd i 10 (nI (x - 2 ^ k))) 11 (nI (f + fds (kd k)))) r h)) (pc := 27) (rY' := rm 2 44) (nn := 0) (As := []) (rest := []) (m_keepPulled l D cI tt b (upd (upd i 10 (nI (x - 2 ^ k))) 11 (nI (f + fds (kd k)))) r h kd n (hv.sp ((SPm.rf.up (by omega)).up (by omega)) SRm.rf) (x - 2 ^ k) (f + fds (kd k)) (Nat.lt_of_le_of_lt (Nat.sub_le _ _) (by omega)) (by omega) ⟨by simp [upd], by simp [upd]⟩) (full_hC _) (full_nd _) ⟨rfl, rfl, ⟨Nat.le_of_ble_eq_true rfl, Nat.le_of_ble_eq_true rfl⟩, Nat.le_of_ble_eq_true rfl, Nat.le_of_ble_eq_true rfl⟩ wl_X4_131 wm_X4_keepPulled we_X4_keepPulled wi_X4 wc_X4_keepPulled (by decide +kernel) rfl 0 rfl rfl rfl rfl (Nat.le_of_ble_eq_true rfl) dX4_eatBeast_27) (fun u_2 h_2 => ?_)
  generalize u_2 = i2 at h_2 ⊢
  obtain ⟨k1, k2, k3⟩ := h_2
  refine z_ws (st' := []) (ws' := (mW cI b i2 r h)) rfl rfl ?_
  refine z_vret C (pc := 30) i2 dX4_eatBeast_30 ?_ rfl
  refine ⟨((SPm.rf.up (by omega)).up (by omega)).tr k1, k2.trans (by simp [upd]), ?_⟩
  unfold dev
  rw [if_pos hb]
  exact k3
