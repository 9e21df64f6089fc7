set_option maxHeartbeats 4000000 in
set_option maxRecDepth 100000 in
theorem c_at (l : Launch) (D : va_G) (cI : ClassId) (tt : Nat × Nat × Nat) (b N : Nat) (f : Nat → Int32) (k : Int32) (hN : N < 2 ^ 31) : MetI (S := Unit) l yX3_at cX3_at 2 (some .int) (rm 0 0) D cI tt [.ref b, .int k] [(b, .inl (cI, N, .inl f))] (fun r _ => r = atv N f k) (fun _ => [(b, .inl (cI, N, .inl f))]) := by
  refine met_ofI (by decide) (Nat.le_of_ble_eq_true rfl) ?_
  intro pP eE sS mM aV bB mE cC AA C hin
  refine z_conv (lv' := [(0, .ref b), (1, .int k)]) ⟨rfl, rfl, trivial⟩ rfl rfl ?_
  refine z_aload_n C (pc := 0) dX3_at_0 rfl ?_
  refine z_ifnull C (pc := 1) dX3_at_1 ?_
  refine z_iload_n C (pc := 4) dX3_at_4 rfl ?_
  refine z_if_lt C (pc := 5) (tgt := 20) dX3_at_5 (by decide) (fun c_1 => ?_) (fun c_1 => ?_)
  · refine z_iconst C (pc := 20) (v := 0) dX3_at_20 (by decide) ?_
    refine z_iret C (pc := 21) () dX3_at_21 ?_ rfl
    simp only [atv, reduceIte, c_1]
  · refine z_iload_n C (pc := 8) dX3_at_8 rfl ?_
    refine z_aload_n C (pc := 9) dX3_at_9 rfl ?_
    refine z_alen C (pc := 10) 0 rfl (v := (nI N)) rfl dX3_at_10 ?_
    refine z_icmp_ge C (pc := 11) (tgt := 20) dX3_at_11 (by decide) (fun c_2 => ?_) (fun c_2 => ?_)
    · refine z_iconst C (pc := 20) (v := 0) dX3_at_20 (by decide) ?_
      refine z_iret C (pc := 21) () dX3_at_21 ?_ rfl
      simp only [atv, reduceIte, c_1, c_2]
    · refine z_aload_n C (pc := 14) dX3_at_14 rfl ?_
      refine z_iload_n C (pc := 15) dX3_at_15 rfl ?_
      have h_3 : vp_in k N := by exact vp_of c_1 c_2 hN
      refine z_iald C (pc := 16) 0 rfl h_3 dX3_at_16 ?_
      refine z_goto C (pc := 17) (tgt := 21) dX3_at_17 (by decide) ?_
      refine z_iret C (pc := 21) () dX3_at_21 ?_ rfl
      simp only [atv, reduceIte, c_1, c_2]

set_option maxHeartbeats 4000000 in
set_option maxRecDepth 100000 in
theorem c_atP (l : Launch) (D : va_G) (cI : ClassId) (tt : Nat × Nat × Nat) (k : Int32) : MetI (S := Unit) l yX3_at cX3_at 2 (some .int) (rm 0 0) D cI tt [.ref tt.1, .int k] [] (fun r _ => r = atv 5 pullsV k) (fun _ => []) := by
  refine met_ofI (by decide) (Nat.le_of_ble_eq_true rfl) ?_
  intro pP eE sS mM aV bB mE cC AA C hin
  refine z_conv (lv' := [(0, .ref tt.1), (1, .int k)]) ⟨rfl, rfl, trivial⟩ rfl rfl ?_
  refine z_aload_n C (pc := 0) dX3_at_0 rfl ?_
  refine z_ifnull C (pc := 1) dX3_at_1 ?_
  refine z_iload_n C (pc := 4) dX3_at_4 rfl ?_
  refine z_if_lt C (pc := 5) (tgt := 20) dX3_at_5 (by decide) (fun c_1 => ?_) (fun c_1 => ?_)
  · refine z_iconst C (pc := 20) (v := 0) dX3_at_20 (by decide) ?_
    refine z_iret C (pc := 21) () dX3_at_21 ?_ rfl
    simp only [atv, reduceIte, c_1]
  · refine z_iload_n C (pc := 8) dX3_at_8 rfl ?_
    refine z_aload_n C (pc := 9) dX3_at_9 rfl ?_
    refine z_tlen C (pc := 10) C.2.2.2.2.2.2.2.1.1.2 (v := (nI 5)) rfl dX3_at_10 ?_
    refine z_icmp_ge C (pc := 11) (tgt := 20) dX3_at_11 (by decide) (fun c_2 => ?_) (fun c_2 => ?_)
    · refine z_iconst C (pc := 20) (v := 0) dX3_at_20 (by decide) ?_
      refine z_iret C (pc := 21) () dX3_at_21 ?_ rfl
      simp only [atv, reduceIte, c_1, c_2]
    · refine z_aload_n C (pc := 14) dX3_at_14 rfl ?_
      refine z_iload_n C (pc := 15) dX3_at_15 rfl ?_
      have h_3 : vp_in k 5 := by exact vp_of c_1 c_2 (by decide)
      refine z_tald C (pc := 16) C.2.2.2.2.2.2.2.1.1.2 h_3 (v := .int (pullsV k.toNatClampNeg)) rfl dX3_at_16 ?_
      refine z_goto C (pc := 17) (tgt := 21) dX3_at_17 (by decide) ?_
      refine z_iret C (pc := 21) () dX3_at_21 ?_ rfl
      simp only [atv, reduceIte, c_1, c_2]

set_option maxHeartbeats 4000000 in
set_option maxRecDepth 100000 in
theorem c_atE (l : Launch) (D : va_G) (cI : ClassId) (tt : Nat × Nat × Nat) (k : Int32) : MetI (S := Unit) l yX3_at cX3_at 2 (some .int) (rm 0 0) D cI tt [.ref tt.2.1, .int k] [] (fun r _ => r = atv 5 eatsV k) (fun _ => []) := by
  refine met_ofI (by decide) (Nat.le_of_ble_eq_true rfl) ?_
  intro pP eE sS mM aV bB mE cC AA C hin
  refine z_conv (lv' := [(0, .ref tt.2.1), (1, .int k)]) ⟨rfl, rfl, trivial⟩ rfl rfl ?_
  refine z_aload_n C (pc := 0) dX3_at_0 rfl ?_
  refine z_ifnull C (pc := 1) dX3_at_1 ?_
  refine z_iload_n C (pc := 4) dX3_at_4 rfl ?_
  refine z_if_lt C (pc := 5) (tgt := 20) dX3_at_5 (by decide) (fun c_1 => ?_) (fun c_1 => ?_)
  · refine z_iconst C (pc := 20) (v := 0) dX3_at_20 (by decide) ?_
    refine z_iret C (pc := 21) () dX3_at_21 ?_ rfl
    simp only [atv, reduceIte, c_1]
  · refine z_iload_n C (pc := 8) dX3_at_8 rfl ?_
    refine z_aload_n C (pc := 9) dX3_at_9 rfl ?_
    refine z_tlen C (pc := 10) C.2.2.2.2.2.2.2.1.2.1.2 (v := (nI 5)) rfl dX3_at_10 ?_
    refine z_icmp_ge C (pc := 11) (tgt := 20) dX3_at_11 (by decide) (fun c_2 => ?_) (fun c_2 => ?_)
    · refine z_iconst C (pc := 20) (v := 0) dX3_at_20 (by decide) ?_
      refine z_iret C (pc := 21) () dX3_at_21 ?_ rfl
      simp only [atv, reduceIte, c_1, c_2]
    · refine z_aload_n C (pc := 14) dX3_at_14 rfl ?_
      refine z_iload_n C (pc := 15) dX3_at_15 rfl ?_
      have h_3 : vp_in k 5 := by exact vp_of c_1 c_2 (by decide)
      refine z_tald C (pc := 16) C.2.2.2.2.2.2.2.1.2.1.2 h_3 (v := .int (eatsV k.toNatClampNeg)) rfl dX3_at_16 ?_
      refine z_goto C (pc := 17) (tgt := 21) dX3_at_17 (by decide) ?_
      refine z_iret C (pc := 21) () dX3_at_21 ?_ rfl
      simp only [atv, reduceIte, c_1, c_2]

set_option maxHeartbeats 4000000 in
set_option maxRecDepth 100000 in
theorem c_atF (l : Launch) (D : va_G) (cI : ClassId) (tt : Nat × Nat × Nat) (k : Int32) : MetI (S := Unit) l yX3_at cX3_at 2 (some .int) (rm 0 0) D cI tt [.ref tt.2.2, .int k] [] (fun r _ => r = atv 5 feedsV k) (fun _ => []) := by
  refine met_ofI (by decide) (Nat.le_of_ble_eq_true rfl) ?_
  intro pP eE sS mM aV bB mE cC AA C hin
  refine z_conv (lv' := [(0, .ref tt.2.2), (1, .int k)]) ⟨rfl, rfl, trivial⟩ rfl rfl ?_
  refine z_aload_n C (pc := 0) dX3_at_0 rfl ?_
  refine z_ifnull C (pc := 1) dX3_at_1 ?_
  refine z_iload_n C (pc := 4) dX3_at_4 rfl ?_
  refine z_if_lt C (pc := 5) (tgt := 20) dX3_at_5 (by decide) (fun c_1 => ?_) (fun c_1 => ?_)
  · refine z_iconst C (pc := 20) (v := 0) dX3_at_20 (by decide) ?_
    refine z_iret C (pc := 21) () dX3_at_21 ?_ rfl
    simp only [atv, reduceIte, c_1]
  · refine z_iload_n C (pc := 8) dX3_at_8 rfl ?_
    refine z_aload_n C (pc := 9) dX3_at_9 rfl ?_
    refine z_tlen C (pc := 10) C.2.2.2.2.2.2.2.1.2.2.2 (v := (nI 5)) rfl dX3_at_10 ?_
    refine z_icmp_ge C (pc := 11) (tgt := 20) dX3_at_11 (by decide) (fun c_2 => ?_) (fun c_2 => ?_)
    · refine z_iconst C (pc := 20) (v := 0) dX3_at_20 (by decide) ?_
      refine z_iret C (pc := 21) () dX3_at_21 ?_ rfl
      simp only [atv, reduceIte, c_1, c_2]
    · refine z_aload_n C (pc := 14) dX3_at_14 rfl ?_
      refine z_iload_n C (pc := 15) dX3_at_15 rfl ?_
      have h_3 : vp_in k 5 := by exact vp_of c_1 c_2 (by decide)
      refine z_tald C (pc := 16) C.2.2.2.2.2.2.2.1.2.2.2 h_3 (v := .int (feedsV k.toNatClampNeg)) rfl dX3_at_16 ?_
      refine z_goto C (pc := 17) (tgt := 21) dX3_at_17 (by decide) ?_
      refine z_iret C (pc := 21) () dX3_at_21 ?_ rfl
      simp only [atv, reduceIte, c_1, c_2]

set_option maxHeartbeats 4000000 in
set_option maxRecDepth 100000 in
theorem c_put (l : Launch) (D : va_G) (cI : ClassId) (tt : Nat × Nat × Nat) (b N : Nat) (f : Nat → Int32) (k v : Int32) (hN : N < 2 ^ 31) : MetV (S := (Nat → Int32)) l yX3_put cX3_put 3 none (rm 0 0) D cI tt [.ref b, .int k, .int v] [(b, .inl (cI, N, .inl f))] (fun g => g = putv N f k v) (fun g => [(b, .inl (cI, N, .inl g))]) := by
  refine met_ofV (by decide) (Nat.le_of_ble_eq_true rfl) ?_
  intro pP eE sS mM aV bB mE cC AA C hin
  refine z_conv (lv' := [(0, .ref b), (1, .int k), (2, .int v)]) ⟨rfl, rfl, rfl, trivial⟩ rfl rfl ?_
  refine z_aload_n C (pc := 0) dX3_put_0 rfl ?_
  refine z_ifnull C (pc := 1) dX3_put_1 ?_
  refine z_iload_n C (pc := 4) dX3_put_4 rfl ?_
  refine z_if_lt C (pc := 5) (tgt := 18) dX3_put_5 (by decide) (fun c_1 => ?_) (fun c_1 => ?_)
  · refine z_vret C (pc := 18) f dX3_put_18 ?_ rfl
    simp only [putv, reduceIte, c_1]
  · refine z_iload_n C (pc := 8) dX3_put_8 rfl ?_
    refine z_aload_n C (pc := 9) dX3_put_9 rfl ?_
    refine z_alen C (pc := 10) 0 rfl (v := (nI N)) rfl dX3_put_10 ?_
    refine z_icmp_ge C (pc := 11) (tgt := 18) dX3_put_11 (by decide) (fun c_2 => ?_) (fun c_2 => ?_)
    · refine z_vret C (pc := 18) f dX3_put_18 ?_ rfl
      simp only [putv, reduceIte, c_1, c_2]
    · refine z_aload_n C (pc := 14) dX3_put_14 rfl ?_
      refine z_iload_n C (pc := 15) dX3_put_15 rfl ?_
      refine z_iload_n C (pc := 16) dX3_put_16 rfl ?_
      have h_3 : vp_in k N := by exact vp_of c_1 c_2 hN
      refine z_iast C (pc := 17) 0 rfl h_3 (ws' := [(b, .inl (cI, N, .inl (upd f k.toNatClampNeg v)))]) rfl dX3_put_17 ?_
      refine z_vret C (pc := 18) (upd f k.toNatClampNeg v) dX3_put_18 ?_ rfl
      simp only [putv, reduceIte, c_1, c_2]

set_option maxHeartbeats 4000000 in
set_option maxRecDepth 100000 in
theorem c_isOf (l : Launch) (D : va_G) (cI : ClassId) (tt : Nat × Nat × Nat) (o k : Int32) : MetI (S := Unit) l yX3_isOf cX3_isOf 2 (some .boolean) (rm 0 0) D cI tt [.int o, .int k] [] (fun r _ => r = isOfv o k) (fun _ => []) := by
  refine met_ofI (by decide) (Nat.le_of_ble_eq_true rfl) ?_
  intro pP eE sS mM aV bB mE cC AA C hin
  refine z_conv (lv' := [(0, .int o), (1, .int k)]) ⟨rfl, rfl, trivial⟩ rfl rfl ?_
  refine z_iload_n C (pc := 0) dX3_isOf_0 rfl ?_
  refine z_if_eq C (pc := 1) (tgt := 19) dX3_isOf_1 (by decide) (fun c_1 => ?_) (fun c_1 => ?_)
  · refine z_iconst C (pc := 19) (v := 1) dX3_isOf_19 (by decide) ?_
    refine z_goto C (pc := 20) (tgt := 24) dX3_isOf_20 (by decide) ?_
    refine z_zret C (pc := 24) () dX3_isOf_24 rfl ?_ rfl
    simp_all [isOfv]
  · refine z_iload_n C (pc := 4) dX3_isOf_4 rfl ?_
    refine z_iload_n C (pc := 5) dX3_isOf_5 rfl ?_
    refine z_icmp_eq C (pc := 6) (tgt := 19) dX3_isOf_6 (by decide) (fun c_2 => ?_) (fun c_2 => ?_)
    · refine z_iconst C (pc := 19) (v := 1) dX3_isOf_19 (by decide) ?_
      refine z_goto C (pc := 20) (tgt := 24) dX3_isOf_20 (by decide) ?_
      refine z_zret C (pc := 24) () dX3_isOf_24 rfl ?_ rfl
      simp_all [isOfv]
    · refine z_iload_n C (pc := 9) dX3_isOf_9 rfl ?_
      refine z_iconst C (pc := 10) (v := 2) dX3_isOf_10 (by decide) ?_
      refine z_icmp_ne C (pc := 11) (tgt := 23) dX3_isOf_11 (by decide) (fun c_3 => ?_) (fun c_3 => ?_)
      · refine z_iconst C (pc := 23) (v := 0) dX3_isOf_23 (by decide) ?_
        refine z_zret C (pc := 24) () dX3_isOf_24 rfl ?_ rfl
        simp_all [isOfv]
      · refine z_iload_n C (pc := 14) dX3_isOf_14 rfl ?_
        refine z_iconst C (pc := 15) (v := 4) dX3_isOf_15 (by decide) ?_
        refine z_icmp_ne C (pc := 16) (tgt := 23) dX3_isOf_16 (by decide) (fun c_4 => ?_) (fun c_4 => ?_)
        · refine z_iconst C (pc := 23) (v := 0) dX3_isOf_23 (by decide) ?_
          refine z_zret C (pc := 24) () dX3_isOf_24 rfl ?_ rfl
          simp_all [isOfv]
        · refine z_iconst C (pc := 19) (v := 1) dX3_isOf_19 (by decide) ?_
          refine z_goto C (pc := 20) (tgt := 24) dX3_isOf_20 (by decide) ?_
          refine z_zret C (pc := 24) () dX3_isOf_24 rfl ?_ rfl
          simp_all [isOfv]

set_option maxHeartbeats 4000000 in
set_option maxRecDepth 100000 in
theorem c_nextSeed (l : Launch) (D : va_G) (cI : ClassId) (tt : Nat × Nat × Nat) (x : Int32) : MetI (S := Unit) l yX3_nextSeed cX3_nextSeed 1 (some .int) (rm 0 0) D cI tt [.int x] [] (fun r _ => r = nextSeedv x) (fun _ => []) := by
  refine met_ofI (by decide) (Nat.le_of_ble_eq_true rfl) ?_
  intro pP eE sS mM aV bB mE cC AA C hin
  refine z_conv (lv' := [(0, .int x)]) ⟨rfl, trivial⟩ rfl rfl ?_
  refine z_ldc C (pc := 0) (v := 1103515245) wl_X3_242 dX3_nextSeed_0 ?_
  refine z_iload_n C (pc := 2) dX3_nextSeed_2 rfl ?_
  refine z_imul C (pc := 3) dX3_nextSeed_3 ?_
  refine z_sipush C (pc := 4) (v := 12345) dX3_nextSeed_4 (by decide) ?_
  refine z_iadd C (pc := 7) dX3_nextSeed_7 ?_
  refine z_ldc C (pc := 8) (v := 2147483647) wl_X3_243 dX3_nextSeed_8 ?_
  refine z_iand C (pc := 10) dX3_nextSeed_10 ?_
  refine z_iret C (pc := 11) () dX3_nextSeed_11 ?_ rfl
  rfl

set_option maxHeartbeats 4000000 in
set_option maxRecDepth 100000 in
theorem c_isNoStage (l : Launch) (D : va_G) (cI : ClassId) (tt : Nat × Nat × Nat) (x : Int32) : MetI (S := Unit) l yX3_isNoStage cX3_isNoStage 1 (some .boolean) (rm 0 0) D cI tt [.int x] [] (fun q _ => q = b2 (noStage x)) (fun _ => []) := by
  refine met_ofI (by decide) (Nat.le_of_ble_eq_true rfl) ?_
  intro pP eE sS mM aV bB mE cC AA C hin
  refine z_conv (lv' := [(0, .int x)]) ⟨rfl, trivial⟩ rfl rfl ?_
  refine z_iload_n C (pc := 0) dX3_isNoStage_0 rfl ?_
  refine z_iconst C (pc := 1) (v := 1) dX3_isNoStage_1 (by decide) ?_
  refine z_icmp_lt C (pc := 2) (tgt := 11) dX3_isNoStage_2 (by decide) (fun c_1 => ?_) (fun c_1 => ?_)
  · refine z_iconst C (pc := 11) (v := 1) dX3_isNoStage_11 (by decide) ?_
    refine z_goto C (pc := 12) (tgt := 16) dX3_isNoStage_12 (by decide) ?_
    refine z_zret C (pc := 16) () dX3_isNoStage_16 rfl ?_ rfl
    simp [b2, noStage, c_1]
  · refine z_iload_n C (pc := 5) dX3_isNoStage_5 rfl ?_
    refine z_bipush C (pc := 6) (v := 6) dX3_isNoStage_6 (by decide) ?_
    refine z_icmp_le C (pc := 8) (tgt := 15) dX3_isNoStage_8 (by decide) (fun c_2 => ?_) (fun c_2 => ?_)
    · refine z_iconst C (pc := 15) (v := 0) dX3_isNoStage_15 (by decide) ?_
      refine z_zret C (pc := 16) () dX3_isNoStage_16 rfl ?_ rfl
      simp [b2, noStage, c_1, c_2]
    · refine z_iconst C (pc := 11) (v := 1) dX3_isNoStage_11 (by decide) ?_
      refine z_goto C (pc := 12) (tgt := 16) dX3_isNoStage_12 (by decide) ?_
      refine z_zret C (pc := 16) () dX3_isNoStage_16 rfl ?_ rfl
      simp [b2, noStage, c_1, c_2]
