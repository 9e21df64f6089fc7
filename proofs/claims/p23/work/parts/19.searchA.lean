theorem nI_z {n : Nat} (hn : n < 2 ^ 31) (h : nI n = 0) : n = 0 := (nI_eq (b := 0) hn (by decide)).mp h
theorem nI_nz {n : Nat} (h : ¬ nI n = 0) : n ≠ 0 := fun e => h (by rw [e]; rfl)
def noCairn (n : Nat) (x : Int32) : Bool := decide (x < 1) || (!decide (x ≤ 5) || decide (n = 0))
set_option maxHeartbeats 4000000 in
set_option maxRecDepth 100000 in
theorem c_isNobody (l : Launch) (D : va_G) (cI : ClassId) (tt : Nat × Nat × Nat) (a : Nat → Nat) (i : Nat → Int32) (r : Nat → Nat → Int32) (x : Int32) (n : Nat) (hn : i 4 = nI n) (hn6 : n ≤ 6) : MetI (S := Unit) l yX3_isNobody cX3_isNobody 2 (some .boolean) (rm 1 20) D cI tt [.ref (a 0), .int x] (cW cI a i r) (fun q _ => q = b2 (noPeople n x)) (fun _ => cW cI a i r) := by
  refine met_ofI (by decide) (Nat.le_of_ble_eq_true rfl) ?_
  intro pP eE sS mM aV bB mE cC AA C hin
  refine z_conv (lv' := [(0, .ref (a 0)), (1, .int x)]) ⟨rfl, rfl, trivial⟩ rfl rfl ?_
  refine z_iload_n C (pc := 0) dX3_isNobody_0 rfl ?_
  refine z_iconst C (pc := 1) (v := 1) dX3_isNobody_1 (by decide) ?_
  refine z_icmp_lt C (pc := 2) (tgt := 16) dX3_isNobody_2 (by decide) (fun c_1 => ?_) (fun c_1 => ?_)
  · refine z_iconst C (pc := 16) (v := 1) dX3_isNobody_16 (by decide) ?_
    refine z_goto C (pc := 17) (tgt := 21) dX3_isNobody_17 (by decide) ?_
    refine z_zret C (pc := 21) () dX3_isNobody_21 rfl ?_ rfl
    simp [b2, noPeople, c_1]
  · refine z_iload_n C (pc := 5) dX3_isNobody_5 rfl ?_
    refine z_aload_n C (pc := 6) dX3_isNobody_6 rfl ?_
    refine z_get C (pc := 7) 0 rfl rfl wf_X3 1 (by decide) rfl wl_X3_19 (v := .ref (a 3)) rfl dX3_isNobody_7 ?_
    refine z_calliF C (by exact fun _ => cW_ad) (runVN C (wc := (cW cI a i r)) (pc := 10) (rY' := rm 0 0) (nn := 0) (As := []) (rest := [.int x]) (c_all l D cI tt a i r n hn hn6) (full_hC _) (full_nd _) ⟨rfl, rfl, ⟨Nat.le_of_ble_eq_true rfl, Nat.le_of_ble_eq_true rfl⟩, Nat.le_of_ble_eq_true rfl, Nat.le_of_ble_eq_true rfl⟩ wl_X3_70 wm_X1_all we_X1_all wi_X1 wc_X1_all (by decide +kernel) rfl 3 rfl rfl rfl rfl (Nat.le_of_ble_eq_true rfl) dX3_isNobody_10) (fun q_2 u_2 h_2 => ?_)
    subst h_2
    refine z_ws (st' := [.int (nI (2 ^ n - 1)), .int x]) (ws' := (cW cI a i r)) rfl rfl ?_
    refine z_icmp_le C (pc := 13) (tgt := 20) dX3_isNobody_13 (by decide) (fun c_3 => ?_) (fun c_3 => ?_)
    · refine z_iconst C (pc := 20) (v := 0) dX3_isNobody_20 (by decide) ?_
      refine z_zret C (pc := 21) () dX3_isNobody_21 rfl ?_ rfl
      simp [b2, noPeople, c_1, c_3]
    · refine z_iconst C (pc := 16) (v := 1) dX3_isNobody_16 (by decide) ?_
      refine z_goto C (pc := 17) (tgt := 21) dX3_isNobody_17 (by decide) ?_
      refine z_zret C (pc := 21) () dX3_isNobody_21 rfl ?_ rfl
      simp [b2, noPeople, c_1, c_3]

set_option maxHeartbeats 4000000 in
set_option maxRecDepth 100000 in
theorem c_isNoMarch (l : Launch) (D : va_G) (cI : ClassId) (tt : Nat × Nat × Nat) (a : Nat → Nat) (i : Nat → Int32) (r : Nat → Nat → Int32) (x y f : Int32) (n : Nat) (hn : i 4 = nI n) (hn6 : n ≤ 6) : MetI (S := Unit) l yX3_isNoMarch cX3_isNoMarch 4 (some .boolean) (rm 2 41) D cI tt [.ref (a 0), .int x, .int y, .int f] (cW cI a i r) (fun q _ => q = b2 (noMarch n x y f)) (fun _ => cW cI a i r) := by
  refine met_ofI (by decide) (Nat.le_of_ble_eq_true rfl) ?_
  intro pP eE sS mM aV bB mE cC AA C hin
  refine z_conv (lv' := [(0, .ref (a 0)), (1, .int x), (2, .int y), (3, .int f)]) ⟨rfl, rfl, rfl, rfl, trivial⟩ rfl rfl ?_
  refine z_aload_n C (pc := 0) dX3_isNoMarch_0 rfl ?_
  refine z_iload_n C (pc := 1) dX3_isNoMarch_1 rfl ?_
  refine z_calliF C (by exact fun _ => cW_ad) (runV C (wc := (cW cI a i r)) (pc := 2) (rY' := rm 1 20) (nn := 1) (As := [.int x]) (rest := []) (c_isNobody l D cI tt a i r x n hn hn6) (full_hC _) (full_nd _) ⟨rfl, rfl, ⟨Nat.le_of_ble_eq_true rfl, Nat.le_of_ble_eq_true rfl⟩, Nat.le_of_ble_eq_true rfl, Nat.le_of_ble_eq_true rfl⟩ wl_X3_153 wm_X3_isNobody we_X3_isNobody wi_X3 wc_X3_isNobody (by decide +kernel) rfl 0 rfl rfl rfl rfl (Nat.le_of_ble_eq_true rfl) dX3_isNoMarch_2) (fun q_1 u_1 h_1 => ?_)
  refine z_ws (st' := [.int q_1]) (ws' := (cW cI a i r)) rfl rfl ?_
  refine z_if_ne C (pc := 5) (tgt := 25) dX3_isNoMarch_5 (by decide) (fun c_2 => ?_) (fun c_2 => ?_)
  · have hb1 := b2_t (h_1 ▸ c_2)
    refine z_iconst C (pc := 25) (v := 1) dX3_isNoMarch_25 (by decide) ?_
    refine z_goto C (pc := 26) (tgt := 30) dX3_isNoMarch_26 (by decide) ?_
    refine z_zret C (pc := 30) () dX3_isNoMarch_30 rfl ?_ rfl
    simp [b2, noMarch, *]
  · have hb1 := b2_f (h_1 ▸ c_2)
    refine z_iload_n C (pc := 8) dX3_isNoMarch_8 rfl ?_
    refine z_calli C (isC := []) rfl (by exact fun _ => rfl) (runS C (wc := []) (pc := 9) (rY' := rm 0 0) (nn := 1) (As := [.int y]) (rest := []) (c_isNoStage l D cI tt y) rfl rfl ⟨rfl, rfl, ⟨Nat.le_of_ble_eq_true rfl, Nat.le_of_ble_eq_true rfl⟩, Nat.le_of_ble_eq_true rfl, Nat.le_of_ble_eq_true rfl⟩ wl_X3_156 ws_X3_isNoStage wi_X3 wc_X3_isNoStage (by decide +kernel) rfl rfl (Nat.le_of_ble_eq_true rfl) dX3_isNoMarch_9) (fun q_3 u_3 h_3 => ?_)
    refine z_ws (st' := [.int q_3]) (ws' := (cW cI a i r)) rfl rfl ?_
    refine z_if_ne C (pc := 12) (tgt := 25) dX3_isNoMarch_12 (by decide) (fun c_4 => ?_) (fun c_4 => ?_)
    · have hb2 := b2_t (h_3 ▸ c_4)
      refine z_iconst C (pc := 25) (v := 1) dX3_isNoMarch_25 (by decide) ?_
      refine z_goto C (pc := 26) (tgt := 30) dX3_isNoMarch_26 (by decide) ?_
      refine z_zret C (pc := 30) () dX3_isNoMarch_30 rfl ?_ rfl
      simp [b2, noMarch, *]
    · have hb2 := b2_f (h_3 ▸ c_4)
      refine z_iload_n C (pc := 15) dX3_isNoMarch_15 rfl ?_
      refine z_if_lt C (pc := 16) (tgt := 25) dX3_isNoMarch_16 (by decide) (fun c_5 => ?_) (fun c_5 => ?_)
      · refine z_iconst C (pc := 25) (v := 1) dX3_isNoMarch_25 (by decide) ?_
        refine z_goto C (pc := 26) (tgt := 30) dX3_isNoMarch_26 (by decide) ?_
        refine z_zret C (pc := 30) () dX3_isNoMarch_30 rfl ?_ rfl
        simp [b2, noMarch, noFood, *]
      · refine z_iload_n C (pc := 19) dX3_isNoMarch_19 rfl ?_
        refine z_bipush C (pc := 20) (v := 40) dX3_isNoMarch_20 (by decide) ?_
        refine z_icmp_le C (pc := 22) (tgt := 29) dX3_isNoMarch_22 (by decide) (fun c_6 => ?_) (fun c_6 => ?_)
        · refine z_iconst C (pc := 29) (v := 0) dX3_isNoMarch_29 (by decide) ?_
          refine z_zret C (pc := 30) () dX3_isNoMarch_30 rfl ?_ rfl
          simp [b2, noMarch, noFood, *]
        · refine z_iconst C (pc := 25) (v := 1) dX3_isNoMarch_25 (by decide) ?_
          refine z_goto C (pc := 26) (tgt := 30) dX3_isNoMarch_26 (by decide) ?_
          refine z_zret C (pc := 30) () dX3_isNoMarch_30 rfl ?_ rfl
          simp [b2, noMarch, noFood, *]

set_option maxHeartbeats 4000000 in
set_option maxRecDepth 100000 in
theorem c_isNoCairn (l : Launch) (D : va_G) (cI : ClassId) (tt : Nat × Nat × Nat) (a : Nat → Nat) (i : Nat → Int32) (r : Nat → Nat → Int32) (x : Int32) (n : Nat) (hn : i 4 = nI n) (hn6 : n ≤ 6) : MetI (S := Unit) l yX3_isNoCairn cX3_isNoCairn 2 (some .boolean) (rm 0 0) D cI tt [.ref (a 0), .int x] (cW cI a i r) (fun q _ => q = b2 (noCairn n x)) (fun _ => cW cI a i r) := by
  refine met_ofI (by decide) (Nat.le_of_ble_eq_true rfl) ?_
  intro pP eE sS mM aV bB mE cC AA C hin
  refine z_conv (lv' := [(0, .ref (a 0)), (1, .int x)]) ⟨rfl, rfl, trivial⟩ rfl rfl ?_
  refine z_iload_n C (pc := 0) dX3_isNoCairn_0 rfl ?_
  refine z_iconst C (pc := 1) (v := 1) dX3_isNoCairn_1 (by decide) ?_
  refine z_icmp_lt C (pc := 2) (tgt := 20) dX3_isNoCairn_2 (by decide) (fun c_1 => ?_) (fun c_1 => ?_)
  · refine z_iconst C (pc := 20) (v := 1) dX3_isNoCairn_20 (by decide) ?_
    refine z_goto C (pc := 21) (tgt := 25) dX3_isNoCairn_21 (by decide) ?_
    refine z_zret C (pc := 25) () dX3_isNoCairn_25 rfl ?_ rfl
    first | (simp [b2, noCairn, c_1]; done) | (have hn0 : n = 0 := nI_z (by omega) (hn ▸ c_1); simp [b2, noCairn, hn0]; done) | (have hn0 : n ≠ 0 := nI_nz (hn ▸ c_1); simp [b2, noCairn, hn0, c_1])
  · refine z_iload_n C (pc := 5) dX3_isNoCairn_5 rfl ?_
    refine z_iconst C (pc := 6) (v := 5) dX3_isNoCairn_6 (by decide) ?_
    refine z_icmp_gt C (pc := 7) (tgt := 20) dX3_isNoCairn_7 (by decide) (fun c_2 => ?_) (fun c_2 => ?_)
    · refine z_iconst C (pc := 20) (v := 1) dX3_isNoCairn_20 (by decide) ?_
      refine z_goto C (pc := 21) (tgt := 25) dX3_isNoCairn_21 (by decide) ?_
      refine z_zret C (pc := 25) () dX3_isNoCairn_25 rfl ?_ rfl
      first | (simp [b2, noCairn, c_1, c_2]; done) | (have hn0 : n = 0 := nI_z (by omega) (hn ▸ c_2); simp [b2, noCairn, hn0]; done) | (have hn0 : n ≠ 0 := nI_nz (hn ▸ c_2); simp [b2, noCairn, hn0, c_1])
    · refine z_aload_n C (pc := 10) dX3_isNoCairn_10 rfl ?_
      refine z_get C (pc := 11) 0 rfl rfl wf_X3 1 (by decide) rfl wl_X3_19 (v := .ref (a 3)) rfl dX3_isNoCairn_11 ?_
      refine z_getN C (pc := 14) 3 rfl rfl wf_X1 1 (by decide) rfl wl_X3_53 (v := .int (i 4)) rfl dX3_isNoCairn_14 ?_
      refine z_if_ne C (pc := 17) (tgt := 24) dX3_isNoCairn_17 (by decide) (fun c_3 => ?_) (fun c_3 => ?_)
      · refine z_iconst C (pc := 24) (v := 0) dX3_isNoCairn_24 (by decide) ?_
        refine z_zret C (pc := 25) () dX3_isNoCairn_25 rfl ?_ rfl
        first | (simp [b2, noCairn, c_1, c_2, c_3]; done) | (have hn0 : n = 0 := nI_z (by omega) (hn ▸ c_3); simp [b2, noCairn, hn0]; done) | (have hn0 : n ≠ 0 := nI_nz (hn ▸ c_3); simp [b2, noCairn, hn0, c_1, c_2])
      · refine z_iconst C (pc := 20) (v := 1) dX3_isNoCairn_20 (by decide) ?_
        refine z_goto C (pc := 21) (tgt := 25) dX3_isNoCairn_21 (by decide) ?_
        refine z_zret C (pc := 25) () dX3_isNoCairn_25 rfl ?_ rfl
        first | (simp [b2, noCairn, c_1, c_2, c_3]; done) | (have hn0 : n = 0 := nI_z (by omega) (hn ▸ c_3); simp [b2, noCairn, hn0]; done) | (have hn0 : n ≠ 0 := nI_nz (hn ▸ c_3); simp [b2, noCairn, hn0, c_1, c_2])

set_option maxHeartbeats 4000000 in
set_option maxRecDepth 100000 in
theorem c_anyIsDead (l : Launch) (D : va_G) (cI : ClassId) (tt : Nat × Nat × Nat) (a : Nat → Nat) (i : Nat → Int32) (r : Nat → Nat → Int32) (x : Int32) : MetI (S := Unit) l yX3_anyIsDead cX3_anyIsDead 2 (some .boolean) (rm 0 0) D cI tt [.ref (a 0), .int x] (cW cI a i r) (fun q _ => q = b2 (decide (deadv x (i 10) ≠ 0))) (fun _ => cW cI a i r) := by
  refine met_ofI (by decide) (Nat.le_of_ble_eq_true rfl) ?_
  intro pP eE sS mM aV bB mE cC AA C hin
  refine z_conv (lv' := [(0, .ref (a 0)), (1, .int x)]) ⟨rfl, rfl, trivial⟩ rfl rfl ?_
  refine z_iload_n C (pc := 0) dX3_anyIsDead_0 rfl ?_
  refine z_aload_n C (pc := 1) dX3_anyIsDead_1 rfl ?_
  refine z_get C (pc := 2) 0 rfl rfl wf_X3 2 (by decide) rfl wl_X3_26 (v := .ref (a 6)) rfl dX3_anyIsDead_2 ?_
  refine z_getN C (pc := 5) 6 rfl rfl wf_X2 0 (by decide) rfl wl_X3_100 (v := .int (i 10)) rfl dX3_anyIsDead_5 ?_
  refine z_iconst C (pc := 8) (v := (-1)) dX3_anyIsDead_8 (by decide) ?_
  refine z_ixor C (pc := 9) dX3_anyIsDead_9 ?_
  refine z_iand C (pc := 10) dX3_anyIsDead_10 ?_
  refine z_if_eq C (pc := 11) (tgt := 18) dX3_anyIsDead_11 (by decide) (fun c_1 => ?_) (fun c_1 => ?_)
  · refine z_iconst C (pc := 18) (v := 0) dX3_anyIsDead_18 (by decide) ?_
    refine z_zret C (pc := 19) () dX3_anyIsDead_19 rfl ?_ rfl
    first | (have hd : deadv x (i 10) = 0 := c_1; simp [b2, hd]; done) | (have hd : ¬ deadv x (i 10) = 0 := c_1; simp [b2, hd])
  · refine z_iconst C (pc := 14) (v := 1) dX3_anyIsDead_14 (by decide) ?_
    refine z_goto C (pc := 15) (tgt := 19) dX3_anyIsDead_15 (by decide) ?_
    refine z_zret C (pc := 19) () dX3_anyIsDead_19 rfl ?_ rfl
    first | (have hd : deadv x (i 10) = 0 := c_1; simp [b2, hd]; done) | (have hd : ¬ deadv x (i 10) = 0 := c_1; simp [b2, hd])

set_option maxHeartbeats 4000000 in
set_option maxRecDepth 100000 in
theorem c_mostFoodOf (l : Launch) (D : va_G) (cI : ClassId) (tt : Nat × Nat × Nat) (a : Nat → Nat) (i : Nat → Int32) (r : Nat → Nat → Int32) (kd : Nat → Nat) (n : Nat) (hv : PV i r kd n) (x : Nat) (hx : x < 64) : MetI (S := Unit) l yX3_mostFoodOf cX3_mostFoodOf 2 (some .int) (rm 2 45) D cI tt [.ref (a 0), .int (nI x)] (cW cI a i r) (fun q _ => q = nI (min 40 (sumk pls kd x n))) (fun _ => cW cI a i r) := by
  have hn6 := hv.2.1
  have hx6 := pow_le6 hn6
  refine met_ofI (by decide) (Nat.le_of_ble_eq_true rfl) ?_
  intro pP eE sS mM aV bB mE cC AA C hin
  refine z_conv (lv' := [(0, .ref (a 0)), (1, .int (nI x))]) ⟨rfl, rfl, trivial⟩ rfl rfl ?_
  refine z_bipush C (pc := 0) (v := 40) dX3_mostFoodOf_0 (by decide) ?_
  refine z_aload_n C (pc := 2) dX3_mostFoodOf_2 rfl ?_
  refine z_get C (pc := 3) 0 rfl rfl wf_X3 1 (by decide) rfl wl_X3_19 (v := .ref (a 3)) rfl dX3_mostFoodOf_3 ?_
  refine z_iload_n C (pc := 6) dX3_mostFoodOf_6 rfl ?_
  refine z_gets C (pc := 7) C.2.2.2.2.2.2.2.1.1.1 wl_X3_91 dX3_mostFoodOf_7 ?_
  refine z_calliF C (by exact fun _ => cW_ad) (runVN C (wc := (cW cI a i r)) (pc := 10) (rY' := rm 1 21) (nn := 2) (As := [.int (nI x), .ref tt.1]) (rest := [.int 40]) (c_togetherP l D cI tt a i r kd n x hv (by omega)) (full_hC _) (full_nd _) ⟨rfl, rfl, ⟨Nat.le_of_ble_eq_true rfl, Nat.le_of_ble_eq_true rfl⟩, Nat.le_of_ble_eq_true rfl, Nat.le_of_ble_eq_true rfl⟩ wl_X3_192 wm_X1_together we_X1_together wi_X1 wc_X1_together (by decide +kernel) rfl 3 rfl rfl rfl rfl (Nat.le_of_ble_eq_true rfl) dX3_mostFoodOf_10) (fun q_1 u_1 h_1 => ?_)
  subst h_1
  refine z_ws (st' := [.int (nI (sumk pls kd x n)), .int 40]) (ws' := (cW cI a i r)) rfl rfl ?_
  refine z_mmin C (pc := 13) wl_X3_209 (Nat.le_of_ble_eq_true rfl) (Nat.le_of_ble_eq_true rfl) (Nat.zero_le _) (Nat.zero_le _) dX3_mostFoodOf_13 ?_
  refine z_iret C (pc := 16) () dX3_mostFoodOf_16 ?_ rfl
  exact min_nI (x := 40) (by omega) (by have := pl_le (kd := kd) (x := x) hn6; omega)

set_option maxHeartbeats 4000000 in
set_option maxRecDepth 100000 in
theorem c_leastFoodN (l : Launch) (D : va_G) (cI : ClassId) (tt : Nat × Nat × Nat) (a : Nat → Nat) (i : Nat → Int32) (r : Nat → Nat → Int32) (kd : Nat → Nat) (n : Nat) (hv : PV i r kd n) (x st : Nat) (hx : x < 2 ^ n) (hst : st ≤ 6) (c : Nat → Nat) (hc : ∀ k, k < 5 → r 3 k = nI (c k) ∧ c k ≤ 9) : MetI (S := ((Nat → Int32) × (Nat → Nat → Int32))) l yX3_leastFood cX3_leastFood 6 (some .int) (rm 4 92) D cI tt [.ref (a 0), .int (nI x), .int (nI st), .ref (a 7)] (cW cI a i r) (fun q u => q = needv kd n x st c ∧ SP i u.1 ∧ SR r u.2) (fun u => cW cI a u.1 u.2) := by
  have hn6 := hv.2.1
  have hx6 := pow_le6 hn6
  refine met_ofI (by decide) (Nat.le_of_ble_eq_true rfl) ?_
  intro pP eE sS mM aV bB mE cC AA C hin
  refine z_conv (lv' := [(0, .ref (a 0)), (1, .int (nI x)), (2, .int (nI st)), (3, .ref (a 7))]) ⟨rfl, rfl, rfl, rfl, trivial⟩ rfl rfl ?_
  refine z_aload_n C (pc := 0) dX3_leastFood_0 rfl ?_
  refine z_iload_n C (pc := 1) dX3_leastFood_1 rfl ?_
  refine z_calliF C (by exact fun _ => cW_ad) (runV C (wc := (cW cI a i r)) (pc := 2) (rY' := rm 2 45) (nn := 1) (As := [.int (nI x)]) (rest := []) (c_mostFoodOf l D cI tt a i r kd n hv x (by omega)) (full_hC _) (full_nd _) ⟨rfl, rfl, ⟨Nat.le_of_ble_eq_true rfl, Nat.le_of_ble_eq_true rfl⟩, Nat.le_of_ble_eq_true rfl, Nat.le_of_ble_eq_true rfl⟩ wl_X3_214 wm_X3_mostFoodOf we_X3_mostFoodOf wi_X3 wc_X3_mostFoodOf (by decide +kernel) rfl 0 rfl rfl rfl rfl (Nat.le_of_ble_eq_true rfl) dX3_leastFood_2) (fun q_1 u_1 h_1 => ?_)
  subst h_1
  refine z_ws (st' := [.int (nI (min 40 (sumk pls kd x n)))]) (ws' := (cW cI a i r)) rfl rfl ?_
  refine z_istore C (pc := 5) (lv' := [(0, .ref (a 0)), (1, .int (nI x)), (2, .int (nI st)), (3, .ref (a 7)), (4, .int (nI (min 40 (sumk pls kd x n))))]) dX3_leastFood_5 (Nat.le_of_ble_eq_true rfl) rfl rfl ?_
  refine z_iconst C (pc := 7) (v := 0) dX3_leastFood_7 (by decide) ?_
  refine z_istore C (pc := 8) (lv' := [(0, .ref (a 0)), (1, .int (nI x)), (2, .int (nI st)), (3, .ref (a 7)), (4, .int (nI (min 40 (sumk pls kd x n)))), (5, .int 0)]) dX3_leastFood_8 (Nat.le_of_ble_eq_true rfl) rfl rfl ?_
  have key10 : ∀ (fu10 : Nat) (f : Nat) (i' : Nat → Int32) (r' : Nat → Nat → Int32), (min 40 (sumk pls kd x n)) + 1 - f < fu10 → (f ≤ (min 40 (sumk pls kd x n)) + 1) → (SP i i') → (SR r r') → (ndv (homeb kd n x st c) ((min 40 (sumk pls kd x n)) + 1 - f) f = needv kd n x st c) → Z pP l eE (rm 4 92) sS mM aV bB mE cC D AA 6 0 0 (MQ bB (va_Qi (S := ((Nat → Int32) × (Nat → Nat → Int32))) (fun q u => q = needv kd n x st c ∧ SP i u.1 ∧ SR r u.2) (fun u t => va_P D vwCl ((fun u => cW cI a u.1 u.2) u) t.heap) AA) aV sS 0 0 AA) 10 [(0, .ref (a 0)), (1, .int (nI x)), (2, .int (nI st)), (3, .ref (a 7)), (4, .int (nI (min 40 (sumk pls kd x n)))), (5, .int (nI f))] [] (cW cI a i' r') := by
    intro fu10
    induction fu10 with
    | zero => intro f i' r' hfu10; exact absurd hfu10 (Nat.not_lt_zero _)
    | succ fu10 ih10 =>
      intro f i' r' hfu10 hfm hsp hsr heq
      refine z_iload C (pc := 10) dX3_leastFood_10 rfl ?_
      refine z_iload C (pc := 12) dX3_leastFood_12 rfl ?_
      refine z_icmp_gt C (pc := 14) (tgt := 48) dX3_leastFood_14 (by decide) (fun c_2 => ?_) (fun c_2 => ?_)
      · refine z_iconst C (pc := 48) (v := (-1)) dX3_leastFood_48 (by decide) ?_
        refine z_iret C (pc := 49) (i', r') dX3_leastFood_49 ?_ rfl
        have hfe : f = (min 40 (sumk pls kd x n)) + 1 := by
          have := Nat.lt_of_not_le (fun h => nI_nlt (a := (min 40 (sumk pls kd x n))) (b := f) h (by omega) c_2)
          omega
        refine ⟨?_, hsp, hsr⟩
        rw [← heq, hfe, Nat.sub_self]
        rfl
      · have hfl : f ≤ (min 40 (sumk pls kd x n)) := Nat.le_of_not_lt (fun h => c_2 (nI_lt h (by omega)))
        refine z_aload_n C (pc := 17) dX3_leastFood_17 rfl ?_
        refine z_get C (pc := 18) 0 rfl rfl wf_X3 1 (by decide) rfl wl_X3_19 (v := .ref (a 3)) rfl dX3_leastFood_18 ?_
        refine z_aload_n C (pc := 21) dX3_leastFood_21 rfl ?_
        refine z_callvF C (by exact fun _ => cW_ad) (runVN C (wc := (cW cI a i' r')) (pc := 22) (rY' := rm 2 44) (nn := 1) (As := [.ref (a 7)]) (rest := []) (c_setCairnsN l D cI tt a i' r') (full_hC _) (full_nd _) ⟨rfl, rfl, ⟨Nat.le_of_ble_eq_true rfl, Nat.le_of_ble_eq_true rfl⟩, Nat.le_of_ble_eq_true rfl, Nat.le_of_ble_eq_true rfl⟩ wl_X3_124 wm_X1_setCairns we_X1_setCairns wi_X1 wc_X1_setCairns (by decide +kernel) rfl 3 rfl rfl rfl rfl (Nat.le_of_ble_eq_true rfl) dX3_leastFood_22) (fun u_3 h_3 => ?_)
        generalize u_3 = r3 at h_3 ⊢
        obtain ⟨g1, g2⟩ := h_3
        have hsr2 := hsr.tr g1
        have hv2 := hv.sp hsp hsr2
        have hc2 : ∀ k, k < 5 → r3 2 k = nI (c k) ∧ c k ≤ 9 := fun k hk => ⟨(g2 k hk).trans ((congrFun (hsr 3 (by decide)) k).trans (hc k hk).1), (hc k hk).2⟩
        refine z_ws (st' := []) (ws' := (cW cI a i' r3)) rfl rfl ?_
        refine z_aload_n C (pc := 25) dX3_leastFood_25 rfl ?_
        refine z_get C (pc := 26) 0 rfl rfl wf_X3 1 (by decide) rfl wl_X3_19 (v := .ref (a 3)) rfl dX3_leastFood_26 ?_
        refine z_iload_n C (pc := 29) dX3_leastFood_29 rfl ?_
        refine z_iload_n C (pc := 30) dX3_leastFood_30 rfl ?_
        refine z_iload C (pc := 31) dX3_leastFood_31 rfl ?_
        refine z_calliF C (by exact fun _ => cW_ad) (runVN C (wc := (cW cI a i' r3)) (pc := 33) (rY' := rm 3 67) (nn := 3) (As := [.int (nI x), .int (nI st), .int (nI f)]) (rest := []) (c_go l D cI tt a i' r3 kd n x st f hv2 hx hst (by omega) c hc2) (full_hC _) (full_nd _) ⟨rfl, rfl, ⟨Nat.le_of_ble_eq_true rfl, Nat.le_of_ble_eq_true rfl⟩, Nat.le_of_ble_eq_true rfl, Nat.le_of_ble_eq_true rfl⟩ wl_X3_128 wm_X1_go we_X1_go wi_X1 wc_X1_go (by decide +kernel) rfl 3 rfl rfl rfl rfl (Nat.le_of_ble_eq_true rfl) dX3_leastFood_33) (fun q_4 u_4 h_4 => ?_)
        obtain ⟨i4, r4⟩ := u_4
        try dsimp only at h_4
        obtain ⟨k0, k1, k2, -⟩ := h_4
        refine z_ws (st' := [.int q_4]) (ws' := (cW cI a i4 r4)) rfl rfl ?_
        refine z_if_eq C (pc := 36) (tgt := 42) dX3_leastFood_36 (by decide) (fun c_5 => ?_) (fun c_5 => ?_)
        · have hne : (homeb kd n x st c) f = false := by
            unfold homeb
            by_cases e : (marv kd n x st f c).2.2.2 = 0
            · rw [k0, if_pos e] at c_5; exact absurd c_5 (by decide)
            · exact decide_eq_false e
          refine z_iinc C (pc := 42) (v := ((nI f) + 1)) (lv' := [(0, .ref (a 0)), (1, .int (nI x)), (2, .int (nI st)), (3, .ref (a 7)), (4, .int (nI (min 40 (sumk pls kd x n)))), (5, .int ((nI f) + 1))]) dX3_leastFood_42 rfl rfl (Nat.le_of_ble_eq_true rfl) rfl rfl ?_
          refine z_goto C (pc := 45) (tgt := 10) dX3_leastFood_45 (by decide) ?_
          refine z_lv (lv' := [(0, .ref (a 0)), (1, .int (nI x)), (2, .int (nI st)), (3, .ref (a 7)), (4, .int (nI (min 40 (sumk pls kd x n)))), (5, .int (nI (f + 1)))]) ⟨rfl, rfl, rfl, rfl, rfl, lki (nI_1 f), trivial⟩ ?_
          exact ih10 (f + 1) i4 r4 (by omega) (by omega) (hsp.tr k1) (hsr2.tr k2) (by rw [← heq, show (min 40 (sumk pls kd x n)) + 1 - f = ((min 40 (sumk pls kd x n)) + 1 - (f + 1)) + 1 by omega, show ((min 40 (sumk pls kd x n)) + 1 - (f + 1)) = ((min 40 (sumk pls kd x n)) - f) by omega]; show _ = (if _ then _ else _); rw [if_neg (by rw [hne]; decide)])
        · have hho : (homeb kd n x st c) f = true := by
            unfold homeb
            by_cases e : (marv kd n x st f c).2.2.2 = 0
            · exact decide_eq_true e
            · rw [k0, if_neg e] at c_5; exact absurd rfl c_5
          refine z_iload C (pc := 39) dX3_leastFood_39 rfl ?_
          refine z_iret C (pc := 41) (i4, r4) dX3_leastFood_41 ?_ rfl
          refine ⟨?_, hsp.tr k1, hsr2.tr k2⟩
          rw [← heq, show (min 40 (sumk pls kd x n)) + 1 - f = ((min 40 (sumk pls kd x n)) - f) + 1 by omega]
          unfold ndv
          rw [if_pos hho]
  refine z_lv (lv' := [(0, .ref (a 0)), (1, .int (nI x)), (2, .int (nI st)), (3, .ref (a 7)), (4, .int (nI (min 40 (sumk pls kd x n)))), (5, .int (nI 0))]) ⟨rfl, rfl, rfl, rfl, rfl, rfl, trivial⟩ ?_
  exact key10 (_ + 1) 0 i r (Nat.lt_succ_self _) (Nat.zero_le _) SP.rf SR.rf need_cap

set_option maxHeartbeats 4000000 in
set_option maxRecDepth 100000 in
theorem c_leastFoodW (l : Launch) (D : va_G) (cI : ClassId) (tt : Nat × Nat × Nat) (a : Nat → Nat) (i : Nat → Int32) (r : Nat → Nat → Int32) (kd : Nat → Nat) (n : Nat) (hv : PV i r kd n) (x st : Nat) (hx : x < 2 ^ n) (hst : st ≤ 6) (c : Nat → Nat) (hc : ∀ k, k < 5 → r 13 k = nI (c k) ∧ c k ≤ 9) : MetI (S := ((Nat → Int32) × (Nat → Nat → Int32))) l yX3_leastFood cX3_leastFood 6 (some .int) (rm 4 92) D cI tt [.ref (a 0), .int (nI x), .int (nI st), .ref (a 18)] (cW cI a i r) (fun q u => q = needv kd n x st c ∧ SP i u.1 ∧ SR r u.2) (fun u => cW cI a u.1 u.2) := by
  have hn6 := hv.2.1
  have hx6 := pow_le6 hn6
  refine met_ofI (by decide) (Nat.le_of_ble_eq_true rfl) ?_
  intro pP eE sS mM aV bB mE cC AA C hin
  refine z_conv (lv' := [(0, .ref (a 0)), (1, .int (nI x)), (2, .int (nI st)), (3, .ref (a 18))]) ⟨rfl, rfl, rfl, rfl, trivial⟩ rfl rfl ?_
  refine z_aload_n C (pc := 0) dX3_leastFood_0 rfl ?_
  refine z_iload_n C (pc := 1) dX3_leastFood_1 rfl ?_
  refine z_calliF C (by exact fun _ => cW_ad) (runV C (wc := (cW cI a i r)) (pc := 2) (rY' := rm 2 45) (nn := 1) (As := [.int (nI x)]) (rest := []) (c_mostFoodOf l D cI tt a i r kd n hv x (by omega)) (full_hC _) (full_nd _) ⟨rfl, rfl, ⟨Nat.le_of_ble_eq_true rfl, Nat.le_of_ble_eq_true rfl⟩, Nat.le_of_ble_eq_true rfl, Nat.le_of_ble_eq_true rfl⟩ wl_X3_214 wm_X3_mostFoodOf we_X3_mostFoodOf wi_X3 wc_X3_mostFoodOf (by decide +kernel) rfl 0 rfl rfl rfl rfl (Nat.le_of_ble_eq_true rfl) dX3_leastFood_2) (fun q_1 u_1 h_1 => ?_)
  subst h_1
  refine z_ws (st' := [.int (nI (min 40 (sumk pls kd x n)))]) (ws' := (cW cI a i r)) rfl rfl ?_
  refine z_istore C (pc := 5) (lv' := [(0, .ref (a 0)), (1, .int (nI x)), (2, .int (nI st)), (3, .ref (a 18)), (4, .int (nI (min 40 (sumk pls kd x n))))]) dX3_leastFood_5 (Nat.le_of_ble_eq_true rfl) rfl rfl ?_
  refine z_iconst C (pc := 7) (v := 0) dX3_leastFood_7 (by decide) ?_
  refine z_istore C (pc := 8) (lv' := [(0, .ref (a 0)), (1, .int (nI x)), (2, .int (nI st)), (3, .ref (a 18)), (4, .int (nI (min 40 (sumk pls kd x n)))), (5, .int 0)]) dX3_leastFood_8 (Nat.le_of_ble_eq_true rfl) rfl rfl ?_
  have key10 : ∀ (fu10 : Nat) (f : Nat) (i' : Nat → Int32) (r' : Nat → Nat → Int32), (min 40 (sumk pls kd x n)) + 1 - f < fu10 → (f ≤ (min 40 (sumk pls kd x n)) + 1) → (SP i i') → (SR r r') → (ndv (homeb kd n x st c) ((min 40 (sumk pls kd x n)) + 1 - f) f = needv kd n x st c) → Z pP l eE (rm 4 92) sS mM aV bB mE cC D AA 6 0 0 (MQ bB (va_Qi (S := ((Nat → Int32) × (Nat → Nat → Int32))) (fun q u => q = needv kd n x st c ∧ SP i u.1 ∧ SR r u.2) (fun u t => va_P D vwCl ((fun u => cW cI a u.1 u.2) u) t.heap) AA) aV sS 0 0 AA) 10 [(0, .ref (a 0)), (1, .int (nI x)), (2, .int (nI st)), (3, .ref (a 18)), (4, .int (nI (min 40 (sumk pls kd x n)))), (5, .int (nI f))] [] (cW cI a i' r') := by
    intro fu10
    induction fu10 with
    | zero => intro f i' r' hfu10; exact absurd hfu10 (Nat.not_lt_zero _)
    | succ fu10 ih10 =>
      intro f i' r' hfu10 hfm hsp hsr heq
      refine z_iload C (pc := 10) dX3_leastFood_10 rfl ?_
      refine z_iload C (pc := 12) dX3_leastFood_12 rfl ?_
      refine z_icmp_gt C (pc := 14) (tgt := 48) dX3_leastFood_14 (by decide) (fun c_2 => ?_) (fun c_2 => ?_)
      · refine z_iconst C (pc := 48) (v := (-1)) dX3_leastFood_48 (by decide) ?_
        refine z_iret C (pc := 49) (i', r') dX3_leastFood_49 ?_ rfl
        have hfe : f = (min 40 (sumk pls kd x n)) + 1 := by
          have := Nat.lt_of_not_le (fun h => nI_nlt (a := (min 40 (sumk pls kd x n))) (b := f) h (by omega) c_2)
          omega
        refine ⟨?_, hsp, hsr⟩
        rw [← heq, hfe, Nat.sub_self]
        rfl
      · have hfl : f ≤ (min 40 (sumk pls kd x n)) := Nat.le_of_not_lt (fun h => c_2 (nI_lt h (by omega)))
        refine z_aload_n C (pc := 17) dX3_leastFood_17 rfl ?_
        refine z_get C (pc := 18) 0 rfl rfl wf_X3 1 (by decide) rfl wl_X3_19 (v := .ref (a 3)) rfl dX3_leastFood_18 ?_
        refine z_aload_n C (pc := 21) dX3_leastFood_21 rfl ?_
        refine z_callvF C (by exact fun _ => cW_ad) (runVN C (wc := (cW cI a i' r')) (pc := 22) (rY' := rm 2 44) (nn := 1) (As := [.ref (a 18)]) (rest := []) (c_setCairnsW l D cI tt a i' r') (full_hC _) (full_nd _) ⟨rfl, rfl, ⟨Nat.le_of_ble_eq_true rfl, Nat.le_of_ble_eq_true rfl⟩, Nat.le_of_ble_eq_true rfl, Nat.le_of_ble_eq_true rfl⟩ wl_X3_124 wm_X1_setCairns we_X1_setCairns wi_X1 wc_X1_setCairns (by decide +kernel) rfl 3 rfl rfl rfl rfl (Nat.le_of_ble_eq_true rfl) dX3_leastFood_22) (fun u_3 h_3 => ?_)
        generalize u_3 = r3 at h_3 ⊢
        obtain ⟨g1, g2⟩ := h_3
        have hsr2 := hsr.tr g1
        have hv2 := hv.sp hsp hsr2
        have hc2 : ∀ k, k < 5 → r3 2 k = nI (c k) ∧ c k ≤ 9 := fun k hk => ⟨(g2 k hk).trans ((congrFun (hsr 13 (by decide)) k).trans (hc k hk).1), (hc k hk).2⟩
        refine z_ws (st' := []) (ws' := (cW cI a i' r3)) rfl rfl ?_
        refine z_aload_n C (pc := 25) dX3_leastFood_25 rfl ?_
        refine z_get C (pc := 26) 0 rfl rfl wf_X3 1 (by decide) rfl wl_X3_19 (v := .ref (a 3)) rfl dX3_leastFood_26 ?_
        refine z_iload_n C (pc := 29) dX3_leastFood_29 rfl ?_
        refine z_iload_n C (pc := 30) dX3_leastFood_30 rfl ?_
        refine z_iload C (pc := 31) dX3_leastFood_31 rfl ?_
        refine z_calliF C (by exact fun _ => cW_ad) (runVN C (wc := (cW cI a i' r3)) (pc := 33) (rY' := rm 3 67) (nn := 3) (As := [.int (nI x), .int (nI st), .int (nI f)]) (rest := []) (c_go l D cI tt a i' r3 kd n x st f hv2 hx hst (by omega) c hc2) (full_hC _) (full_nd _) ⟨rfl, rfl, ⟨Nat.le_of_ble_eq_true rfl, Nat.le_of_ble_eq_true rfl⟩, Nat.le_of_ble_eq_true rfl, Nat.le_of_ble_eq_true rfl⟩ wl_X3_128 wm_X1_go we_X1_go wi_X1 wc_X1_go (by decide +kernel) rfl 3 rfl rfl rfl rfl (Nat.le_of_ble_eq_true rfl) dX3_leastFood_33) (fun q_4 u_4 h_4 => ?_)
        obtain ⟨i4, r4⟩ := u_4
        try dsimp only at h_4
        obtain ⟨k0, k1, k2, -⟩ := h_4
        refine z_ws (st' := [.int q_4]) (ws' := (cW cI a i4 r4)) rfl rfl ?_
        refine z_if_eq C (pc := 36) (tgt := 42) dX3_leastFood_36 (by decide) (fun c_5 => ?_) (fun c_5 => ?_)
        · have hne : (homeb kd n x st c) f = false := by
            unfold homeb
            by_cases e : (marv kd n x st f c).2.2.2 = 0
            · rw [k0, if_pos e] at c_5; exact absurd c_5 (by decide)
            · exact decide_eq_false e
          refine z_iinc C (pc := 42) (v := ((nI f) + 1)) (lv' := [(0, .ref (a 0)), (1, .int (nI x)), (2, .int (nI st)), (3, .ref (a 18)), (4, .int (nI (min 40 (sumk pls kd x n)))), (5, .int ((nI f) + 1))]) dX3_leastFood_42 rfl rfl (Nat.le_of_ble_eq_true rfl) rfl rfl ?_
          refine z_goto C (pc := 45) (tgt := 10) dX3_leastFood_45 (by decide) ?_
          refine z_lv (lv' := [(0, .ref (a 0)), (1, .int (nI x)), (2, .int (nI st)), (3, .ref (a 18)), (4, .int (nI (min 40 (sumk pls kd x n)))), (5, .int (nI (f + 1)))]) ⟨rfl, rfl, rfl, rfl, rfl, lki (nI_1 f), trivial⟩ ?_
          exact ih10 (f + 1) i4 r4 (by omega) (by omega) (hsp.tr k1) (hsr2.tr k2) (by rw [← heq, show (min 40 (sumk pls kd x n)) + 1 - f = ((min 40 (sumk pls kd x n)) + 1 - (f + 1)) + 1 by omega, show ((min 40 (sumk pls kd x n)) + 1 - (f + 1)) = ((min 40 (sumk pls kd x n)) - f) by omega]; show _ = (if _ then _ else _); rw [if_neg (by rw [hne]; decide)])
        · have hho : (homeb kd n x st c) f = true := by
            unfold homeb
            by_cases e : (marv kd n x st f c).2.2.2 = 0
            · exact decide_eq_true e
            · rw [k0, if_neg e] at c_5; exact absurd rfl c_5
          refine z_iload C (pc := 39) dX3_leastFood_39 rfl ?_
          refine z_iret C (pc := 41) (i4, r4) dX3_leastFood_41 ?_ rfl
          refine ⟨?_, hsp.tr k1, hsr2.tr k2⟩
          rw [← heq, show (min 40 (sumk pls kd x n)) + 1 - f = ((min 40 (sumk pls kd x n)) - f) + 1 by omega]
          unfold ndv
          rw [if_pos hho]
  refine z_lv (lv' := [(0, .ref (a 0)), (1, .int (nI x)), (2, .int (nI st)), (3, .ref (a 18)), (4, .int (nI (min 40 (sumk pls kd x n)))), (5, .int (nI 0))]) ⟨rfl, rfl, rfl, rfl, rfl, rfl, trivial⟩ ?_
  exact key10 (_ + 1) 0 i r (Nat.lt_succ_self _) (Nat.zero_le _) SP.rf SR.rf need_cap
