theorem Cls.row {z : SG} {i : Nat → Int32} {r r' : Nat → Nat → Int32} (h : Cls z i r) (hr : ∀ q, q ≠ 13 → r' q = r q) : Cls z i r' := by
  obtain ⟨hn, ⟨p0, p1, p2, p3⟩, hk⟩ := h
  refine ⟨hn, ⟨?_, ?_, ?_, ?_⟩, ?_⟩
  · rw [hr 0 (by decide)]; exact p0
  · rw [hr 1 (by decide)]; exact p1
  · rw [hr 3 (by decide)]; exact p2
  · rw [hr 4 (by decide), hr 5 (by decide), hr 6 (by decide), hr 7 (by decide)]; exact p3
  · intro g
    rw [hr 8 (by decide), hr 9 (by decide), hr 10 (by decide), hr 11 (by decide), hr 12 (by decide)]
    exact hk g
theorem seed_of {x : Int32} (h : ¬ x < 0) : ∃ t, t < 2147483648 ∧ x = nI t ∧ tn x = t := by
  obtain ⟨j, hj, e⟩ := nI_of h
  exact ⟨j, hj, e, by rw [e]; exact tn_nI hj⟩
theorem cl_camp {z : SG} {i : Nat → Int32} {r r' : Nat → Nat → Int32} {x4 x10 : Int32} (h : Cls z i r) (hb : campb z.2.2 (z.1 3) = true) (h4 : x4 = nI (z.1 3 - 6)) (h10 : x10 = nI (2 ^ (z.1 3 - 6) - 1)) (hr1 : ∀ k, k < z.1 3 - 6 → r' 1 k = nI (kdn (z.2.2 k))) (hr3 : ∀ k, k < 5 → r' 3 k = nI (fdn (z.2.2 (z.1 3 - 5 + k)))) :
    Cls (campF z).2 (upd (upd (upd (upd (upd (upd (upd (upd i 4 x4) 10 x10) 11 0) 12 0) 13 0) 0 0) 1 (i 1 + 1)) 3 0) r' := by
  obtain ⟨⟨h0, h1, h2, h3, h4', h5, h6, h7, h8⟩, ⟨p0, p1, p2, p3⟩, hk⟩ := h
  unfold campF
  rw [if_pos hb]
  refine ⟨⟨rfl, ?_, h2, rfl, h4, h10, rfl, rfl, rfl⟩, ⟨fun k hk => absurd hk (Nat.not_lt_zero k), hr1, hr3, fun k hk => absurd hk (Nat.not_lt_zero k)⟩, fun g => absurd g (show ¬ (0 : Nat) = 1 by decide)⟩
  show i 1 + 1 = nI (z.1 1 + 1)
  rw [h1, nI_1]
theorem member_in {z : SG} {m : Nat} (v : VS z) (hm : m < z.1 4) (what : Int32) : memberF z (nI m) what = tellF z m what := by
  have hn := v.2.2.2.1
  have h1 : noMember z (nI m) = false := by
    unfold noMember
    have e1 := nI_pos (n := m) (by omega)
    have e2 := nI_lt hm (by omega)
    simp [e1, e2]
  rw [show memberF z (nI m) what = tellF z (tn (nI m)) what from if_neg (by rw [h1]; decide), tn_nI (by omega)]

set_option maxHeartbeats 4000000 in
set_option maxRecDepth 100000 in
theorem c_winters (l : Launch) (D : va_G) (cI : ClassId) (tt : Nat × Nat × Nat) (a : Nat → Nat) (i : Nat → Int32) (r : Nat → Nat → Int32) (m sd what : Int32) (z : SG) (hz : Cls z i r) (vz : VS z) : MetI (S := ((Nat → Int32) × (Nat → Nat → Int32))) l yX3_winters cX3_winters 5 (some .int) (rm 6 140) D cI tt [.ref (a 0), .int m, .int sd, .int what] (cW cI a i r) (fun q u => q = wintersF z m sd what ∧ Cls z u.1 u.2) (fun u => cW cI a u.1 u.2) := by
  have hv := hz.pv vz
  have hc := hz.c vz
  have hh := hz.hv vz
  have hn6 := vz.2.2.2.1
  have hx6 := pow_le6 hn6
  refine met_ofI (by decide) (Nat.le_of_ble_eq_true rfl) ?_
  intro pP eE sS mM aV bB mE cC AA C hin
  refine z_conv (lv' := [(0, .ref (a 0)), (1, .int m), (2, .int sd), (3, .int what)]) ⟨rfl, rfl, rfl, rfl, trivial⟩ rfl rfl ?_
  refine z_iload_n C (pc := 0) dX3_winters_0 rfl ?_
  refine z_iconst C (pc := 1) (v := 1) dX3_winters_1 (by decide) ?_
  refine z_icmp_lt C (pc := 2) (tgt := 24) dX3_winters_2 (by decide) (fun c_1 => ?_) (fun c_1 => ?_)
  · have hbb : m < 1 ∨ ¬ m ≤ 20 ∨ sd < 0 ∨ what < 0 ∨ ¬ what ≤ 2 := Or.inl c_1
    refine z_bipush C (pc := 24) (v := (-102)) dX3_winters_24 (by decide) ?_
    refine z_iret C (pc := 26) (i, r) dX3_winters_26 ?_ rfl
    rw [show wintersF z m sd what = -102 from if_pos hbb]
    exact ⟨rfl, hz⟩
  · refine z_iload_n C (pc := 5) dX3_winters_5 rfl ?_
    refine z_bipush C (pc := 6) (v := 20) dX3_winters_6 (by decide) ?_
    refine z_icmp_gt C (pc := 8) (tgt := 24) dX3_winters_8 (by decide) (fun c_2 => ?_) (fun c_2 => ?_)
    · have hbb : m < 1 ∨ ¬ m ≤ 20 ∨ sd < 0 ∨ what < 0 ∨ ¬ what ≤ 2 := Or.inr (Or.inl (fun h => absurd h (i_nle.mpr c_2)))
      refine z_bipush C (pc := 24) (v := (-102)) dX3_winters_24 (by decide) ?_
      refine z_iret C (pc := 26) (i, r) dX3_winters_26 ?_ rfl
      rw [show wintersF z m sd what = -102 from if_pos hbb]
      exact ⟨rfl, hz⟩
    · refine z_iload_n C (pc := 11) dX3_winters_11 rfl ?_
      refine z_if_lt C (pc := 12) (tgt := 24) dX3_winters_12 (by decide) (fun c_3 => ?_) (fun c_3 => ?_)
      · have hbb : m < 1 ∨ ¬ m ≤ 20 ∨ sd < 0 ∨ what < 0 ∨ ¬ what ≤ 2 := Or.inr (Or.inr (Or.inl c_3))
        refine z_bipush C (pc := 24) (v := (-102)) dX3_winters_24 (by decide) ?_
        refine z_iret C (pc := 26) (i, r) dX3_winters_26 ?_ rfl
        rw [show wintersF z m sd what = -102 from if_pos hbb]
        exact ⟨rfl, hz⟩
      · refine z_iload_n C (pc := 15) dX3_winters_15 rfl ?_
        refine z_if_lt C (pc := 16) (tgt := 24) dX3_winters_16 (by decide) (fun c_4 => ?_) (fun c_4 => ?_)
        · have hbb : m < 1 ∨ ¬ m ≤ 20 ∨ sd < 0 ∨ what < 0 ∨ ¬ what ≤ 2 := Or.inr (Or.inr (Or.inr (Or.inl c_4)))
          refine z_bipush C (pc := 24) (v := (-102)) dX3_winters_24 (by decide) ?_
          refine z_iret C (pc := 26) (i, r) dX3_winters_26 ?_ rfl
          rw [show wintersF z m sd what = -102 from if_pos hbb]
          exact ⟨rfl, hz⟩
        · refine z_iload_n C (pc := 19) dX3_winters_19 rfl ?_
          refine z_iconst C (pc := 20) (v := 2) dX3_winters_20 (by decide) ?_
          refine z_icmp_le C (pc := 21) (tgt := 27) dX3_winters_21 (by decide) (fun c_5 => ?_) (fun c_5 => ?_)
          · have hbb : ¬ (m < 1 ∨ ¬ m ≤ 20 ∨ sd < 0 ∨ what < 0 ∨ ¬ what ≤ 2) := fun h => h.elim c_1 (fun h => h.elim (fun h => h (i_nlt.mp c_2)) (fun h => h.elim c_3 (fun h => h.elim c_4 (fun h => h c_5))))
            obtain ⟨mk, hm20, hmm, htm⟩ := tn_of (M := 20) (by decide) (neg_1 c_1) (i_nlt.mp c_2)
            obtain ⟨t, ht, hst, hts⟩ := seed_of c_3
            subst hmm hst
            refine z_aload_n C (pc := 27) dX3_winters_27 rfl ?_
            refine z_get C (pc := 28) 0 rfl rfl wf_X3 1 (by decide) rfl wl_X3_19 (v := .ref (a 3)) rfl dX3_winters_28 ?_
            refine z_getN C (pc := 31) 3 rfl rfl wf_X1 1 (by decide) rfl wl_X3_53 (v := .int (i 4)) rfl dX3_winters_31 ?_
            refine z_if_ne C (pc := 34) (tgt := 40) dX3_winters_34 (by decide) (fun c_6 => ?_) (fun c_6 => ?_)
            · rw [hz.1.2.2.2.2.1] at c_6
              have hn0 := nI_nz c_6
              refine z_aload_n C (pc := 40) dX3_winters_40 rfl ?_
              refine z_iload_n C (pc := 41) dX3_winters_41 rfl ?_
              refine z_iload_n C (pc := 42) dX3_winters_42 rfl ?_
              refine z_calliF C (by exact fun _ => cW_ad) (runV C (wc := (cW cI a i r)) (pc := 43) (rY' := rm 2 44) (nn := 2) (As := [.int (nI mk), .int (nI t)]) (rest := []) (c_letCreep l D cI tt a i r (z.2.1 2) hc mk t hm20 ht) (full_hC _) (full_nd _) ⟨rfl, rfl, ⟨Nat.le_of_ble_eq_true rfl, Nat.le_of_ble_eq_true rfl⟩, Nat.le_of_ble_eq_true rfl, Nat.le_of_ble_eq_true rfl⟩ wl_X3_180 wm_X3_letCreep we_X3_letCreep wi_X3 wc_X3_letCreep (by decide +kernel) rfl 0 rfl rfl rfl rfl (Nat.le_of_ble_eq_true rfl) dX3_winters_43) (fun q_7 u_7 h_7 => ?_)
              generalize u_7 = r7 at h_7 ⊢
              obtain ⟨w0, w1, w2⟩ := h_7
              subst w0
              have hzw := hz.row w1
              have hcw : ∀ k, k < 5 → r7 13 k = nI ((crw mk (t, z.2.1 2)).2 k) ∧ (crw mk (t, z.2.1 2)).2 k ≤ 9 := fun k hk => ⟨w2 k hk, (crw_ok ht (fun k hk => (hc k hk).2) mk).2 k hk⟩
              refine z_ws (st' := [.int (nI (crw mk (t, z.2.1 2)).1)]) (ws' := (cW cI a i r7)) rfl rfl ?_
              refine z_istore C (pc := 46) (lv' := [(0, .ref (a 0)), (1, .int (nI mk)), (2, .int (nI t)), (3, .int what), (4, .int (nI (crw mk (t, z.2.1 2)).1))]) dX3_winters_46 (Nat.le_of_ble_eq_true rfl) rfl rfl ?_
              refine z_iload_n C (pc := 48) dX3_winters_48 rfl ?_
              refine z_iconst C (pc := 49) (v := 2) dX3_winters_49 (by decide) ?_
              refine z_icmp_ne C (pc := 50) (tgt := 56) dX3_winters_50 (by decide) (fun c_8 => ?_) (fun c_8 => ?_)
              · refine z_iload_n C (pc := 56) dX3_winters_56 rfl ?_
                refine z_if_ne C (pc := 57) (tgt := 70) dX3_winters_57 (by decide) (fun c_9 => ?_) (fun c_9 => ?_)
                · refine z_aload_n C (pc := 70) dX3_winters_70 rfl ?_
                  refine z_aload_n C (pc := 71) dX3_winters_71 rfl ?_
                  refine z_get C (pc := 72) 0 rfl rfl wf_X3 2 (by decide) rfl wl_X3_26 (v := .ref (a 6)) rfl dX3_winters_72 ?_
                  refine z_getN C (pc := 75) 6 rfl rfl wf_X2 0 (by decide) rfl wl_X3_100 (v := .int (i 10)) rfl dX3_winters_75 ?_
                  refine z_aload_n C (pc := 78) dX3_winters_78 rfl ?_
                  refine z_get C (pc := 79) 0 rfl rfl wf_X3 4 (by decide) rfl wl_X3_33 (v := .ref (a 18)) rfl dX3_winters_79 ?_
                  refine z_ws (st' := [.ref (a 18), .int (nI (z.1 5)), .ref (a 0)]) rfl (by rw [hz.1.2.2.2.2.2.1]) ?_
                  refine z_calliF C (by exact fun _ => cW_ad) (runV C (wc := (cW cI a i r7)) (pc := 82) (rY' := rm 5 117) (nn := 2) (As := [.int (nI (z.1 5)), .ref (a 18)]) (rest := []) (c_farthestW l D cI tt a i r7 (z.2.1 1) (z.1 4) (hzw.pv vz) (z.1 5) vz.2.2.2.2.1 (crw mk (t, z.2.1 2)).2 hcw) (full_hC _) (full_nd _) ⟨rfl, rfl, ⟨Nat.le_of_ble_eq_true rfl, Nat.le_of_ble_eq_true rfl⟩, Nat.le_of_ble_eq_true rfl, Nat.le_of_ble_eq_true rfl⟩ wl_X3_163 wm_X3_farthest we_X3_farthest wi_X3 wc_X3_farthest (by decide +kernel) rfl 0 rfl rfl rfl rfl (Nat.le_of_ble_eq_true rfl) dX3_winters_82) (fun q_10 u_10 h_10 => ?_)
                  obtain ⟨i10, r10⟩ := u_10
                  try dsimp only at h_10
                  obtain ⟨k0, k1, k2⟩ := h_10
                  refine z_ws (st' := [.int q_10]) (ws' := (cW cI a i10 r10)) rfl rfl ?_
                  refine z_iret C (pc := 85) (i10, r10) dX3_winters_85 ?_ rfl
                  rw [show wintersF z (nI mk) (nI t) what = nI (farv (z.2.1 1) (z.1 4) (z.1 5) (crw mk (t, z.2.1 2)).2) from (if_neg hbb).trans ((if_neg hn0).trans ((if_neg c_8).trans ((if_neg c_9).trans (by unfold winS; rw [htm, hts]))))]
                  exact ⟨k0, hzw.sp k1 k2⟩
                · refine z_aload_n C (pc := 60) dX3_winters_60 rfl ?_
                  refine z_get C (pc := 61) 0 rfl rfl wf_X3 4 (by decide) rfl wl_X3_33 (v := .ref (a 18)) rfl dX3_winters_61 ?_
                  refine z_calli C (isC := [18]) rfl (by exact fun _ => rfl) (runS C (wc := [(a 18, .inl (cI, 5, .inl (r7 13)))]) (pc := 64) (rY' := rm 0 0) (nn := 1) (As := [.ref (a 18)]) (rest := []) (c_sum l D cI tt (a 18) 5 (r7 13) (by decide)) rfl rfl ⟨rfl, rfl, ⟨Nat.le_of_ble_eq_true rfl, Nat.le_of_ble_eq_true rfl⟩, Nat.le_of_ble_eq_true rfl, Nat.le_of_ble_eq_true rfl⟩ wl_X3_146 ws_X3_sum wi_X3 wc_X3_sum (by decide +kernel) rfl rfl (Nat.le_of_ble_eq_true rfl) dX3_winters_64) (fun r_11 u_11 h_11 => ?_)
                  subst h_11
                  refine z_ws (st' := [.int (sumv (r7 13) 5)]) (ws' := (cW cI a i r7)) rfl rfl ?_
                  refine z_goto C (pc := 67) (tgt := 85) dX3_winters_67 (by decide) ?_
                  refine z_iret C (pc := 85) (i, r7) dX3_winters_85 ?_ rfl
                  rw [show wintersF z (nI mk) (nI t) what = nI (sumN (crw mk (t, z.2.1 2)).2) from (if_neg hbb).trans ((if_neg hn0).trans ((if_neg c_8).trans ((if_pos c_9).trans (by unfold winS; rw [htm, hts]))))]
                  exact ⟨sum_nI w2, hzw⟩
              · refine z_iload C (pc := 53) dX3_winters_53 rfl ?_
                refine z_iret C (pc := 55) (i, r7) dX3_winters_55 ?_ rfl
                rw [show wintersF z (nI mk) (nI t) what = nI (crw mk (t, z.2.1 2)).1 from (if_neg hbb).trans ((if_neg hn0).trans ((if_pos c_8).trans (by unfold winS; rw [htm, hts])))]
                exact ⟨rfl, hzw⟩
            · rw [hz.1.2.2.2.2.1] at c_6
              have hn0 : z.1 4 = 0 := nI_z (by omega) c_6
              refine z_bipush C (pc := 37) (v := (-103)) dX3_winters_37 (by decide) ?_
              refine z_iret C (pc := 39) (i, r) dX3_winters_39 ?_ rfl
              rw [show wintersF z (nI mk) (nI t) what = -103 from (if_neg hbb).trans (if_pos hn0)]
              exact ⟨rfl, hz⟩
          · have hbb : m < 1 ∨ ¬ m ≤ 20 ∨ sd < 0 ∨ what < 0 ∨ ¬ what ≤ 2 := Or.inr (Or.inr (Or.inr (Or.inr c_5)))
            refine z_bipush C (pc := 24) (v := (-102)) dX3_winters_24 (by decide) ?_
            refine z_iret C (pc := 26) (i, r) dX3_winters_26 ?_ rfl
            rw [show wintersF z m sd what = -102 from if_pos hbb]
            exact ⟨rfl, hz⟩
