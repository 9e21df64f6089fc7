set_option maxHeartbeats 4000000 in
set_option maxRecDepth 100000 in
theorem c_letter (l : Launch) (D : va_G) (cI : ClassId) (tt : Nat × Nat × Nat) (a : Nat → Nat) (i : Nat → Int32) (r : Nat → Nat → Int32) (x : Int32) (z : SG) (hz : Cls z i r) (vz : VS z) : MetI (S := ((Nat → Int32) × (Nat → Nat → Int32))) l yX3_letter cX3_letter 2 (some .int) (rm 2 43) D cI tt [.ref (a 0), .int x] (cW cI a i r) (fun q u => q = (letterF z x).1 ∧ Cls (letterF z x).2 u.1 u.2) (fun u => cW cI a u.1 u.2) := by
  refine met_ofI (by decide) (Nat.le_of_ble_eq_true rfl) ?_
  intro pP eE sS mM aV bB mE cC AA C hin
  refine z_conv (lv' := [(0, .ref (a 0)), (1, .int x)]) ⟨rfl, rfl, trivial⟩ rfl rfl ?_
  refine z_iload_n C (pc := 0) dX3_letter_0 rfl ?_
  refine z_iconst C (pc := 1) (v := 1) dX3_letter_1 (by decide) ?_
  refine z_icmp_lt C (pc := 2) (tgt := 11) dX3_letter_2 (by decide) (fun c_1 => ?_) (fun c_1 => ?_)
  · refine z_bipush C (pc := 11) (v := (-102)) dX3_letter_11 (by decide) ?_
    refine z_iret C (pc := 13) (i, r) dX3_letter_13 ?_ rfl
    rw [show letterF z x = (-102, z) from if_pos (Or.inl c_1)]
    exact ⟨rfl, hz⟩
  · refine z_iload_n C (pc := 5) dX3_letter_5 rfl ?_
    refine z_bipush C (pc := 6) (v := 126) dX3_letter_6 (by decide) ?_
    refine z_icmp_le C (pc := 8) (tgt := 14) dX3_letter_8 (by decide) (fun c_2 => ?_) (fun c_2 => ?_)
    · refine z_aload_n C (pc := 14) dX3_letter_14 rfl ?_
      refine z_get C (pc := 15) 0 rfl rfl wf_X3 0 (by decide) rfl wl_X3_10 (v := .ref (a 1)) rfl dX3_letter_15 ?_
      refine z_iload_n C (pc := 18) dX3_letter_18 rfl ?_
      refine z_calliF C (by exact fun _ => cW_ad) (runVN C (wc := (cW cI a i r)) (pc := 19) (rY' := rm 1 22) (nn := 1) (As := [.int x]) (rest := []) (c_add l D cI tt a i r x) (full_hC _) (full_nd _) ⟨rfl, rfl, ⟨Nat.le_of_ble_eq_true rfl, Nat.le_of_ble_eq_true rfl⟩, Nat.le_of_ble_eq_true rfl, Nat.le_of_ble_eq_true rfl⟩ wl_X3_37 wm_X0_add we_X0_add wi_X0 wc_X0_add (by decide +kernel) rfl 1 rfl rfl rfl rfl (Nat.le_of_ble_eq_true rfl) dX3_letter_19) (fun q_3 u_3 h_3 => ?_)
      obtain ⟨i3, r3⟩ := u_3
      try dsimp only at h_3
      refine z_ws (st' := [.int q_3]) (ws' := (cW cI a i3 r3)) rfl rfl ?_
      refine z_if_eq C (pc := 22) (tgt := 35) dX3_letter_22 (by decide) (fun c_4 => ?_) (fun c_4 => ?_)
      · have hA : nI 15 ≤ i 3 ∧ (i3, r3) = (i, r) := by
          rcases h_3 with ⟨h1, h2, h3⟩ | ⟨h1, h2, h3⟩
          · exact ⟨h1, h3⟩
          · exact absurd (h2 ▸ c_4) (by decide)
        obtain ⟨hA1, hA2⟩ := hA
        obtain ⟨e1, e2⟩ := Prod.mk.inj hA2
        rw [hz.1.2.2.2.1] at hA1
        have hF := ge_of_nI hA1 (by decide)
        refine z_bipush C (pc := 35) (v := (-104)) dX3_letter_35 (by decide) ?_
        refine z_iret C (pc := 37) (i3, r3) dX3_letter_37 ?_ rfl
        rw [show letterF z x = (-104, z) from (if_neg (fun h => h.elim (fun h => c_1 h) (fun h => h c_2))).trans (if_pos hF), e1, e2]
        exact ⟨rfl, hz⟩
      · have hA : ¬ nI 15 ≤ i 3 ∧ (i3, r3) = (upd i 3 (i 3 + 1), va_up r 0 (putv 15 (r 0) (i 3) x)) := by
          rcases h_3 with ⟨h1, h2, h3⟩ | ⟨h1, h2, h3⟩
          · exact absurd h2 c_4
          · exact ⟨h1, h3⟩
        obtain ⟨hA1, hA2⟩ := hA
        obtain ⟨e1, e2⟩ := Prod.mk.inj hA2
        rw [hz.1.2.2.2.1] at hA1
        have hF : z.1 3 < 15 := lt_of_nI hA1 (by have := vz.2.2.1; omega)
        refine z_aload_n C (pc := 25) dX3_letter_25 rfl ?_
        refine z_get C (pc := 26) 0 rfl rfl wf_X3 0 (by decide) rfl wl_X3_10 (v := .ref (a 1)) rfl dX3_letter_26 ?_
        refine z_getN C (pc := 29) 1 rfl rfl wf_X0 1 (by decide) rfl wl_X3_41 (v := .int (i3 3)) rfl dX3_letter_29 ?_
        refine z_goto C (pc := 32) (tgt := 37) dX3_letter_32 (by decide) ?_
        refine z_iret C (pc := 37) (i3, r3) dX3_letter_37 ?_ rfl
        rw [show letterF z x = (nI (z.1 3 + 1), (upG z.1 3 (z.1 3 + 1), z.2.1, upd z.2.2 (z.1 3) x)) from (if_neg (fun h => h.elim (fun h => c_1 h) (fun h => h c_2))).trans (if_neg (by omega)), e1, e2]
        exact ⟨by rw [upd_s, hz.1.2.2.2.1, nI_1], cl_letter hz hF⟩
    · refine z_bipush C (pc := 11) (v := (-102)) dX3_letter_11 (by decide) ?_
      refine z_iret C (pc := 13) (i, r) dX3_letter_13 ?_ rfl
      rw [show letterF z x = (-102, z) from if_pos (Or.inr c_2)]
      exact ⟨rfl, hz⟩


set_option maxHeartbeats 4000000 in
set_option maxRecDepth 100000 in
theorem c_fault (l : Launch) (D : va_G) (cI : ClassId) (tt : Nat × Nat × Nat) (a : Nat → Nat) (i : Nat → Int32) (r : Nat → Nat → Int32) (z : SG) (hz : Cls z i r) (vz : VS z) : MetI (S := ((Nat → Int32) × (Nat → Nat → Int32))) l yX3_fault cX3_fault 1 (some .int) (rm 3 66) D cI tt [.ref (a 0)] (cW cI a i r) (fun q u => q = faultF z ∧ Cls z u.1 u.2) (fun u => cW cI a u.1 u.2) := by
  refine met_ofI (by decide) (Nat.le_of_ble_eq_true rfl) ?_
  intro pP eE sS mM aV bB mE cC AA C hin
  refine z_conv (lv' := [(0, .ref (a 0))]) ⟨rfl, trivial⟩ rfl rfl ?_
  refine z_aload_n C (pc := 0) dX3_fault_0 rfl ?_
  refine z_get C (pc := 1) 0 rfl rfl wf_X3 0 (by decide) rfl wl_X3_10 (v := .ref (a 1)) rfl dX3_fault_1 ?_
  refine z_calliF C (by exact fun _ => cW_ad) (runVN C (wc := (cW cI a i r)) (pc := 4) (rY' := rm 2 42) (nn := 0) (As := []) (rest := []) (c_firstWrong l D cI tt a i r (z.1 3) hz.1.2.2.2.1 vz.2.2.1) (full_hC _) (full_nd _) ⟨rfl, rfl, ⟨Nat.le_of_ble_eq_true rfl, Nat.le_of_ble_eq_true rfl⟩, Nat.le_of_ble_eq_true rfl, Nat.le_of_ble_eq_true rfl⟩ wl_X3_45 wm_X0_firstWrong we_X0_firstWrong wi_X0 wc_X0_firstWrong (by decide +kernel) rfl 1 rfl rfl rfl rfl (Nat.le_of_ble_eq_true rfl) dX3_fault_4) (fun q_1 u_1 h_1 => ?_)
  subst h_1
  refine z_ws (st' := [.int (nI (scv (r 0) (z.1 3) 0 0).1)]) (ws' := (cW cI a i r)) rfl rfl ?_
  refine z_iret C (pc := 7) (i, r) dX3_fault_7 ?_ rfl
  exact ⟨by unfold faultF; rw [scv_congr hz.2.1.1 _ 0 0 (by omega)], hz⟩


set_option maxHeartbeats 4000000 in
set_option maxRecDepth 100000 in
theorem c_member (l : Launch) (D : va_G) (cI : ClassId) (tt : Nat × Nat × Nat) (a : Nat → Nat) (i : Nat → Int32) (r : Nat → Nat → Int32) (m what : Int32) (z : SG) (hz : Cls z i r) (vz : VS z) : MetI (S := ((Nat → Int32) × (Nat → Nat → Int32))) l yX3_member cX3_member 4 (some .int) (rm 1 21) D cI tt [.ref (a 0), .int m, .int what] (cW cI a i r) (fun q u => q = memberF z m what ∧ Cls z u.1 u.2) (fun u => cW cI a u.1 u.2) := by
  have hv := hz.pv vz
  have hc := hz.c vz
  have hh := hz.hv vz
  have hn6 := vz.2.2.2.1
  have hx6 := pow_le6 hn6
  refine met_ofI (by decide) (Nat.le_of_ble_eq_true rfl) ?_
  intro pP eE sS mM aV bB mE cC AA C hin
  refine z_conv (lv' := [(0, .ref (a 0)), (1, .int m), (2, .int what)]) ⟨rfl, rfl, rfl, trivial⟩ rfl rfl ?_
  refine z_iload_n C (pc := 0) dX3_member_0 rfl ?_
  refine z_if_lt C (pc := 1) (tgt := 15) dX3_member_1 (by decide) (fun c_1 => ?_) (fun c_1 => ?_)
  · refine z_bipush C (pc := 15) (v := (-101)) dX3_member_15 (by decide) ?_
    refine z_iret C (pc := 17) (i, r) dX3_member_17 ?_ rfl
    rw [show memberF z m what = -101 from if_pos (by unfold noMember; simp [c_1])]
    exact ⟨rfl, hz⟩
  · refine z_iload_n C (pc := 4) dX3_member_4 rfl ?_
    refine z_aload_n C (pc := 5) dX3_member_5 rfl ?_
    refine z_get C (pc := 6) 0 rfl rfl wf_X3 1 (by decide) rfl wl_X3_19 (v := .ref (a 3)) rfl dX3_member_6 ?_
    refine z_getN C (pc := 9) 3 rfl rfl wf_X1 1 (by decide) rfl wl_X3_53 (v := .int (i 4)) rfl dX3_member_9 ?_
    refine z_icmp_lt C (pc := 12) (tgt := 18) dX3_member_12 (by decide) (fun c_2 => ?_) (fun c_2 => ?_)
    · rw [hz.1.2.2.2.2.1] at c_2
      have hm : noMember z m = false := by unfold noMember; simp [c_1, c_2]
      obtain ⟨k, hk, hmk, htk⟩ := member_of vz hm
      subst hmk
      refine z_aload_n C (pc := 18) dX3_member_18 rfl ?_
      refine z_get C (pc := 19) 0 rfl rfl wf_X3 1 (by decide) rfl wl_X3_19 (v := .ref (a 3)) rfl dX3_member_19 ?_
      refine z_getN C (pc := 22) 3 rfl rfl wf_X1 0 (by decide) rfl wl_X3_56 (v := .ref (a 4)) rfl dX3_member_22 ?_
      refine z_iload_n C (pc := 25) dX3_member_25 rfl ?_
      refine z_calli C (isC := [4]) rfl (by exact fun _ => rfl) (runS C (wc := [(a 4, .inl (cI, 6, .inl (r 1)))]) (pc := 26) (rY' := rm 0 0) (nn := 2) (As := [.ref (a 4), .int (nI k)]) (rest := []) (c_at l D cI tt (a 4) 6 (r 1) (nI k) (by decide)) rfl rfl ⟨rfl, rfl, ⟨Nat.le_of_ble_eq_true rfl, Nat.le_of_ble_eq_true rfl⟩, Nat.le_of_ble_eq_true rfl, Nat.le_of_ble_eq_true rfl⟩ wl_X3_87 ws_X3_at wi_X3 wc_X3_at (by decide +kernel) rfl rfl (Nat.le_of_ble_eq_true rfl) dX3_member_26) (fun r_3 u_3 h_3 => ?_)
      have h_3 : r_3 = (nI (z.2.1 1 k)) := h_3.trans (kind_at hv hk)
      subst h_3
      refine z_ws (st' := [.int (nI (z.2.1 1 k))]) (ws' := (cW cI a i r)) rfl rfl ?_
      refine z_istore_n C (pc := 29) (lv' := [(0, .ref (a 0)), (1, .int (nI k)), (2, .int what), (3, .int (nI (z.2.1 1 k)))]) dX3_member_29 (Nat.le_of_ble_eq_true rfl) rfl rfl ?_
      refine z_iload_n C (pc := 30) dX3_member_30 rfl ?_
      by_cases c_4 : what = 0
      · refine z_tableIn C (pc := 31) (tgt := 64) (off := 33) dX3_member_31 (by rw [c_4]; decide) (by rw [c_4]; decide) (by rw [c_4]; rfl) (by decide) ?_
        refine z_iload_n C (pc := 64) dX3_member_64 rfl ?_
        refine z_iret C (pc := 65) (i, r) dX3_member_65 ?_ rfl
        refine ⟨?_, hz⟩
        rw [show memberF z (nI k) what = tellF z k what from (if_neg (by rw [hm]; decide)).trans (by rw [htk])]
        unfold tellF
        subst c_4
        rfl
      by_cases c_5 : what = 1
      · refine z_tableIn C (pc := 31) (tgt := 66) (off := 35) dX3_member_31 (by rw [c_5]; decide) (by rw [c_5]; decide) (by rw [c_5]; rfl) (by decide) ?_
        refine z_gets C (pc := 66) C.2.2.2.2.2.2.2.1.1.1 wl_X3_91 dX3_member_66 ?_
        refine z_iload_n C (pc := 69) dX3_member_69 rfl ?_
        refine z_calli C (isC := []) rfl (by exact fun _ => rfl) (runS C (wc := []) (pc := 70) (rY' := rm 0 0) (nn := 2) (As := [.ref tt.1, .int (nI (z.2.1 1 k))]) (rest := []) (c_atP l D cI tt (nI (z.2.1 1 k))) rfl rfl ⟨rfl, rfl, ⟨Nat.le_of_ble_eq_true rfl, Nat.le_of_ble_eq_true rfl⟩, Nat.le_of_ble_eq_true rfl, Nat.le_of_ble_eq_true rfl⟩ wl_X3_87 ws_X3_at wi_X3 wc_X3_at (by decide +kernel) rfl rfl (Nat.le_of_ble_eq_true rfl) dX3_member_70) (fun r_6 u_6 h_6 => ?_)
        have h_6 : r_6 = (nI (pls (z.2.1 1 k))) := h_6.trans (tabP (hv.2.2 k hk).2)
        subst h_6
        refine z_ws (st' := [.int (nI (pls (z.2.1 1 k)))]) (ws' := (cW cI a i r)) rfl rfl ?_
        refine z_iret C (pc := 73) (i, r) dX3_member_73 ?_ rfl
        refine ⟨?_, hz⟩
        rw [show memberF z (nI k) what = tellF z k what from (if_neg (by rw [hm]; decide)).trans (by rw [htk])]
        unfold tellF
        subst c_5
        rfl
      by_cases c_7 : what = 2
      · refine z_tableIn C (pc := 31) (tgt := 74) (off := 43) dX3_member_31 (by rw [c_7]; decide) (by rw [c_7]; decide) (by rw [c_7]; rfl) (by decide) ?_
        refine z_gets C (pc := 74) C.2.2.2.2.2.2.2.1.2.1.1 wl_X3_94 dX3_member_74 ?_
        refine z_iload_n C (pc := 77) dX3_member_77 rfl ?_
        refine z_calli C (isC := []) rfl (by exact fun _ => rfl) (runS C (wc := []) (pc := 78) (rY' := rm 0 0) (nn := 2) (As := [.ref tt.2.1, .int (nI (z.2.1 1 k))]) (rest := []) (c_atE l D cI tt (nI (z.2.1 1 k))) rfl rfl ⟨rfl, rfl, ⟨Nat.le_of_ble_eq_true rfl, Nat.le_of_ble_eq_true rfl⟩, Nat.le_of_ble_eq_true rfl, Nat.le_of_ble_eq_true rfl⟩ wl_X3_87 ws_X3_at wi_X3 wc_X3_at (by decide +kernel) rfl rfl (Nat.le_of_ble_eq_true rfl) dX3_member_78) (fun r_8 u_8 h_8 => ?_)
        have h_8 : r_8 = (nI (ets (z.2.1 1 k))) := h_8.trans (tabE (hv.2.2 k hk).2)
        subst h_8
        refine z_ws (st' := [.int (nI (ets (z.2.1 1 k)))]) (ws' := (cW cI a i r)) rfl rfl ?_
        refine z_iret C (pc := 81) (i, r) dX3_member_81 ?_ rfl
        refine ⟨?_, hz⟩
        rw [show memberF z (nI k) what = tellF z k what from (if_neg (by rw [hm]; decide)).trans (by rw [htk])]
        unfold tellF
        subst c_7
        rfl
      by_cases c_9 : what = 3
      · refine z_tableIn C (pc := 31) (tgt := 82) (off := 51) dX3_member_31 (by rw [c_9]; decide) (by rw [c_9]; decide) (by rw [c_9]; rfl) (by decide) ?_
        refine z_gets C (pc := 82) C.2.2.2.2.2.2.2.1.2.2.1 wl_X3_97 dX3_member_82 ?_
        refine z_iload_n C (pc := 85) dX3_member_85 rfl ?_
        refine z_calli C (isC := []) rfl (by exact fun _ => rfl) (runS C (wc := []) (pc := 86) (rY' := rm 0 0) (nn := 2) (As := [.ref tt.2.2, .int (nI (z.2.1 1 k))]) (rest := []) (c_atF l D cI tt (nI (z.2.1 1 k))) rfl rfl ⟨rfl, rfl, ⟨Nat.le_of_ble_eq_true rfl, Nat.le_of_ble_eq_true rfl⟩, Nat.le_of_ble_eq_true rfl, Nat.le_of_ble_eq_true rfl⟩ wl_X3_87 ws_X3_at wi_X3 wc_X3_at (by decide +kernel) rfl rfl (Nat.le_of_ble_eq_true rfl) dX3_member_86) (fun r_10 u_10 h_10 => ?_)
        have h_10 : r_10 = (nI (fds (z.2.1 1 k))) := h_10.trans (tabF (hv.2.2 k hk).2)
        subst h_10
        refine z_ws (st' := [.int (nI (fds (z.2.1 1 k)))]) (ws' := (cW cI a i r)) rfl rfl ?_
        refine z_iret C (pc := 89) (i, r) dX3_member_89 ?_ rfl
        refine ⟨?_, hz⟩
        rw [show memberF z (nI k) what = tellF z k what from (if_neg (by rw [hm]; decide)).trans (by rw [htk])]
        unfold tellF
        subst c_9
        rfl
      by_cases c_11 : what = 4
      · refine z_tableIn C (pc := 31) (tgt := 90) (off := 59) dX3_member_31 (by rw [c_11]; decide) (by rw [c_11]; decide) (by rw [c_11]; rfl) (by decide) ?_
        refine z_aload_n C (pc := 90) dX3_member_90 rfl ?_
        refine z_get C (pc := 91) 0 rfl rfl wf_X3 2 (by decide) rfl wl_X3_26 (v := .ref (a 6)) rfl dX3_member_91 ?_
        refine z_getN C (pc := 94) 6 rfl rfl wf_X2 0 (by decide) rfl wl_X3_100 (v := .int (i 10)) rfl dX3_member_94 ?_
        refine z_iload_n C (pc := 97) dX3_member_97 rfl ?_
        refine z_ishr C (pc := 98) dX3_member_98 ?_
        refine z_iconst C (pc := 99) (v := 1) dX3_member_99 (by decide) ?_
        refine z_iand C (pc := 100) dX3_member_100 ?_
        refine z_iret C (pc := 101) (i, r) dX3_member_101 ?_ rfl
        refine ⟨?_, hz⟩
        rw [show memberF z (nI k) what = tellF z k what from (if_neg (by rw [hm]; decide)).trans (by rw [htk])]
        unfold tellF
        subst c_11
        rw [hz.1.2.2.2.2.2.1]
        exact shr_bt (by omega) (by have := vz.2.2.2.2.1; omega)
      refine z_tableOut C (pc := 31) (tgt := 102) dX3_member_31 (by have q0 := lv_neT c_4 (a := 0) rfl; have q1 := lv_neT c_5 (a := 1) rfl; have q2 := lv_neT c_7 (a := 2) rfl; have q3 := lv_neT c_9 (a := 3) rfl; have q4 := lv_neT c_11 (a := 4) rfl; omega) (by decide) ?_
      refine z_bipush C (pc := 102) (v := (-102)) dX3_member_102 (by decide) ?_
      refine z_iret C (pc := 104) (i, r) dX3_member_104 ?_ rfl
      refine ⟨?_, hz⟩
      rw [show memberF z (nI k) what = tellF z k what from (if_neg (by rw [hm]; decide)).trans (by rw [htk])]
      unfold tellF
      simp [*]
    · refine z_bipush C (pc := 15) (v := (-101)) dX3_member_15 (by decide) ?_
      refine z_iret C (pc := 17) (i, r) dX3_member_17 ?_ rfl
      rw [hz.1.2.2.2.2.1] at c_2
      rw [show memberF z m what = -101 from if_pos (by unfold noMember; simp [c_2])]
      exact ⟨rfl, hz⟩

set_option maxHeartbeats 4000000 in
set_option maxRecDepth 100000 in
theorem c_as (l : Launch) (D : va_G) (cI : ClassId) (tt : Nat × Nat × Nat) (a : Nat → Nat) (i : Nat → Int32) (r : Nat → Nat → Int32) (m kind : Int32) (z : SG) (hz : Cls z i r) (vz : VS z) : MetI (S := ((Nat → Int32) × (Nat → Nat → Int32))) l yX3_as cX3_as 3 (some .int) (rm 1 21) D cI tt [.ref (a 0), .int m, .int kind] (cW cI a i r) (fun q u => q = asF z m kind ∧ Cls z u.1 u.2) (fun u => cW cI a u.1 u.2) := by
  have hv := hz.pv vz
  have hc := hz.c vz
  have hh := hz.hv vz
  have hn6 := vz.2.2.2.1
  have hx6 := pow_le6 hn6
  refine met_ofI (by decide) (Nat.le_of_ble_eq_true rfl) ?_
  intro pP eE sS mM aV bB mE cC AA C hin
  refine z_conv (lv' := [(0, .ref (a 0)), (1, .int m), (2, .int kind)]) ⟨rfl, rfl, rfl, trivial⟩ rfl rfl ?_
  refine z_iload_n C (pc := 0) dX3_as_0 rfl ?_
  refine z_if_lt C (pc := 1) (tgt := 15) dX3_as_1 (by decide) (fun c_1 => ?_) (fun c_1 => ?_)
  · refine z_bipush C (pc := 15) (v := (-101)) dX3_as_15 (by decide) ?_
    refine z_iret C (pc := 17) (i, r) dX3_as_17 ?_ rfl
    rw [show asF z m kind = -101 from if_pos (by unfold noMember; simp [c_1])]
    exact ⟨rfl, hz⟩
  · refine z_iload_n C (pc := 4) dX3_as_4 rfl ?_
    refine z_aload_n C (pc := 5) dX3_as_5 rfl ?_
    refine z_get C (pc := 6) 0 rfl rfl wf_X3 1 (by decide) rfl wl_X3_19 (v := .ref (a 3)) rfl dX3_as_6 ?_
    refine z_getN C (pc := 9) 3 rfl rfl wf_X1 1 (by decide) rfl wl_X3_53 (v := .int (i 4)) rfl dX3_as_9 ?_
    refine z_icmp_lt C (pc := 12) (tgt := 18) dX3_as_12 (by decide) (fun c_2 => ?_) (fun c_2 => ?_)
    · rw [hz.1.2.2.2.2.1] at c_2
      have hm : noMember z m = false := by unfold noMember; simp [c_1, c_2]
      obtain ⟨k, hk, hmk, htk⟩ := member_of vz hm
      subst hmk
      refine z_iload_n C (pc := 18) dX3_as_18 rfl ?_
      refine z_if_lt C (pc := 19) (tgt := 27) dX3_as_19 (by decide) (fun c_3 => ?_) (fun c_3 => ?_)
      · refine z_bipush C (pc := 27) (v := (-102)) dX3_as_27 (by decide) ?_
        refine z_iret C (pc := 29) (i, r) dX3_as_29 ?_ rfl
        rw [show asF z (nI k) kind = -102 from (if_neg (by rw [hm]; decide)).trans (if_pos (Or.inl c_3))]
        exact ⟨rfl, hz⟩
      · refine z_iload_n C (pc := 22) dX3_as_22 rfl ?_
        refine z_iconst C (pc := 23) (v := 5) dX3_as_23 (by decide) ?_
        refine z_icmp_lt C (pc := 24) (tgt := 30) dX3_as_24 (by decide) (fun c_4 => ?_) (fun c_4 => ?_)
        · refine z_aload_n C (pc := 30) dX3_as_30 rfl ?_
          refine z_get C (pc := 31) 0 rfl rfl wf_X3 1 (by decide) rfl wl_X3_19 (v := .ref (a 3)) rfl dX3_as_31 ?_
          refine z_getN C (pc := 34) 3 rfl rfl wf_X1 0 (by decide) rfl wl_X3_56 (v := .ref (a 4)) rfl dX3_as_34 ?_
          refine z_iload_n C (pc := 37) dX3_as_37 rfl ?_
          refine z_calli C (isC := [4]) rfl (by exact fun _ => rfl) (runS C (wc := [(a 4, .inl (cI, 6, .inl (r 1)))]) (pc := 38) (rY' := rm 0 0) (nn := 2) (As := [.ref (a 4), .int (nI k)]) (rest := []) (c_at l D cI tt (a 4) 6 (r 1) (nI k) (by decide)) rfl rfl ⟨rfl, rfl, ⟨Nat.le_of_ble_eq_true rfl, Nat.le_of_ble_eq_true rfl⟩, Nat.le_of_ble_eq_true rfl, Nat.le_of_ble_eq_true rfl⟩ wl_X3_87 ws_X3_at wi_X3 wc_X3_at (by decide +kernel) rfl rfl (Nat.le_of_ble_eq_true rfl) dX3_as_38) (fun r_5 u_5 h_5 => ?_)
          have h_5 : r_5 = (nI (z.2.1 1 k)) := h_5.trans (kind_at hv hk)
          subst h_5
          refine z_ws (st' := [.int (nI (z.2.1 1 k))]) (ws' := (cW cI a i r)) rfl rfl ?_
          refine z_iload_n C (pc := 41) dX3_as_41 rfl ?_
          refine z_calli C (isC := []) rfl (by exact fun _ => rfl) (runS C (wc := []) (pc := 42) (rY' := rm 0 0) (nn := 2) (As := [.int (nI (z.2.1 1 k)), .int kind]) (rest := []) (c_isOf l D cI tt (nI (z.2.1 1 k)) kind) rfl rfl ⟨rfl, rfl, ⟨Nat.le_of_ble_eq_true rfl, Nat.le_of_ble_eq_true rfl⟩, Nat.le_of_ble_eq_true rfl, Nat.le_of_ble_eq_true rfl⟩ wl_X3_103 ws_X3_isOf wi_X3 wc_X3_isOf (by decide +kernel) rfl rfl (Nat.le_of_ble_eq_true rfl) dX3_as_42) (fun r_6 u_6 h_6 => ?_)
          subst h_6
          refine z_ws (st' := [.int (isOfv (nI (z.2.1 1 k)) kind)]) (ws' := (cW cI a i r)) rfl rfl ?_
          refine z_if_eq C (pc := 45) (tgt := 52) dX3_as_45 (by decide) (fun c_7 => ?_) (fun c_7 => ?_)
          · refine z_iconst C (pc := 52) (v := (-1)) dX3_as_52 (by decide) ?_
            refine z_iret C (pc := 53) (i, r) dX3_as_53 ?_ rfl
            rw [show asF z (nI k) kind = -1 from (if_neg (by rw [hm]; decide)).trans ((if_neg (fun h => h.elim (fun h => c_3 h) (fun h => h c_4))).trans (if_pos (by rw [htk]; exact c_7)))]
            exact ⟨rfl, hz⟩
          · refine z_iload_n C (pc := 48) dX3_as_48 rfl ?_
            refine z_goto C (pc := 49) (tgt := 53) dX3_as_49 (by decide) ?_
            refine z_iret C (pc := 53) (i, r) dX3_as_53 ?_ rfl
            rw [show asF z (nI k) kind = nI k from (if_neg (by rw [hm]; decide)).trans ((if_neg (fun h => h.elim (fun h => c_3 h) (fun h => h c_4))).trans (if_neg (by rw [htk]; exact c_7)))]
            exact ⟨rfl, hz⟩
        · refine z_bipush C (pc := 27) (v := (-102)) dX3_as_27 (by decide) ?_
          refine z_iret C (pc := 29) (i, r) dX3_as_29 ?_ rfl
          rw [show asF z (nI k) kind = -102 from (if_neg (by rw [hm]; decide)).trans (if_pos (Or.inr c_4))]
          exact ⟨rfl, hz⟩
    · refine z_bipush C (pc := 15) (v := (-101)) dX3_as_15 (by decide) ?_
      refine z_iret C (pc := 17) (i, r) dX3_as_17 ?_ rfl
      rw [hz.1.2.2.2.2.1] at c_2
      rw [show asF z m kind = -101 from if_pos (by unfold noMember; simp [c_2])]
      exact ⟨rfl, hz⟩

set_option maxHeartbeats 4000000 in
set_option maxRecDepth 100000 in
theorem c_cairn (l : Launch) (D : va_G) (cI : ClassId) (tt : Nat × Nat × Nat) (a : Nat → Nat) (i : Nat → Int32) (r : Nat → Nat → Int32) (x what : Int32) (z : SG) (hz : Cls z i r) (vz : VS z) : MetI (S := ((Nat → Int32) × (Nat → Nat → Int32))) l yX3_cairn cX3_cairn 3 (some .int) (rm 6 144) D cI tt [.ref (a 0), .int x, .int what] (cW cI a i r) (fun q u => q = cairnF z x what ∧ Cls z u.1 u.2) (fun u => cW cI a u.1 u.2) := by
  have hv := hz.pv vz
  have hc := hz.c vz
  have hh := hz.hv vz
  have hn6 := vz.2.2.2.1
  have hx6 := pow_le6 hn6
  refine met_ofI (by decide) (Nat.le_of_ble_eq_true rfl) ?_
  intro pP eE sS mM aV bB mE cC AA C hin
  refine z_conv (lv' := [(0, .ref (a 0)), (1, .int x), (2, .int what)]) ⟨rfl, rfl, rfl, trivial⟩ rfl rfl ?_
  refine z_aload_n C (pc := 0) dX3_cairn_0 rfl ?_
  refine z_iload_n C (pc := 1) dX3_cairn_1 rfl ?_
  refine z_calliF C (by exact fun _ => cW_ad) (runV C (wc := (cW cI a i r)) (pc := 2) (rY' := rm 0 0) (nn := 1) (As := [.int x]) (rest := []) (c_isNoCairn l D cI tt a i r x (z.1 4) hv.1 hn6) (full_hC _) (full_nd _) ⟨rfl, rfl, ⟨Nat.le_of_ble_eq_true rfl, Nat.le_of_ble_eq_true rfl⟩, Nat.le_of_ble_eq_true rfl, Nat.le_of_ble_eq_true rfl⟩ wl_X3_107 wm_X3_isNoCairn we_X3_isNoCairn wi_X3 wc_X3_isNoCairn (by decide +kernel) rfl 0 rfl rfl rfl rfl (Nat.le_of_ble_eq_true rfl) dX3_cairn_2) (fun q_1 u_1 h_1 => ?_)
  refine z_ws (st' := [.int q_1]) (ws' := (cW cI a i r)) rfl rfl ?_
  refine z_if_eq C (pc := 5) (tgt := 11) dX3_cairn_5 (by decide) (fun c_2 => ?_) (fun c_2 => ?_)
  · have hb := b2_f (h_1 ▸ c_2)
    obtain ⟨hn0, q, hq1, hq6, hxq, htq⟩ := cairn_of hb
    subst hxq
    refine z_iload_n C (pc := 11) dX3_cairn_11 rfl ?_
    by_cases c_3 : what = 0
    · refine z_tableIn C (pc := 12) (tgt := 40) (off := 28) dX3_cairn_12 (by rw [c_3]; decide) (by rw [c_3]; decide) (by rw [c_3]; rfl) (by decide) ?_
      refine z_aload_n C (pc := 40) dX3_cairn_40 rfl ?_
      refine z_get C (pc := 41) 0 rfl rfl wf_X3 2 (by decide) rfl wl_X3_26 (v := .ref (a 6)) rfl dX3_cairn_41 ?_
      refine z_getN C (pc := 44) 6 rfl rfl wf_X2 1 (by decide) rfl wl_X3_77 (v := .ref (a 7)) rfl dX3_cairn_44 ?_
      refine z_iload_n C (pc := 47) dX3_cairn_47 rfl ?_
      refine z_iconst C (pc := 48) (v := 1) dX3_cairn_48 (by decide) ?_
      refine z_isub C (pc := 49) dX3_cairn_49 ?_
      refine z_calli C (isC := [7]) rfl (by exact fun _ => rfl) (runS C (wc := [(a 7, .inl (cI, 5, .inl (r 3)))]) (pc := 50) (rY' := rm 0 0) (nn := 2) (As := [.ref (a 7), .int ((nI q) - 1)]) (rest := []) (c_at l D cI tt (a 7) 5 (r 3) ((nI q) - 1) (by decide)) rfl rfl ⟨rfl, rfl, ⟨Nat.le_of_ble_eq_true rfl, Nat.le_of_ble_eq_true rfl⟩, Nat.le_of_ble_eq_true rfl, Nat.le_of_ble_eq_true rfl⟩ wl_X3_87 ws_X3_at wi_X3 wc_X3_at (by decide +kernel) rfl rfl (Nat.le_of_ble_eq_true rfl) dX3_cairn_50) (fun r_4 u_4 h_4 => ?_)
      have h_4 : r_4 = (nI (z.2.1 2 (q - 1))) := h_4.trans ((at_c hq6 hc).trans (by unfold cav; rw [if_neg (by omega)]))
      subst h_4
      refine z_ws (st' := [.int (nI (z.2.1 2 (q - 1)))]) (ws' := (cW cI a i r)) rfl rfl ?_
      refine z_iret C (pc := 53) (i, r) dX3_cairn_53 ?_ rfl
      rw [show cairnF z (nI q) what = (if what = 0 then nI (z.2.1 2 (q - 1)) else if what = 1 then nI (layS z q) else if what = 2 then tryS z q else -102) from (if_neg (by rw [hb]; decide)).trans (by rw [htq])]
      subst c_3
      exact ⟨rfl, hz⟩
    by_cases c_5 : what = 1
    · refine z_tableIn C (pc := 12) (tgt := 54) (off := 42) dX3_cairn_12 (by rw [c_5]; decide) (by rw [c_5]; decide) (by rw [c_5]; rfl) (by decide) ?_
      refine z_aload_n C (pc := 54) dX3_cairn_54 rfl ?_
      refine z_iload_n C (pc := 55) dX3_cairn_55 rfl ?_
      refine z_calliF C (by exact fun _ => cW_ad) (runV C (wc := (cW cI a i r)) (pc := 56) (rY' := rm 5 117) (nn := 1) (As := [.int (nI q)]) (rest := []) (c_amountsAt l D cI tt a i r (z.2.1 1) (z.1 4) hv (z.2.1 2) hc (z.1 8) (z.2.1 3) (z.2.1 4) (z.2.1 5) (z.2.1 6) hh q hq1 hq6) (full_hC _) (full_nd _) ⟨rfl, rfl, ⟨Nat.le_of_ble_eq_true rfl, Nat.le_of_ble_eq_true rfl⟩, Nat.le_of_ble_eq_true rfl, Nat.le_of_ble_eq_true rfl⟩ wl_X3_110 wm_X3_amountsAt we_X3_amountsAt wi_X3 wc_X3_amountsAt (by decide +kernel) rfl 0 rfl rfl rfl rfl (Nat.le_of_ble_eq_true rfl) dX3_cairn_56) (fun q_6 u_6 h_6 => ?_)
      obtain ⟨i6, r6⟩ := u_6
      try dsimp only at h_6
      obtain ⟨k0, k1, k2⟩ := h_6
      subst k0
      refine z_ws (st' := [.int (nI (layS z q))]) (ws' := (cW cI a i6 r6)) rfl rfl ?_
      refine z_iret C (pc := 59) (i6, r6) dX3_cairn_59 ?_ rfl
      rw [show cairnF z (nI q) what = (if what = 0 then nI (z.2.1 2 (q - 1)) else if what = 1 then nI (layS z q) else if what = 2 then tryS z q else -102) from (if_neg (by rw [hb]; decide)).trans (by rw [htq])]
      subst c_5
      exact ⟨rfl, hz.sp k1 k2⟩
    by_cases c_7 : what = 2
    · refine z_tableIn C (pc := 12) (tgt := 60) (off := 48) dX3_cairn_12 (by rw [c_7]; decide) (by rw [c_7]; decide) (by rw [c_7]; rfl) (by decide) ?_
      refine z_aload_n C (pc := 60) dX3_cairn_60 rfl ?_
      refine z_iload_n C (pc := 61) dX3_cairn_61 rfl ?_
      refine z_aload_n C (pc := 62) dX3_cairn_62 rfl ?_
      refine z_iload_n C (pc := 63) dX3_cairn_63 rfl ?_
      refine z_calliF C (by exact fun _ => cW_ad) (runV C (wc := (cW cI a i r)) (pc := 64) (rY' := rm 5 117) (nn := 1) (As := [.int (nI q)]) (rest := [.int (nI q), .ref (a 0)]) (c_amountsAt l D cI tt a i r (z.2.1 1) (z.1 4) hv (z.2.1 2) hc (z.1 8) (z.2.1 3) (z.2.1 4) (z.2.1 5) (z.2.1 6) hh q hq1 hq6) (full_hC _) (full_nd _) ⟨rfl, rfl, ⟨Nat.le_of_ble_eq_true rfl, Nat.le_of_ble_eq_true rfl⟩, Nat.le_of_ble_eq_true rfl, Nat.le_of_ble_eq_true rfl⟩ wl_X3_110 wm_X3_amountsAt we_X3_amountsAt wi_X3 wc_X3_amountsAt (by decide +kernel) rfl 0 rfl rfl rfl rfl (Nat.le_of_ble_eq_true rfl) dX3_cairn_64) (fun q_8 u_8 h_8 => ?_)
      obtain ⟨i8, r8⟩ := u_8
      try dsimp only at h_8
      obtain ⟨k0, k1, k2⟩ := h_8
      subst k0
      refine z_ws (st' := [.int (nI (layS z q)), .int (nI q), .ref (a 0)]) (ws' := (cW cI a i8 r8)) rfl rfl ?_
      refine z_calliF C (by exact fun _ => cW_ad) (runV C (wc := (cW cI a i8 r8)) (pc := 67) (rY' := rm 5 117) (nn := 2) (As := [.int (nI q), .int (nI (layS z q))]) (rest := []) (c_bestTrial l D cI tt a i8 r8 (z.2.1 1) (z.1 4) ((hz.sp k1 k2).pv vz) (z.2.1 2) ((hz.sp k1 k2).c vz) q (layS z q) hq1 hq6 lay_lt) (full_hC _) (full_nd _) ⟨rfl, rfl, ⟨Nat.le_of_ble_eq_true rfl, Nat.le_of_ble_eq_true rfl⟩, Nat.le_of_ble_eq_true rfl, Nat.le_of_ble_eq_true rfl⟩ wl_X3_113 wm_X3_bestTrial we_X3_bestTrial wi_X3 wc_X3_bestTrial (by decide +kernel) rfl 0 rfl rfl rfl rfl (Nat.le_of_ble_eq_true rfl) dX3_cairn_67) (fun q_9 u_9 h_9 => ?_)
      obtain ⟨i9, r9⟩ := u_9
      try dsimp only at h_9
      obtain ⟨j0, j1, j2⟩ := h_9
      subst j0
      refine z_ws (st' := [.int (tryS z q)]) (ws' := (cW cI a i9 r9)) rfl rfl ?_
      refine z_iret C (pc := 70) (i9, r9) dX3_cairn_70 ?_ rfl
      rw [show cairnF z (nI q) what = (if what = 0 then nI (z.2.1 2 (q - 1)) else if what = 1 then nI (layS z q) else if what = 2 then tryS z q else -102) from (if_neg (by rw [hb]; decide)).trans (by rw [htq])]
      subst c_7
      exact ⟨rfl, (hz.sp k1 k2).sp j1 j2⟩
    refine z_tableOut C (pc := 12) (tgt := 71) dX3_cairn_12 (by have q0 := lv_neT c_3 (a := 0) rfl; have q1 := lv_neT c_5 (a := 1) rfl; have q2 := lv_neT c_7 (a := 2) rfl; omega) (by decide) ?_
    refine z_bipush C (pc := 71) (v := (-102)) dX3_cairn_71 (by decide) ?_
    refine z_iret C (pc := 73) (i, r) dX3_cairn_73 ?_ rfl
    rw [show cairnF z (nI q) what = (if what = 0 then nI (z.2.1 2 (q - 1)) else if what = 1 then nI (layS z q) else if what = 2 then tryS z q else -102) from (if_neg (by rw [hb]; decide)).trans (by rw [htq])]
    exact ⟨by simp [*], hz⟩
  · have hb := b2_t (h_1 ▸ c_2)
    refine z_bipush C (pc := 8) (v := (-101)) dX3_cairn_8 (by decide) ?_
    refine z_iret C (pc := 10) (i, r) dX3_cairn_10 ?_ rfl
    rw [show cairnF z x what = -101 from if_pos hb]
    exact ⟨rfl, hz⟩

set_option maxHeartbeats 4000000 in
set_option maxRecDepth 100000 in
theorem c_lay (l : Launch) (D : va_G) (cI : ClassId) (tt : Nat × Nat × Nat) (a : Nat → Nat) (i : Nat → Int32) (r : Nat → Nat → Int32) (x f : Int32) (z : SG) (hz : Cls z i r) (vz : VS z) : MetI (S := ((Nat → Int32) × (Nat → Nat → Int32))) l yX3_lay cX3_lay 4 (some .int) (rm 1 22) D cI tt [.ref (a 0), .int x, .int f] (cW cI a i r) (fun q u => q = (layF z x f).1 ∧ Cls (layF z x f).2 u.1 u.2) (fun u => cW cI a u.1 u.2) := by
  have hv := hz.pv vz
  have hc := hz.c vz
  have hh := hz.hv vz
  have hn6 := vz.2.2.2.1
  have hx6 := pow_le6 hn6
  refine met_ofI (by decide) (Nat.le_of_ble_eq_true rfl) ?_
  intro pP eE sS mM aV bB mE cC AA C hin
  refine z_conv (lv' := [(0, .ref (a 0)), (1, .int x), (2, .int f)]) ⟨rfl, rfl, rfl, trivial⟩ rfl rfl ?_
  refine z_aload_n C (pc := 0) dX3_lay_0 rfl ?_
  refine z_iload_n C (pc := 1) dX3_lay_1 rfl ?_
  refine z_calliF C (by exact fun _ => cW_ad) (runV C (wc := (cW cI a i r)) (pc := 2) (rY' := rm 0 0) (nn := 1) (As := [.int x]) (rest := []) (c_isNoCairn l D cI tt a i r x (z.1 4) hv.1 hn6) (full_hC _) (full_nd _) ⟨rfl, rfl, ⟨Nat.le_of_ble_eq_true rfl, Nat.le_of_ble_eq_true rfl⟩, Nat.le_of_ble_eq_true rfl, Nat.le_of_ble_eq_true rfl⟩ wl_X3_107 wm_X3_isNoCairn we_X3_isNoCairn wi_X3 wc_X3_isNoCairn (by decide +kernel) rfl 0 rfl rfl rfl rfl (Nat.le_of_ble_eq_true rfl) dX3_lay_2) (fun q_1 u_1 h_1 => ?_)
  refine z_ws (st' := [.int q_1]) (ws' := (cW cI a i r)) rfl rfl ?_
  refine z_if_eq C (pc := 5) (tgt := 11) dX3_lay_5 (by decide) (fun c_2 => ?_) (fun c_2 => ?_)
  · have hb := b2_f (h_1 ▸ c_2)
    obtain ⟨hn0, q, hq1, hq6, hxq, htq⟩ := cairn_of hb
    subst hxq
    refine z_iload_n C (pc := 11) dX3_lay_11 rfl ?_
    refine z_if_lt C (pc := 12) (tgt := 21) dX3_lay_12 (by decide) (fun c_3 => ?_) (fun c_3 => ?_)
    · refine z_bipush C (pc := 21) (v := (-102)) dX3_lay_21 (by decide) ?_
      refine z_iret C (pc := 23) (i, r) dX3_lay_23 ?_ rfl
      rw [show layF z (nI q) f = (-102, z) from (if_neg (by rw [hb]; decide)).trans (if_pos (Or.inl c_3))]
      exact ⟨rfl, hz⟩
    · refine z_iload_n C (pc := 15) dX3_lay_15 rfl ?_
      refine z_bipush C (pc := 16) (v := 9) dX3_lay_16 (by decide) ?_
      refine z_icmp_le C (pc := 18) (tgt := 24) dX3_lay_18 (by decide) (fun c_4 => ?_) (fun c_4 => ?_)
      · obtain ⟨fk, hfk, hff, htf⟩ := tn_of (M := 9) (by decide) c_3 c_4
        subst hff
        refine z_aload_n C (pc := 24) dX3_lay_24 rfl ?_
        refine z_get C (pc := 25) 0 rfl rfl wf_X3 2 (by decide) rfl wl_X3_26 (v := .ref (a 6)) rfl dX3_lay_25 ?_
        refine z_getN C (pc := 28) 6 rfl rfl wf_X2 1 (by decide) rfl wl_X3_77 (v := .ref (a 7)) rfl dX3_lay_28 ?_
        refine z_iload_n C (pc := 31) dX3_lay_31 rfl ?_
        refine z_iconst C (pc := 32) (v := 1) dX3_lay_32 (by decide) ?_
        refine z_isub C (pc := 33) dX3_lay_33 ?_
        refine z_calli C (isC := [7]) rfl (by exact fun _ => rfl) (runS C (wc := [(a 7, .inl (cI, 5, .inl (r 3)))]) (pc := 34) (rY' := rm 0 0) (nn := 2) (As := [.ref (a 7), .int ((nI q) - 1)]) (rest := []) (c_at l D cI tt (a 7) 5 (r 3) ((nI q) - 1) (by decide)) rfl rfl ⟨rfl, rfl, ⟨Nat.le_of_ble_eq_true rfl, Nat.le_of_ble_eq_true rfl⟩, Nat.le_of_ble_eq_true rfl, Nat.le_of_ble_eq_true rfl⟩ wl_X3_87 ws_X3_at wi_X3 wc_X3_at (by decide +kernel) rfl rfl (Nat.le_of_ble_eq_true rfl) dX3_lay_34) (fun r_5 u_5 h_5 => ?_)
        have h_5 : r_5 = (nI (z.2.1 2 (q - 1))) := h_5.trans ((at_c hq6 hc).trans (by unfold cav; rw [if_neg (by omega)]))
        subst h_5
        refine z_ws (st' := [.int (nI (z.2.1 2 (q - 1)))]) (ws' := (cW cI a i r)) rfl rfl ?_
        refine z_istore_n C (pc := 37) (lv' := [(0, .ref (a 0)), (1, .int (nI q)), (2, .int (nI fk)), (3, .int (nI (z.2.1 2 (q - 1))))]) dX3_lay_37 (Nat.le_of_ble_eq_true rfl) rfl rfl ?_
        refine z_aload_n C (pc := 38) dX3_lay_38 rfl ?_
        refine z_get C (pc := 39) 0 rfl rfl wf_X3 2 (by decide) rfl wl_X3_26 (v := .ref (a 6)) rfl dX3_lay_39 ?_
        refine z_getN C (pc := 42) 6 rfl rfl wf_X2 1 (by decide) rfl wl_X3_77 (v := .ref (a 7)) rfl dX3_lay_42 ?_
        refine z_iload_n C (pc := 45) dX3_lay_45 rfl ?_
        refine z_iconst C (pc := 46) (v := 1) dX3_lay_46 (by decide) ?_
        refine z_isub C (pc := 47) dX3_lay_47 ?_
        refine z_iload_n C (pc := 48) dX3_lay_48 rfl ?_
        refine z_callv C (isC := [7]) rfl (by exact fun _ => rfl) (runS C (wc := [(a 7, .inl (cI, 5, .inl (r 3)))]) (pc := 49) (rY' := rm 0 0) (nn := 3) (As := [.ref (a 7), .int ((nI q) - 1), .int (nI fk)]) (rest := []) (c_put l D cI tt (a 7) 5 (r 3) ((nI q) - 1) (nI fk) (by decide)) rfl rfl ⟨rfl, rfl, ⟨Nat.le_of_ble_eq_true rfl, Nat.le_of_ble_eq_true rfl⟩, Nat.le_of_ble_eq_true rfl, Nat.le_of_ble_eq_true rfl⟩ wl_X3_66 ws_X3_put wi_X3 wc_X3_put (by decide +kernel) rfl rfl (Nat.le_of_ble_eq_true rfl) dX3_lay_49) (fun u_6 h_6 => ?_)
        subst h_6
        refine z_ws (st' := []) (ws' := (cW cI a i (va_up r 3 (putv 5 (r 3) ((nI q) - 1) (nI fk))))) rfl rfl ?_
        refine z_iload_n C (pc := 52) dX3_lay_52 rfl ?_
        refine z_iret C (pc := 53) (i, (va_up r 3 (putv 5 (r 3) ((nI q) - 1) (nI fk)))) dX3_lay_53 ?_ rfl
        rw [show layF z (nI q) (nI fk) = (nI (z.2.1 2 (q - 1)), (z.1, va_up z.2.1 2 (upN (z.2.1 2) (q - 1) fk), z.2.2)) from (if_neg (by rw [hb]; decide)).trans ((if_neg (fun h => h.elim (fun h => c_3 h) (fun h => h c_4))).trans (by rw [htq, htf]))]
        exact ⟨rfl, cl_lay hz hq1 hq6⟩
      · refine z_bipush C (pc := 21) (v := (-102)) dX3_lay_21 (by decide) ?_
        refine z_iret C (pc := 23) (i, r) dX3_lay_23 ?_ rfl
        rw [show layF z (nI q) f = (-102, z) from (if_neg (by rw [hb]; decide)).trans (if_pos (Or.inr c_4))]
        exact ⟨rfl, hz⟩
  · have hb := b2_t (h_1 ▸ c_2)
    refine z_bipush C (pc := 8) (v := (-101)) dX3_lay_8 (by decide) ?_
    refine z_iret C (pc := 10) (i, r) dX3_lay_10 ?_ rfl
    rw [show layF z x f = (-101, z) from if_pos hb]
    exact ⟨rfl, hz⟩
