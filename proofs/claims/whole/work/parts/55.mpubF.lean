set_option maxHeartbeats 4000000 in
set_option maxRecDepth 100000 in
theorem m_image (l : Launch) (D : va_G) (cI : ClassId) (tt : Nat × Nat × Nat) (b : Nat → Nat) (i : Nat → Int32) (r : Nat → Nat → Int32) (h : Int64) (z : SG) (hz : Mdl z i r) (vz : VS z) : MetI (S := ((Nat → Int32) × (Nat → Nat → Int32))) l yX4_image cX4_image 1 (some .int) (rm 1 22) D cI tt [.ref (b 0)] (mW cI b i r h) (fun q u => q = (imageF z).1 ∧ Mdl (imageF z).2 u.1 u.2) (fun u => mW cI b u.1 u.2 h) := by
  have hv := hz.pv vz
  have hc := hz.c vz
  have hh := hz.hv vz
  have hn6 := vz.2.2.2.1
  have hx6 := pow_le6 hn6
  have v3 := vz.2.2.1
  have v5 := vz.2.2.2.2.1
  have v8 := vz.2.2.2.2.2.1
  refine met_ofI (by decide) (Nat.le_of_ble_eq_true rfl) ?_
  intro pP eE sS mM aV bB mE cC AA C hin
  refine z_conv (lv' := [(0, .ref (b 0))]) ⟨rfl, trivial⟩ rfl rfl ?_
  refine z_aload_n C (pc := 0) dX4_image_0 rfl ?_
  refine z_calliF C (by exact fun _ => mW_ad) (runV C (wc := (mW cI b i r h)) (pc := 1) (rY' := rm 0 0) (nn := 0) (As := []) (rest := []) (m_lacks l D cI tt b i r h (z.1 4) hz.i3 hn6) (full_hC _) (full_nd _) ⟨rfl, rfl, ⟨Nat.le_of_ble_eq_true rfl, Nat.le_of_ble_eq_true rfl⟩, Nat.le_of_ble_eq_true rfl, Nat.le_of_ble_eq_true rfl⟩ wl_X4_87 wm_X4_lacks we_X4_lacks wi_X4 wc_X4_lacks (by decide +kernel) rfl 0 rfl rfl rfl rfl (Nat.le_of_ble_eq_true rfl) dX4_image_1) (fun q_1 u_1 h_1 => ?_)
  subst h_1
  refine z_ws (st' := [.int (b2 (decide (z.1 4 = 0)))]) (ws' := (mW cI b i r h)) rfl rfl ?_
  refine z_if_eq C (pc := 4) (tgt := 10) dX4_image_4 (by decide) (fun c_2 => ?_) (fun c_2 => ?_)
  · have hn0 : z.1 4 ≠ 0 := of_decide_eq_false (b2_f c_2)
    refine z_aload_n C (pc := 10) dX4_image_10 rfl ?_
    refine z_get C (pc := 11) 0 rfl rfl wf_X4 9 (by decide) rfl wl_X4_16 (v := .ref (b 3)) rfl dX4_image_11 ?_
    refine z_aload_n C (pc := 14) dX4_image_14 rfl ?_
    refine z_get C (pc := 15) 0 rfl rfl wf_X4 25 (by decide) rfl wl_X4_31 (v := .ref (b 8)) rfl dX4_image_15 ?_
    refine z_callv C (isC := [3, 8]) rfl (by exact fun _ => rfl) (runS C (wc := [(b 3, .inl (cI, 7, .inl (r 2))), (b 8, .inl (cI, 7, .inl (r 7)))]) (pc := 18) (rY' := rm 0 0) (nn := 2) (As := [.ref (b 3), .ref (b 8)]) (rest := []) (m_copy l D cI tt (b 3) 7 (b 8) 7 (r 2) (r 7) (by decide) (by decide)) rfl rfl ⟨rfl, rfl, ⟨Nat.le_of_ble_eq_true rfl, Nat.le_of_ble_eq_true rfl⟩, Nat.le_of_ble_eq_true rfl, Nat.le_of_ble_eq_true rfl⟩ wl_X4_148 ws_X4_copy wi_X4 wc_X4_copy (by decide +kernel) rfl rfl (Nat.le_of_ble_eq_true rfl) dX4_image_18) (fun u_3 h_3 => ?_)
    subst h_3
    refine z_ws (st' := []) (ws' := (mW cI b i (va_up r 7 (cqv (r 2) (r 7) 7)) h)) rfl rfl ?_
    refine z_aload_n C (pc := 21) dX4_image_21 rfl ?_
    refine z_get C (pc := 22) 0 rfl rfl wf_X4 16 (by decide) rfl wl_X4_22 (v := .ref (b 5)) rfl dX4_image_22 ?_
    refine z_aload_n C (pc := 25) dX4_image_25 rfl ?_
    refine z_get C (pc := 26) 0 rfl rfl wf_X4 26 (by decide) rfl wl_X4_34 (v := .ref (b 9)) rfl dX4_image_26 ?_
    refine z_callv C (isC := [5, 9]) rfl (by exact fun _ => rfl) (runS C (wc := [(b 5, .inl (cI, 24, .inl (r 4))), (b 9, .inl (cI, 24, .inl (r 8)))]) (pc := 29) (rY' := rm 0 0) (nn := 2) (As := [.ref (b 5), .ref (b 9)]) (rest := []) (m_copy l D cI tt (b 5) 24 (b 9) 24 (r 4) (r 8) (by decide) (by decide)) rfl rfl ⟨rfl, rfl, ⟨Nat.le_of_ble_eq_true rfl, Nat.le_of_ble_eq_true rfl⟩, Nat.le_of_ble_eq_true rfl, Nat.le_of_ble_eq_true rfl⟩ wl_X4_148 ws_X4_copy wi_X4 wc_X4_copy (by decide +kernel) rfl rfl (Nat.le_of_ble_eq_true rfl) dX4_image_29) (fun u_4 h_4 => ?_)
    subst h_4
    refine z_ws (st' := []) (ws' := (mW cI b i (va_up (va_up r 7 (cqv (r 2) (r 7) 7)) 8 (cqv (r 4) (r 8) 24)) h)) rfl rfl ?_
    refine z_aload_n C (pc := 32) dX4_image_32 rfl ?_
    refine z_aload_n C (pc := 33) dX4_image_33 rfl ?_
    refine z_get C (pc := 34) 0 rfl rfl wf_X4 4 (by decide) rfl wl_X4_72 (v := .int (i 4)) rfl dX4_image_34 ?_
    refine z_put C (pc := 37) 0 rfl rfl wf_X4 21 (by decide) rfl tyX4 tyX4_ok nmX4 rfl rfl rfl (Nat.le_of_ble_eq_true rfl) (ws' := (mW cI b (upd i 21 (i 4)) (va_up (va_up r 7 (cqv (r 2) (r 7) 7)) 8 (cqv (r 4) (r 8) 24)) h)) rfl wl_X4_222 dX4_image_37 ?_
    refine z_aload_n C (pc := 40) dX4_image_40 rfl ?_
    refine z_aload_n C (pc := 41) dX4_image_41 rfl ?_
    refine z_get C (pc := 42) 0 rfl rfl wf_X4 5 (by decide) rfl wl_X4_75 (v := .int (i 5)) rfl dX4_image_42 ?_
    refine z_put C (pc := 45) 0 rfl rfl wf_X4 22 (by decide) rfl tyX4 tyX4_ok nmX4 rfl rfl rfl (Nat.le_of_ble_eq_true rfl) (ws' := (mW cI b (upd (upd i 21 (i 4)) 22 (i 5)) (va_up (va_up r 7 (cqv (r 2) (r 7) 7)) 8 (cqv (r 4) (r 8) 24)) h)) rfl wl_X4_225 dX4_image_45 ?_
    refine z_aload_n C (pc := 48) dX4_image_48 rfl ?_
    refine z_aload_n C (pc := 49) dX4_image_49 rfl ?_
    refine z_get C (pc := 50) 0 rfl rfl wf_X4 6 (by decide) rfl wl_X4_78 (v := .int (i 6)) rfl dX4_image_50 ?_
    refine z_put C (pc := 53) 0 rfl rfl wf_X4 23 (by decide) rfl tyX4 tyX4_ok nmX4 rfl rfl rfl (Nat.le_of_ble_eq_true rfl) (ws' := (mW cI b (upd (upd (upd i 21 (i 4)) 22 (i 5)) 23 (i 6)) (va_up (va_up r 7 (cqv (r 2) (r 7) 7)) 8 (cqv (r 4) (r 8) 24)) h)) rfl wl_X4_228 dX4_image_53 ?_
    refine z_aload_n C (pc := 56) dX4_image_56 rfl ?_
    refine z_aload_n C (pc := 57) dX4_image_57 rfl ?_
    refine z_get C (pc := 58) 0 rfl rfl wf_X4 15 (by decide) rfl wl_X4_81 (v := .int (i 15)) rfl dX4_image_58 ?_
    refine z_put C (pc := 61) 0 rfl rfl wf_X4 24 (by decide) rfl tyX4 tyX4_ok nmX4 rfl rfl rfl (Nat.le_of_ble_eq_true rfl) (ws' := (mW cI b (upd (upd (upd (upd i 21 (i 4)) 22 (i 5)) 23 (i 6)) 24 (i 15)) (va_up (va_up r 7 (cqv (r 2) (r 7) 7)) 8 (cqv (r 4) (r 8) 24)) h)) rfl wl_X4_231 dX4_image_61 ?_
    refine z_aload_n C (pc := 64) dX4_image_64 rfl ?_
    refine z_aload_n C (pc := 65) dX4_image_65 rfl ?_
    refine z_get C (pc := 66) 0 rfl rfl wf_X4 7 (by decide) rfl wl_X4_84 (v := .int (i 7)) rfl dX4_image_66 ?_
    refine z_put C (pc := 69) 0 rfl rfl wf_X4 20 (by decide) rfl tyX4 tyX4_ok nmX4 rfl rfl rfl (Nat.le_of_ble_eq_true rfl) (ws' := (mW cI b (upd (upd (upd (upd (upd i 21 (i 4)) 22 (i 5)) 23 (i 6)) 24 (i 15)) 20 (i 7)) (va_up (va_up r 7 (cqv (r 2) (r 7) 7)) 8 (cqv (r 4) (r 8) 24)) h)) rfl wl_X4_37 dX4_image_69 ?_
    refine z_aload_n C (pc := 72) dX4_image_72 rfl ?_
    refine z_get C (pc := 73) 0 rfl rfl wf_X4 5 (by decide) rfl wl_X4_75 (v := .int (i 5)) rfl dX4_image_73 ?_
    refine z_iret C (pc := 76) ((upd (upd (upd (upd (upd i 21 (i 4)) 22 (i 5)) 23 (i 6)) 24 (i 15)) 20 (i 7)), (va_up (va_up r 7 (cqv (r 2) (r 7) 7)) 8 (cqv (r 4) (r 8) 24))) dX4_image_76 ?_ rfl
    rw [show imageF z = (nI (z.1 6), (imageG z, imageW z, z.2.2)) from if_neg hn0]
    exact ⟨hz.i5, ml_image vz hz (fun k hk => cqv_k0 hk) (fun k hk => cqv_k0 hk)⟩
  · have hn0 : z.1 4 = 0 := of_decide_eq_true (b2_t c_2)
    refine z_bipush C (pc := 7) (v := (-103)) dX4_image_7 (by decide) ?_
    refine z_iret C (pc := 9) (i, r) dX4_image_9 ?_ rfl
    rw [show imageF z = (-103, z) from if_pos hn0]
    exact ⟨rfl, hz⟩

set_option maxHeartbeats 4000000 in
set_option maxRecDepth 100000 in
theorem m_restore (l : Launch) (D : va_G) (cI : ClassId) (tt : Nat × Nat × Nat) (b : Nat → Nat) (i : Nat → Int32) (r : Nat → Nat → Int32) (h : Int64) (z : SG) (hz : Mdl z i r) (vz : VS z) (hb30 : z.1 1 < 2 ^ 30) : MetI (S := ((Nat → Int32) × (Nat → Nat → Int32))) l yX4_restore cX4_restore 1 (some .int) (rm 1 22) D cI tt [.ref (b 0)] (mW cI b i r h) (fun q u => q = (restoreF z).1 ∧ Mdl (restoreF z).2 u.1 u.2) (fun u => mW cI b u.1 u.2 h) := by
  have hv := hz.pv vz
  have hc := hz.c vz
  have hh := hz.hv vz
  have hn6 := vz.2.2.2.1
  have hx6 := pow_le6 hn6
  have v3 := vz.2.2.1
  have v5 := vz.2.2.2.2.1
  have v8 := vz.2.2.2.2.2.1
  refine met_ofI (by decide) (Nat.le_of_ble_eq_true rfl) ?_
  intro pP eE sS mM aV bB mE cC AA C hin
  refine z_conv (lv' := [(0, .ref (b 0))]) ⟨rfl, trivial⟩ rfl rfl ?_
  refine z_aload_n C (pc := 0) dX4_restore_0 rfl ?_
  refine z_get C (pc := 1) 0 rfl rfl wf_X4 20 (by decide) rfl wl_X4_37 (v := .int (i 20)) rfl dX4_restore_1 ?_
  refine z_aload_n C (pc := 4) dX4_restore_4 rfl ?_
  refine z_get C (pc := 5) 0 rfl rfl wf_X4 7 (by decide) rfl wl_X4_84 (v := .int (i 7)) rfl dX4_restore_5 ?_
  refine z_icmp_eq C (pc := 8) (tgt := 14) dX4_restore_8 (by decide) (fun c_1 => ?_) (fun c_1 => ?_)
  · rw [hz.i20, hz.i7] at c_1
    have hi := (kept_eq vz hb30).mp c_1
    refine z_aload_n C (pc := 14) dX4_restore_14 rfl ?_
    refine z_get C (pc := 15) 0 rfl rfl wf_X4 25 (by decide) rfl wl_X4_31 (v := .ref (b 8)) rfl dX4_restore_15 ?_
    refine z_aload_n C (pc := 18) dX4_restore_18 rfl ?_
    refine z_get C (pc := 19) 0 rfl rfl wf_X4 9 (by decide) rfl wl_X4_16 (v := .ref (b 3)) rfl dX4_restore_19 ?_
    refine z_callv C (isC := [8, 3]) rfl (by exact fun _ => rfl) (runS C (wc := [(b 8, .inl (cI, 7, .inl (r 7))), (b 3, .inl (cI, 7, .inl (r 2)))]) (pc := 22) (rY' := rm 0 0) (nn := 2) (As := [.ref (b 8), .ref (b 3)]) (rest := []) (m_copy l D cI tt (b 8) 7 (b 3) 7 (r 7) (r 2) (by decide) (by decide)) rfl rfl ⟨rfl, rfl, ⟨Nat.le_of_ble_eq_true rfl, Nat.le_of_ble_eq_true rfl⟩, Nat.le_of_ble_eq_true rfl, Nat.le_of_ble_eq_true rfl⟩ wl_X4_148 ws_X4_copy wi_X4 wc_X4_copy (by decide +kernel) rfl rfl (Nat.le_of_ble_eq_true rfl) dX4_restore_22) (fun u_2 h_2 => ?_)
    subst h_2
    refine z_ws (st' := []) (ws' := (mW cI b i (va_up r 2 (cqv (r 7) (r 2) 7)) h)) rfl rfl ?_
    refine z_aload_n C (pc := 25) dX4_restore_25 rfl ?_
    refine z_get C (pc := 26) 0 rfl rfl wf_X4 26 (by decide) rfl wl_X4_34 (v := .ref (b 9)) rfl dX4_restore_26 ?_
    refine z_aload_n C (pc := 29) dX4_restore_29 rfl ?_
    refine z_get C (pc := 30) 0 rfl rfl wf_X4 16 (by decide) rfl wl_X4_22 (v := .ref (b 5)) rfl dX4_restore_30 ?_
    refine z_callv C (isC := [9, 5]) rfl (by exact fun _ => rfl) (runS C (wc := [(b 9, .inl (cI, 24, .inl (r 8))), (b 5, .inl (cI, 24, .inl (r 4)))]) (pc := 33) (rY' := rm 0 0) (nn := 2) (As := [.ref (b 9), .ref (b 5)]) (rest := []) (m_copy l D cI tt (b 9) 24 (b 5) 24 (r 8) (r 4) (by decide) (by decide)) rfl rfl ⟨rfl, rfl, ⟨Nat.le_of_ble_eq_true rfl, Nat.le_of_ble_eq_true rfl⟩, Nat.le_of_ble_eq_true rfl, Nat.le_of_ble_eq_true rfl⟩ wl_X4_148 ws_X4_copy wi_X4 wc_X4_copy (by decide +kernel) rfl rfl (Nat.le_of_ble_eq_true rfl) dX4_restore_33) (fun u_3 h_3 => ?_)
    subst h_3
    refine z_ws (st' := []) (ws' := (mW cI b i (va_up (va_up r 2 (cqv (r 7) (r 2) 7)) 4 (cqv (r 8) (r 4) 24)) h)) rfl rfl ?_
    refine z_aload_n C (pc := 36) dX4_restore_36 rfl ?_
    refine z_aload_n C (pc := 37) dX4_restore_37 rfl ?_
    refine z_get C (pc := 38) 0 rfl rfl wf_X4 21 (by decide) rfl wl_X4_222 (v := .int (i 21)) rfl dX4_restore_38 ?_
    refine z_put C (pc := 41) 0 rfl rfl wf_X4 4 (by decide) rfl tyX4 tyX4_ok nmX4 rfl rfl rfl (Nat.le_of_ble_eq_true rfl) (ws' := (mW cI b (upd i 4 (i 21)) (va_up (va_up r 2 (cqv (r 7) (r 2) 7)) 4 (cqv (r 8) (r 4) 24)) h)) rfl wl_X4_72 dX4_restore_41 ?_
    refine z_aload_n C (pc := 44) dX4_restore_44 rfl ?_
    refine z_aload_n C (pc := 45) dX4_restore_45 rfl ?_
    refine z_get C (pc := 46) 0 rfl rfl wf_X4 22 (by decide) rfl wl_X4_225 (v := .int (i 22)) rfl dX4_restore_46 ?_
    refine z_put C (pc := 49) 0 rfl rfl wf_X4 5 (by decide) rfl tyX4 tyX4_ok nmX4 rfl rfl rfl (Nat.le_of_ble_eq_true rfl) (ws' := (mW cI b (upd (upd i 4 (i 21)) 5 (i 22)) (va_up (va_up r 2 (cqv (r 7) (r 2) 7)) 4 (cqv (r 8) (r 4) 24)) h)) rfl wl_X4_75 dX4_restore_49 ?_
    refine z_aload_n C (pc := 52) dX4_restore_52 rfl ?_
    refine z_aload_n C (pc := 53) dX4_restore_53 rfl ?_
    refine z_get C (pc := 54) 0 rfl rfl wf_X4 23 (by decide) rfl wl_X4_228 (v := .int (i 23)) rfl dX4_restore_54 ?_
    refine z_put C (pc := 57) 0 rfl rfl wf_X4 6 (by decide) rfl tyX4 tyX4_ok nmX4 rfl rfl rfl (Nat.le_of_ble_eq_true rfl) (ws' := (mW cI b (upd (upd (upd i 4 (i 21)) 5 (i 22)) 6 (i 23)) (va_up (va_up r 2 (cqv (r 7) (r 2) 7)) 4 (cqv (r 8) (r 4) 24)) h)) rfl wl_X4_78 dX4_restore_57 ?_
    refine z_aload_n C (pc := 60) dX4_restore_60 rfl ?_
    refine z_aload_n C (pc := 61) dX4_restore_61 rfl ?_
    refine z_get C (pc := 62) 0 rfl rfl wf_X4 24 (by decide) rfl wl_X4_231 (v := .int (i 24)) rfl dX4_restore_62 ?_
    refine z_put C (pc := 65) 0 rfl rfl wf_X4 15 (by decide) rfl tyX4 tyX4_ok nmX4 rfl rfl rfl (Nat.le_of_ble_eq_true rfl) (ws' := (mW cI b (upd (upd (upd (upd i 4 (i 21)) 5 (i 22)) 6 (i 23)) 15 (i 24)) (va_up (va_up r 2 (cqv (r 7) (r 2) 7)) 4 (cqv (r 8) (r 4) 24)) h)) rfl wl_X4_81 dX4_restore_65 ?_
    refine z_aload_n C (pc := 68) dX4_restore_68 rfl ?_
    refine z_get C (pc := 69) 0 rfl rfl wf_X4 5 (by decide) rfl wl_X4_75 (v := .int (i 22)) rfl dX4_restore_69 ?_
    refine z_iret C (pc := 72) ((upd (upd (upd (upd i 4 (i 21)) 5 (i 22)) 6 (i 23)) 15 (i 24)), (va_up (va_up r 2 (cqv (r 7) (r 2) 7)) 4 (cqv (r 8) (r 4) 24))) dX4_restore_72 ?_ rfl
    rw [show restoreF z = (nI (z.1 10), (restoreG z, restoreW z, z.2.2)) from if_pos hi]
    exact ⟨(hz.2.2 hi).1.2.1, ml_restore vz hz hi (fun k hk => cqv_k0 hk) (fun k hk => cqv_k0 hk)⟩
  · rw [hz.i20, hz.i7] at c_1
    have hi : ¬ z.1 0 = 1 := fun e => c_1 ((kept_eq vz hb30).mpr e)
    refine z_bipush C (pc := 11) (v := (-103)) dX4_restore_11 (by decide) ?_
    refine z_iret C (pc := 13) (i, r) dX4_restore_13 ?_ rfl
    rw [show restoreF z = (-103, z) from if_neg hi]
    exact ⟨rfl, hz⟩
