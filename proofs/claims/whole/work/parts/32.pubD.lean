set_option maxHeartbeats 4000000 in
set_option maxRecDepth 100000 in
theorem c_image (l : Launch) (D : va_G) (cI : ClassId) (tt : Nat × Nat × Nat) (a : Nat → Nat) (i : Nat → Int32) (r : Nat → Nat → Int32) (z : SG) (hz : Cls z i r) (vz : VS z) : MetI (S := ((Nat → Int32) × (Nat → Nat → Int32))) l yX3_image cX3_image 1 (some .int) (rm 3 65) D cI tt [.ref (a 0)] (cW cI a i r) (fun q u => q = (imageF z).1 ∧ Cls (imageF z).2 u.1 u.2) (fun u => cW cI a u.1 u.2) := by
  have hv := hz.pv vz
  have hc := hz.c vz
  have hh := hz.hv vz
  have hn6 := vz.2.2.2.1
  have hx6 := pow_le6 hn6
  refine met_ofI (by decide) (Nat.le_of_ble_eq_true rfl) ?_
  intro pP eE sS mM aV bB mE cC AA C hin
  refine z_conv (lv' := [(0, .ref (a 0))]) ⟨rfl, trivial⟩ rfl rfl ?_
  refine z_aload_n C (pc := 0) dX3_image_0 rfl ?_
  refine z_get C (pc := 1) 0 rfl rfl wf_X3 1 (by decide) rfl wl_X3_19 (v := .ref (a 3)) rfl dX3_image_1 ?_
  refine z_getN C (pc := 4) 3 rfl rfl wf_X1 1 (by decide) rfl wl_X3_53 (v := .int (i 4)) rfl dX3_image_4 ?_
  refine z_if_ne C (pc := 7) (tgt := 13) dX3_image_7 (by decide) (fun c_1 => ?_) (fun c_1 => ?_)
  · rw [hz.1.2.2.2.2.1] at c_1
    have hn0 := nI_nz c_1
    refine z_aload_n C (pc := 13) dX3_image_13 rfl ?_
    refine z_get C (pc := 14) 0 rfl rfl wf_X3 3 (by decide) rfl wl_X3_30 (v := .ref (a 12)) rfl dX3_image_14 ?_
    refine z_aload_n C (pc := 17) dX3_image_17 rfl ?_
    refine z_get C (pc := 18) 0 rfl rfl wf_X3 2 (by decide) rfl wl_X3_26 (v := .ref (a 6)) rfl dX3_image_18 ?_
    refine z_callvF C (by exact fun _ => cW_ad) (runVN C (wc := (cW cI a i r)) (pc := 21) (rY' := rm 2 44) (nn := 1) (As := [.ref (a 6)]) (rest := []) (c_takeKept l D cI tt a i r) (full_hC _) (full_nd _) ⟨rfl, rfl, ⟨Nat.le_of_ble_eq_true rfl, Nat.le_of_ble_eq_true rfl⟩, Nat.le_of_ble_eq_true rfl, Nat.le_of_ble_eq_true rfl⟩ wl_X3_183 wm_X2_takeFrom we_X2_takeFrom wi_X2 wc_X2_takeFrom (by decide +kernel) rfl 12 rfl rfl rfl rfl (Nat.le_of_ble_eq_true rfl) dX3_image_21) (fun u_2 h_2 => ?_)
    obtain ⟨i2, r2⟩ := u_2
    try dsimp only at h_2
    obtain ⟨e1, e2⟩ := Prod.mk.inj h_2
    refine z_ws (st' := []) (ws' := (cW cI a i2 r2)) rfl rfl ?_
    refine z_aload_n C (pc := 24) dX3_image_24 rfl ?_
    refine z_iconst C (pc := 25) (v := 1) dX3_image_25 (by decide) ?_
    refine z_put C (pc := 26) 0 rfl rfl wf_X3 5 (by decide) rfl tyX3 tyX3_ok nmX3 rfl rfl rfl (Nat.le_of_ble_eq_true rfl) (ws' := (cW cI a (upd i2 0 1) r2)) rfl wl_X3_80 dX3_image_26 ?_
    refine z_aload_n C (pc := 29) dX3_image_29 rfl ?_
    refine z_get C (pc := 30) 0 rfl rfl wf_X3 2 (by decide) rfl wl_X3_26 (v := .ref (a 6)) rfl dX3_image_30 ?_
    refine z_getN C (pc := 33) 6 rfl rfl wf_X2 2 (by decide) rfl wl_X3_137 (v := .int (i2 11)) rfl dX3_image_33 ?_
    refine z_iret C (pc := 36) ((upd i2 0 1), r2) dX3_image_36 ?_ rfl
    rw [show imageF z = (nI (z.1 6), (imageG z, imageW z, z.2.2)) from if_neg hn0, e1, e2]
    exact ⟨hz.1.2.2.2.2.2.2.1, cl_image vz hz⟩
  · rw [hz.1.2.2.2.2.1] at c_1
    have hn0 : z.1 4 = 0 := nI_z (by omega) c_1
    refine z_bipush C (pc := 10) (v := (-103)) dX3_image_10 (by decide) ?_
    refine z_iret C (pc := 12) (i, r) dX3_image_12 ?_ rfl
    rw [show imageF z = (-103, z) from if_pos hn0]
    exact ⟨rfl, hz⟩

set_option maxHeartbeats 4000000 in
set_option maxRecDepth 100000 in
theorem c_restore (l : Launch) (D : va_G) (cI : ClassId) (tt : Nat × Nat × Nat) (a : Nat → Nat) (i : Nat → Int32) (r : Nat → Nat → Int32) (z : SG) (hz : Cls z i r) (vz : VS z) : MetI (S := ((Nat → Int32) × (Nat → Nat → Int32))) l yX3_restore cX3_restore 1 (some .int) (rm 3 65) D cI tt [.ref (a 0)] (cW cI a i r) (fun q u => q = (restoreF z).1 ∧ Cls (restoreF z).2 u.1 u.2) (fun u => cW cI a u.1 u.2) := by
  have hv := hz.pv vz
  have hc := hz.c vz
  have hh := hz.hv vz
  have hn6 := vz.2.2.2.1
  have hx6 := pow_le6 hn6
  refine met_ofI (by decide) (Nat.le_of_ble_eq_true rfl) ?_
  intro pP eE sS mM aV bB mE cC AA C hin
  refine z_conv (lv' := [(0, .ref (a 0))]) ⟨rfl, trivial⟩ rfl rfl ?_
  refine z_aload_n C (pc := 0) dX3_restore_0 rfl ?_
  refine z_get C (pc := 1) 0 rfl rfl wf_X3 5 (by decide) rfl wl_X3_80 (v := .int (i 0)) rfl dX3_restore_1 ?_
  refine z_if_ne C (pc := 4) (tgt := 10) dX3_restore_4 (by decide) (fun c_1 => ?_) (fun c_1 => ?_)
  · rw [hz.1.1] at c_1
    have hi1 : z.1 0 = 1 := by have h0 := vz.1; have := nI_nz c_1; omega
    refine z_aload_n C (pc := 10) dX3_restore_10 rfl ?_
    refine z_get C (pc := 11) 0 rfl rfl wf_X3 2 (by decide) rfl wl_X3_26 (v := .ref (a 6)) rfl dX3_restore_11 ?_
    refine z_aload_n C (pc := 14) dX3_restore_14 rfl ?_
    refine z_get C (pc := 15) 0 rfl rfl wf_X3 3 (by decide) rfl wl_X3_30 (v := .ref (a 12)) rfl dX3_restore_15 ?_
    refine z_callvF C (by exact fun _ => cW_ad) (runVN C (wc := (cW cI a i r)) (pc := 18) (rY' := rm 2 44) (nn := 1) (As := [.ref (a 12)]) (rest := []) (c_takeNow l D cI tt a i r) (full_hC _) (full_nd _) ⟨rfl, rfl, ⟨Nat.le_of_ble_eq_true rfl, Nat.le_of_ble_eq_true rfl⟩, Nat.le_of_ble_eq_true rfl, Nat.le_of_ble_eq_true rfl⟩ wl_X3_183 wm_X2_takeFrom we_X2_takeFrom wi_X2 wc_X2_takeFrom (by decide +kernel) rfl 6 rfl rfl rfl rfl (Nat.le_of_ble_eq_true rfl) dX3_restore_18) (fun u_2 h_2 => ?_)
    obtain ⟨i2, r2⟩ := u_2
    try dsimp only at h_2
    obtain ⟨e1, e2⟩ := Prod.mk.inj h_2
    refine z_ws (st' := []) (ws' := (cW cI a i2 r2)) rfl rfl ?_
    refine z_aload_n C (pc := 21) dX3_restore_21 rfl ?_
    refine z_get C (pc := 22) 0 rfl rfl wf_X3 2 (by decide) rfl wl_X3_26 (v := .ref (a 6)) rfl dX3_restore_22 ?_
    refine z_getN C (pc := 25) 6 rfl rfl wf_X2 2 (by decide) rfl wl_X3_137 (v := .int (i2 11)) rfl dX3_restore_25 ?_
    refine z_iret C (pc := 28) (i2, r2) dX3_restore_28 ?_ rfl
    rw [show restoreF z = (nI (z.1 10), (restoreG z, restoreW z, z.2.2)) from if_pos hi1, e1, e2]
    exact ⟨(hz.2.2 hi1).1.2.1, cl_restore vz hz hi1⟩
  · rw [hz.1.1] at c_1
    have hi0 : ¬ z.1 0 = 1 := by have h0 := vz.1; have := nI_z (by omega) c_1; omega
    refine z_bipush C (pc := 7) (v := (-103)) dX3_restore_7 (by decide) ?_
    refine z_iret C (pc := 9) (i, r) dX3_restore_9 ?_ rfl
    rw [show restoreF z = (-103, z) from if_neg hi0]
    exact ⟨rfl, hz⟩
