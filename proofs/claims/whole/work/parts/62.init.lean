set_option maxHeartbeats 4000000 in
theorem n_party (l : Launch) (D : va_G) (cI : ClassId) (tt : Nat × Nat × Nat) (a : Nat) : MetN (S := Nat → Nat) l yX1_init cX1_init 1 { frames := 1, cells := 2, slots := 11, locals := 20 } D cI tt [.ref a] [(a, .inr (1, [.null, .int 0, .null, .int 0, .int 0, .int 0, .int 0, .int 0]))] 2 11 (fun _ => True) (fun q => [(a, .inr (1, [.ref (q 0), .int 0, .ref (q 1), .int 0, .int 0, .int 0, .int 0, .int 0])), ((q 0), .inl (cI, 6, .inl (fun _ => 0))), ((q 1), .inl (cI, 5, .inl (fun _ => 0)))]) := by
  refine met_ofN (by decide) (Nat.le_of_ble_eq_true rfl) ?_
  intro pP eE sS mM aV bB mE cC AA C hin
  refine z_conv (lv' := [(0, .ref a)]) ⟨rfl, trivial⟩ rfl rfl ?_
  refine z_aload_n C (pc := 0) dX1_init_0 rfl ?_
  refine z_objInit C (pc := 1) wl_X1_3 (by decide) (by decide) (by decide) dX1_init_1 ?_
  refine z_aload_n C (pc := 4) dX1_init_4 rfl ?_
  refine z_bipush C (pc := 5) (v := 6) dX1_init_5 (by decide) ?_
  refine z_newa C (pc := 7) (N := 6) (by decide) (by decide) (by decide) (Nat.le_of_ble_eq_true rfl) (Nat.le_of_ble_eq_true rfl) dX1_init_7 (fun q0 => ?_)
  refine z_putF C (pc := 9) 0 rfl rfl wf_X1 0 (by decide) rfl tyX1 tyX1_ok nmX1 rfl rfl rfl (Nat.le_of_ble_eq_true rfl) (ws' := [(a, .inr (1, [.ref q0, .int 0, .null, .int 0, .int 0, .int 0, .int 0, .int 0])), (q0, .inl (cI, 6, .inl (fun _ => 0)))]) rfl wl_X1_9 (hin rfl) rfl dX1_init_9 ?_
  refine z_aload_n C (pc := 12) dX1_init_12 rfl ?_
  refine z_iconst C (pc := 13) (v := 5) dX1_init_13 (by decide) ?_
  refine z_newa C (pc := 14) (N := 5) (by decide) (by decide) (by decide) (Nat.le_of_ble_eq_true rfl) (Nat.le_of_ble_eq_true rfl) dX1_init_14 (fun q1 => ?_)
  refine z_putF C (pc := 16) 0 rfl rfl wf_X1 2 (by decide) rfl tyX1 tyX1_ok nmX1 rfl rfl rfl (Nat.le_of_ble_eq_true rfl) (ws' := [(a, .inr (1, [.ref q0, .int 0, .ref q1, .int 0, .int 0, .int 0, .int 0, .int 0])), (q0, .inl (cI, 6, .inl (fun _ => 0))), (q1, .inl (cI, 5, .inl (fun _ => 0)))]) rfl wl_X1_15 (hin rfl) rfl dX1_init_16 ?_
  exact z_vretN C (pc := 19) (fun k => match k with | 0 => q0 | _ => q1) dX1_init_19 trivial rfl

set_option maxHeartbeats 4000000 in
theorem n_standing (l : Launch) (D : va_G) (cI : ClassId) (tt : Nat × Nat × Nat) (a : Nat) : MetN (S := Nat → Nat) l yX2_init cX2_init 1 { frames := 1, cells := 5, slots := 29, locals := 20 } D cI tt [.ref a] [(a, .inr (2, [.int 0, .null, .int 0, .int 0, .int 0, .null, .null, .null, .null]))] 5 29 (fun _ => True) (fun q => [(a, .inr (2, [.int 0, .ref (q 0), .int 0, .int 0, .int 0, .ref (q 1), .ref (q 2), .ref (q 3), .ref (q 4)])), ((q 0), .inl (cI, 5, .inl (fun _ => 0))), ((q 1), .inl (cI, 6, .inl (fun _ => 0))), ((q 2), .inl (cI, 6, .inl (fun _ => 0))), ((q 3), .inl (cI, 6, .inl (fun _ => 0))), ((q 4), .inl (cI, 6, .inl (fun _ => 0)))]) := by
  refine met_ofN (by decide) (Nat.le_of_ble_eq_true rfl) ?_
  intro pP eE sS mM aV bB mE cC AA C hin
  refine z_conv (lv' := [(0, .ref a)]) ⟨rfl, trivial⟩ rfl rfl ?_
  refine z_aload_n C (pc := 0) dX2_init_0 rfl ?_
  refine z_objInit C (pc := 1) wl_X2_3 (by decide) (by decide) (by decide) dX2_init_1 ?_
  refine z_aload_n C (pc := 4) dX2_init_4 rfl ?_
  refine z_iconst C (pc := 5) (v := 5) dX2_init_5 (by decide) ?_
  refine z_newa C (pc := 6) (N := 5) (by decide) (by decide) (by decide) (Nat.le_of_ble_eq_true rfl) (Nat.le_of_ble_eq_true rfl) dX2_init_6 (fun q0 => ?_)
  refine z_putF C (pc := 8) 0 rfl rfl wf_X2 1 (by decide) rfl tyX2 tyX2_ok nmX2 rfl rfl rfl (Nat.le_of_ble_eq_true rfl) (ws' := [(a, .inr (2, [.int 0, .ref q0, .int 0, .int 0, .int 0, .null, .null, .null, .null])), (q0, .inl (cI, 5, .inl (fun _ => 0)))]) rfl wl_X2_9 (hin rfl) rfl dX2_init_8 ?_
  refine z_aload_n C (pc := 11) dX2_init_11 rfl ?_
  refine z_bipush C (pc := 12) (v := 6) dX2_init_12 (by decide) ?_
  refine z_newa C (pc := 14) (N := 6) (by decide) (by decide) (by decide) (Nat.le_of_ble_eq_true rfl) (Nat.le_of_ble_eq_true rfl) dX2_init_14 (fun q1 => ?_)
  refine z_putF C (pc := 16) 0 rfl rfl wf_X2 5 (by decide) rfl tyX2 tyX2_ok nmX2 rfl rfl rfl (Nat.le_of_ble_eq_true rfl) (ws' := [(a, .inr (2, [.int 0, .ref q0, .int 0, .int 0, .int 0, .ref q1, .null, .null, .null])), (q0, .inl (cI, 5, .inl (fun _ => 0))), (q1, .inl (cI, 6, .inl (fun _ => 0)))]) rfl wl_X2_15 (hin rfl) rfl dX2_init_16 ?_
  refine z_aload_n C (pc := 19) dX2_init_19 rfl ?_
  refine z_bipush C (pc := 20) (v := 6) dX2_init_20 (by decide) ?_
  refine z_newa C (pc := 22) (N := 6) (by decide) (by decide) (by decide) (Nat.le_of_ble_eq_true rfl) (Nat.le_of_ble_eq_true rfl) dX2_init_22 (fun q2 => ?_)
  refine z_putF C (pc := 24) 0 rfl rfl wf_X2 6 (by decide) rfl tyX2 tyX2_ok nmX2 rfl rfl rfl (Nat.le_of_ble_eq_true rfl) (ws' := [(a, .inr (2, [.int 0, .ref q0, .int 0, .int 0, .int 0, .ref q1, .ref q2, .null, .null])), (q0, .inl (cI, 5, .inl (fun _ => 0))), (q1, .inl (cI, 6, .inl (fun _ => 0))), (q2, .inl (cI, 6, .inl (fun _ => 0)))]) rfl wl_X2_18 (hin rfl) rfl dX2_init_24 ?_
  refine z_aload_n C (pc := 27) dX2_init_27 rfl ?_
  refine z_bipush C (pc := 28) (v := 6) dX2_init_28 (by decide) ?_
  refine z_newa C (pc := 30) (N := 6) (by decide) (by decide) (by decide) (Nat.le_of_ble_eq_true rfl) (Nat.le_of_ble_eq_true rfl) dX2_init_30 (fun q3 => ?_)
  refine z_putF C (pc := 32) 0 rfl rfl wf_X2 7 (by decide) rfl tyX2 tyX2_ok nmX2 rfl rfl rfl (Nat.le_of_ble_eq_true rfl) (ws' := [(a, .inr (2, [.int 0, .ref q0, .int 0, .int 0, .int 0, .ref q1, .ref q2, .ref q3, .null])), (q0, .inl (cI, 5, .inl (fun _ => 0))), (q1, .inl (cI, 6, .inl (fun _ => 0))), (q2, .inl (cI, 6, .inl (fun _ => 0))), (q3, .inl (cI, 6, .inl (fun _ => 0)))]) rfl wl_X2_21 (hin rfl) rfl dX2_init_32 ?_
  refine z_aload_n C (pc := 35) dX2_init_35 rfl ?_
  refine z_bipush C (pc := 36) (v := 6) dX2_init_36 (by decide) ?_
  refine z_newa C (pc := 38) (N := 6) (by decide) (by decide) (by decide) (Nat.le_of_ble_eq_true rfl) (Nat.le_of_ble_eq_true rfl) dX2_init_38 (fun q4 => ?_)
  refine z_putF C (pc := 40) 0 rfl rfl wf_X2 8 (by decide) rfl tyX2 tyX2_ok nmX2 rfl rfl rfl (Nat.le_of_ble_eq_true rfl) (ws' := [(a, .inr (2, [.int 0, .ref q0, .int 0, .int 0, .int 0, .ref q1, .ref q2, .ref q3, .ref q4])), (q0, .inl (cI, 5, .inl (fun _ => 0))), (q1, .inl (cI, 6, .inl (fun _ => 0))), (q2, .inl (cI, 6, .inl (fun _ => 0))), (q3, .inl (cI, 6, .inl (fun _ => 0))), (q4, .inl (cI, 6, .inl (fun _ => 0)))]) rfl wl_X2_24 (hin rfl) rfl dX2_init_40 ?_
  exact z_vretN C (pc := 43) (fun k => match k with | 0 => q0 | 1 => q1 | 2 => q2 | 3 => q3 | _ => q4) dX2_init_43 trivial rfl

set_option maxHeartbeats 4000000 in
theorem n_model (l : Launch) (D : va_G) (cI : ClassId) (tt : Nat × Nat × Nat) (a : Nat) : MetN (S := Nat → Nat) l yX4_init cX4_init 1 { frames := 1, cells := 9, slots := 104, locals := 20 } D cI tt [.ref a] [(a, .inr (4, [.null, .int 0, .int 0, .int 0, .int 0, .int 0, .int 0, .int 0, .null, .null, .int 0, .int 0, .int 0, .null, .int 0, .int 0, .null, .null, .int 0, .null, .int 0, .int 0, .int 0, .int 0, .int 0, .null, .null, .long 0]))] 9 104 (fun _ => True) (fun q => [(a, .inr (4, [.ref (q 0), .int 0, .int 0, .int 0, .int 0, .int 0, .int 0, .int 0, .ref (q 1), .ref (q 2), .int 0, .int 0, .int 0, .ref (q 3), .int 0, .int 0, .ref (q 4), .ref (q 5), .int 0, .ref (q 6), .int (-1), .int 0, .int 0, .int 0, .int 0, .ref (q 7), .ref (q 8), .long 0])), ((q 0), .inl (cI, 15, .inl (fun _ => 0))), ((q 1), .inl (cI, 6, .inl (fun _ => 0))), ((q 2), .inl (cI, 7, .inl (fun _ => 0))), ((q 3), .inl (cI, 7, .inl (fun _ => 0))), ((q 4), .inl (cI, 24, .inl (fun _ => 0))), ((q 5), .inl (cI, 7, .inl (fun _ => 0))), ((q 6), .inl (cI, 7, .inl (fun _ => 0))), ((q 7), .inl (cI, 7, .inl (fun _ => 0))), ((q 8), .inl (cI, 24, .inl (fun _ => 0)))]) := by
  refine met_ofN (by decide) (Nat.le_of_ble_eq_true rfl) ?_
  intro pP eE sS mM aV bB mE cC AA C hin
  refine z_conv (lv' := [(0, .ref a)]) ⟨rfl, trivial⟩ rfl rfl ?_
  refine z_aload_n C (pc := 0) dX4_init_0 rfl ?_
  refine z_objInit C (pc := 1) wl_X4_1 (by decide) (by decide) (by decide) dX4_init_1 ?_
  refine z_aload_n C (pc := 4) dX4_init_4 rfl ?_
  refine z_bipush C (pc := 5) (v := 15) dX4_init_5 (by decide) ?_
  refine z_newa C (pc := 7) (N := 15) (by decide) (by decide) (by decide) (Nat.le_of_ble_eq_true rfl) (Nat.le_of_ble_eq_true rfl) dX4_init_7 (fun q0 => ?_)
  refine z_putF C (pc := 9) 0 rfl rfl wf_X4 0 (by decide) rfl tyX4 tyX4_ok nmX4 rfl rfl rfl (Nat.le_of_ble_eq_true rfl) (ws' := [(a, .inr (4, [.ref q0, .int 0, .int 0, .int 0, .int 0, .int 0, .int 0, .int 0, .null, .null, .int 0, .int 0, .int 0, .null, .int 0, .int 0, .null, .null, .int 0, .null, .int 0, .int 0, .int 0, .int 0, .int 0, .null, .null, .long 0])), (q0, .inl (cI, 15, .inl (fun _ => 0)))]) rfl wl_X4_7 (hin rfl) rfl dX4_init_9 ?_
  refine z_aload_n C (pc := 12) dX4_init_12 rfl ?_
  refine z_bipush C (pc := 13) (v := 6) dX4_init_13 (by decide) ?_
  refine z_newa C (pc := 15) (N := 6) (by decide) (by decide) (by decide) (Nat.le_of_ble_eq_true rfl) (Nat.le_of_ble_eq_true rfl) dX4_init_15 (fun q1 => ?_)
  refine z_putF C (pc := 17) 0 rfl rfl wf_X4 8 (by decide) rfl tyX4 tyX4_ok nmX4 rfl rfl rfl (Nat.le_of_ble_eq_true rfl) (ws' := [(a, .inr (4, [.ref q0, .int 0, .int 0, .int 0, .int 0, .int 0, .int 0, .int 0, .ref q1, .null, .int 0, .int 0, .int 0, .null, .int 0, .int 0, .null, .null, .int 0, .null, .int 0, .int 0, .int 0, .int 0, .int 0, .null, .null, .long 0])), (q0, .inl (cI, 15, .inl (fun _ => 0))), (q1, .inl (cI, 6, .inl (fun _ => 0)))]) rfl wl_X4_13 (hin rfl) rfl dX4_init_17 ?_
  refine z_aload_n C (pc := 20) dX4_init_20 rfl ?_
  refine z_bipush C (pc := 21) (v := 7) dX4_init_21 (by decide) ?_
  refine z_newa C (pc := 23) (N := 7) (by decide) (by decide) (by decide) (Nat.le_of_ble_eq_true rfl) (Nat.le_of_ble_eq_true rfl) dX4_init_23 (fun q2 => ?_)
  refine z_putF C (pc := 25) 0 rfl rfl wf_X4 9 (by decide) rfl tyX4 tyX4_ok nmX4 rfl rfl rfl (Nat.le_of_ble_eq_true rfl) (ws' := [(a, .inr (4, [.ref q0, .int 0, .int 0, .int 0, .int 0, .int 0, .int 0, .int 0, .ref q1, .ref q2, .int 0, .int 0, .int 0, .null, .int 0, .int 0, .null, .null, .int 0, .null, .int 0, .int 0, .int 0, .int 0, .int 0, .null, .null, .long 0])), (q0, .inl (cI, 15, .inl (fun _ => 0))), (q1, .inl (cI, 6, .inl (fun _ => 0))), (q2, .inl (cI, 7, .inl (fun _ => 0)))]) rfl wl_X4_16 (hin rfl) rfl dX4_init_25 ?_
  refine z_aload_n C (pc := 28) dX4_init_28 rfl ?_
  refine z_bipush C (pc := 29) (v := 7) dX4_init_29 (by decide) ?_
  refine z_newa C (pc := 31) (N := 7) (by decide) (by decide) (by decide) (Nat.le_of_ble_eq_true rfl) (Nat.le_of_ble_eq_true rfl) dX4_init_31 (fun q3 => ?_)
  refine z_putF C (pc := 33) 0 rfl rfl wf_X4 13 (by decide) rfl tyX4 tyX4_ok nmX4 rfl rfl rfl (Nat.le_of_ble_eq_true rfl) (ws' := [(a, .inr (4, [.ref q0, .int 0, .int 0, .int 0, .int 0, .int 0, .int 0, .int 0, .ref q1, .ref q2, .int 0, .int 0, .int 0, .ref q3, .int 0, .int 0, .null, .null, .int 0, .null, .int 0, .int 0, .int 0, .int 0, .int 0, .null, .null, .long 0])), (q0, .inl (cI, 15, .inl (fun _ => 0))), (q1, .inl (cI, 6, .inl (fun _ => 0))), (q2, .inl (cI, 7, .inl (fun _ => 0))), (q3, .inl (cI, 7, .inl (fun _ => 0)))]) rfl wl_X4_19 (hin rfl) rfl dX4_init_33 ?_
  refine z_aload_n C (pc := 36) dX4_init_36 rfl ?_
  refine z_bipush C (pc := 37) (v := 24) dX4_init_37 (by decide) ?_
  refine z_newa C (pc := 39) (N := 24) (by decide) (by decide) (by decide) (Nat.le_of_ble_eq_true rfl) (Nat.le_of_ble_eq_true rfl) dX4_init_39 (fun q4 => ?_)
  refine z_putF C (pc := 41) 0 rfl rfl wf_X4 16 (by decide) rfl tyX4 tyX4_ok nmX4 rfl rfl rfl (Nat.le_of_ble_eq_true rfl) (ws' := [(a, .inr (4, [.ref q0, .int 0, .int 0, .int 0, .int 0, .int 0, .int 0, .int 0, .ref q1, .ref q2, .int 0, .int 0, .int 0, .ref q3, .int 0, .int 0, .ref q4, .null, .int 0, .null, .int 0, .int 0, .int 0, .int 0, .int 0, .null, .null, .long 0])), (q0, .inl (cI, 15, .inl (fun _ => 0))), (q1, .inl (cI, 6, .inl (fun _ => 0))), (q2, .inl (cI, 7, .inl (fun _ => 0))), (q3, .inl (cI, 7, .inl (fun _ => 0))), (q4, .inl (cI, 24, .inl (fun _ => 0)))]) rfl wl_X4_22 (hin rfl) rfl dX4_init_41 ?_
  refine z_aload_n C (pc := 44) dX4_init_44 rfl ?_
  refine z_bipush C (pc := 45) (v := 7) dX4_init_45 (by decide) ?_
  refine z_newa C (pc := 47) (N := 7) (by decide) (by decide) (by decide) (Nat.le_of_ble_eq_true rfl) (Nat.le_of_ble_eq_true rfl) dX4_init_47 (fun q5 => ?_)
  refine z_putF C (pc := 49) 0 rfl rfl wf_X4 17 (by decide) rfl tyX4 tyX4_ok nmX4 rfl rfl rfl (Nat.le_of_ble_eq_true rfl) (ws' := [(a, .inr (4, [.ref q0, .int 0, .int 0, .int 0, .int 0, .int 0, .int 0, .int 0, .ref q1, .ref q2, .int 0, .int 0, .int 0, .ref q3, .int 0, .int 0, .ref q4, .ref q5, .int 0, .null, .int 0, .int 0, .int 0, .int 0, .int 0, .null, .null, .long 0])), (q0, .inl (cI, 15, .inl (fun _ => 0))), (q1, .inl (cI, 6, .inl (fun _ => 0))), (q2, .inl (cI, 7, .inl (fun _ => 0))), (q3, .inl (cI, 7, .inl (fun _ => 0))), (q4, .inl (cI, 24, .inl (fun _ => 0))), (q5, .inl (cI, 7, .inl (fun _ => 0)))]) rfl wl_X4_25 (hin rfl) rfl dX4_init_49 ?_
  refine z_aload_n C (pc := 52) dX4_init_52 rfl ?_
  refine z_bipush C (pc := 53) (v := 7) dX4_init_53 (by decide) ?_
  refine z_newa C (pc := 55) (N := 7) (by decide) (by decide) (by decide) (Nat.le_of_ble_eq_true rfl) (Nat.le_of_ble_eq_true rfl) dX4_init_55 (fun q6 => ?_)
  refine z_putF C (pc := 57) 0 rfl rfl wf_X4 19 (by decide) rfl tyX4 tyX4_ok nmX4 rfl rfl rfl (Nat.le_of_ble_eq_true rfl) (ws' := [(a, .inr (4, [.ref q0, .int 0, .int 0, .int 0, .int 0, .int 0, .int 0, .int 0, .ref q1, .ref q2, .int 0, .int 0, .int 0, .ref q3, .int 0, .int 0, .ref q4, .ref q5, .int 0, .ref q6, .int 0, .int 0, .int 0, .int 0, .int 0, .null, .null, .long 0])), (q0, .inl (cI, 15, .inl (fun _ => 0))), (q1, .inl (cI, 6, .inl (fun _ => 0))), (q2, .inl (cI, 7, .inl (fun _ => 0))), (q3, .inl (cI, 7, .inl (fun _ => 0))), (q4, .inl (cI, 24, .inl (fun _ => 0))), (q5, .inl (cI, 7, .inl (fun _ => 0))), (q6, .inl (cI, 7, .inl (fun _ => 0)))]) rfl wl_X4_28 (hin rfl) rfl dX4_init_57 ?_
  refine z_aload_n C (pc := 60) dX4_init_60 rfl ?_
  refine z_bipush C (pc := 61) (v := 7) dX4_init_61 (by decide) ?_
  refine z_newa C (pc := 63) (N := 7) (by decide) (by decide) (by decide) (Nat.le_of_ble_eq_true rfl) (Nat.le_of_ble_eq_true rfl) dX4_init_63 (fun q7 => ?_)
  refine z_putF C (pc := 65) 0 rfl rfl wf_X4 25 (by decide) rfl tyX4 tyX4_ok nmX4 rfl rfl rfl (Nat.le_of_ble_eq_true rfl) (ws' := [(a, .inr (4, [.ref q0, .int 0, .int 0, .int 0, .int 0, .int 0, .int 0, .int 0, .ref q1, .ref q2, .int 0, .int 0, .int 0, .ref q3, .int 0, .int 0, .ref q4, .ref q5, .int 0, .ref q6, .int 0, .int 0, .int 0, .int 0, .int 0, .ref q7, .null, .long 0])), (q0, .inl (cI, 15, .inl (fun _ => 0))), (q1, .inl (cI, 6, .inl (fun _ => 0))), (q2, .inl (cI, 7, .inl (fun _ => 0))), (q3, .inl (cI, 7, .inl (fun _ => 0))), (q4, .inl (cI, 24, .inl (fun _ => 0))), (q5, .inl (cI, 7, .inl (fun _ => 0))), (q6, .inl (cI, 7, .inl (fun _ => 0))), (q7, .inl (cI, 7, .inl (fun _ => 0)))]) rfl wl_X4_31 (hin rfl) rfl dX4_init_65 ?_
  refine z_aload_n C (pc := 68) dX4_init_68 rfl ?_
  refine z_bipush C (pc := 69) (v := 24) dX4_init_69 (by decide) ?_
  refine z_newa C (pc := 71) (N := 24) (by decide) (by decide) (by decide) (Nat.le_of_ble_eq_true rfl) (Nat.le_of_ble_eq_true rfl) dX4_init_71 (fun q8 => ?_)
  refine z_putF C (pc := 73) 0 rfl rfl wf_X4 26 (by decide) rfl tyX4 tyX4_ok nmX4 rfl rfl rfl (Nat.le_of_ble_eq_true rfl) (ws' := [(a, .inr (4, [.ref q0, .int 0, .int 0, .int 0, .int 0, .int 0, .int 0, .int 0, .ref q1, .ref q2, .int 0, .int 0, .int 0, .ref q3, .int 0, .int 0, .ref q4, .ref q5, .int 0, .ref q6, .int 0, .int 0, .int 0, .int 0, .int 0, .ref q7, .ref q8, .long 0])), (q0, .inl (cI, 15, .inl (fun _ => 0))), (q1, .inl (cI, 6, .inl (fun _ => 0))), (q2, .inl (cI, 7, .inl (fun _ => 0))), (q3, .inl (cI, 7, .inl (fun _ => 0))), (q4, .inl (cI, 24, .inl (fun _ => 0))), (q5, .inl (cI, 7, .inl (fun _ => 0))), (q6, .inl (cI, 7, .inl (fun _ => 0))), (q7, .inl (cI, 7, .inl (fun _ => 0))), (q8, .inl (cI, 24, .inl (fun _ => 0)))]) rfl wl_X4_34 (hin rfl) rfl dX4_init_73 ?_
  refine z_aload_n C (pc := 76) dX4_init_76 rfl ?_
  refine z_iconst C (pc := 77) (v := (-1)) dX4_init_77 (by decide) ?_
  refine z_put C (pc := 78) 0 rfl rfl wf_X4 20 (by decide) rfl tyX4 tyX4_ok nmX4 rfl rfl rfl (Nat.le_of_ble_eq_true rfl) (ws' := [(a, .inr (4, [.ref q0, .int 0, .int 0, .int 0, .int 0, .int 0, .int 0, .int 0, .ref q1, .ref q2, .int 0, .int 0, .int 0, .ref q3, .int 0, .int 0, .ref q4, .ref q5, .int 0, .ref q6, .int (-1), .int 0, .int 0, .int 0, .int 0, .ref q7, .ref q8, .long 0])), (q0, .inl (cI, 15, .inl (fun _ => 0))), (q1, .inl (cI, 6, .inl (fun _ => 0))), (q2, .inl (cI, 7, .inl (fun _ => 0))), (q3, .inl (cI, 7, .inl (fun _ => 0))), (q4, .inl (cI, 24, .inl (fun _ => 0))), (q5, .inl (cI, 7, .inl (fun _ => 0))), (q6, .inl (cI, 7, .inl (fun _ => 0))), (q7, .inl (cI, 7, .inl (fun _ => 0))), (q8, .inl (cI, 24, .inl (fun _ => 0)))]) rfl wl_X4_37 dX4_init_78 ?_
  exact z_vretN C (pc := 81) (fun k => match k with | 0 => q0 | 1 => q1 | 2 => q2 | 3 => q3 | 4 => q4 | 5 => q5 | 6 => q6 | 7 => q7 | _ => q8) dX4_init_81 trivial rfl
