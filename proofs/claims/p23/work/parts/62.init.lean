set_option maxHeartbeats 4000000 in
theorem n_party (l : Launch) (D : va_G) (cI : ClassId) (tt : Nat × Nat × Nat) (a : Nat) : MetN (S := Nat → Nat) l yX1_init cX1_init 1 { frames := 1, cells := 2, slots := 11, locals := 20 } D cI tt [.ref a] [(a, .inr (1, [.null, .int 0, .null, .int 0, .int 0, .int 0, .int 0, .int 0]))] 2 11 (fun _ => True) (fun q => [(a, .inr (1, [.ref (q 0), .int 0, .ref (q 1), .int 0, .int 0, .int 0, .int 0, .int 0])), ((q 0), .inl (cI, 6, .inl (fun _ => 0))), ((q 1), .inl (cI, 5, .inl (fun _ => 0)))]) := by
  refine met_ofN (by decide) (Nat.le_of_ble_eq_true rfl) ?_
  intro pP eE sS mM aV bB mE cC AA C hin
  refine z_conv (lv' := [(0, .ref a)]) ⟨rfl, trivial⟩ rfl rfl ?_
  refine z_aload_n C (pc := 0) dX1_init_0 rfl ?_
  refine z_objInit C (pc := 1) wl_X1_3 (by decide) (by decide) (by decide) dX1_init_1 ?_
  refine z_aload_n C (pc := 4) dX1_init_4 rfl ?_
  refine z_bipush C (pc := 5) (v := 6) dX1_init_5 (by decide) ?_
  refine z_newa C (pc := 7) (N := 6) (by decide) (by decide) (by decide) (Nat.le_of_ble_eq_true rfl) (Nat.le_of_ble_eq_true rfl) dX1_init_7 (fun q0 => ?_)
  refine z_putF C (pc := 9) 0 rfl rfl wf_X1 0 (by decide) rfl tyX1 tyX1_ok nmX1 rfl rfl rfl (Nat.le_of_ble_eq_true rfl) (ws' := [(a, .inr (1, [.ref q0, .int 0, .null, .int 0, .int 0, .int 0, .int 0, .int 0])), (q0, .inl (cI, 6, .inl (fun _ => 0)))]) rfl wl_X1_9 (hin rfl) rfl dX1_init_9 ?_
  refine z_aload_n C (pc := 12) dX1_init_12 rfl ?_
  refine z_iconst C (pc := 13) (v := 5) dX1_init_13 (by decide) ?_
  refine z_newa C (pc := 14) (N := 5) (by decide) (by decide) (by decide) (Nat.le_of_ble_eq_true rfl) (Nat.le_of_ble_eq_true rfl) dX1_init_14 (fun q1 => ?_)
  refine z_putF C (pc := 16) 0 rfl rfl wf_X1 2 (by decide) rfl tyX1 tyX1_ok nmX1 rfl rfl rfl (Nat.le_of_ble_eq_true rfl) (ws' := [(a, .inr (1, [.ref q0, .int 0, .ref q1, .int 0, .int 0, .int 0, .int 0, .int 0])), (q0, .inl (cI, 6, .inl (fun _ => 0))), (q1, .inl (cI, 5, .inl (fun _ => 0)))]) rfl wl_X1_15 (hin rfl) rfl dX1_init_16 ?_
  exact z_vretN C (pc := 19) (fun k => match k with | 0 => q0 | _ => q1) dX1_init_19 trivial rfl

set_option maxHeartbeats 4000000 in
theorem n_standing (l : Launch) (D : va_G) (cI : ClassId) (tt : Nat × Nat × Nat) (a : Nat) : MetN (S := Nat → Nat) l yX2_init cX2_init 1 { frames := 1, cells := 5, slots := 29, locals := 20 } D cI tt [.ref a] [(a, .inr (2, [.int 0, .null, .int 0, .int 0, .int 0, .null, .null, .null, .null]))] 5 29 (fun _ => True) (fun q => [(a, .inr (2, [.int 0, .ref (q 0), .int 0, .int 0, .int 0, .ref (q 1), .ref (q 2), .ref (q 3), .ref (q 4)])), ((q 0), .inl (cI, 5, .inl (fun _ => 0))), ((q 1), .inl (cI, 6, .inl (fun _ => 0))), ((q 2), .inl (cI, 6, .inl (fun _ => 0))), ((q 3), .inl (cI, 6, .inl (fun _ => 0))), ((q 4), .inl (cI, 6, .inl (fun _ => 0)))]) := by
  refine met_ofN (by decide) (Nat.le_of_ble_eq_true rfl) ?_
  intro pP eE sS mM aV bB mE cC AA C hin
  refine z_conv (lv' := [(0, .ref a)]) ⟨rfl, trivial⟩ rfl rfl ?_
  refine z_aload_n C (pc := 0) dX2_init_0 rfl ?_
  refine z_objInit C (pc := 1) wl_X2_3 (by decide) (by decide) (by decide) dX2_init_1 ?_
  refine z_aload_n C (pc := 4) dX2_init_4 rfl ?_
  refine z_iconst C (pc := 5) (v := 5) dX2_init_5 (by decide) ?_
  refine z_newa C (pc := 6) (N := 5) (by decide) (by decide) (by decide) (Nat.le_of_ble_eq_true rfl) (Nat.le_of_ble_eq_true rfl) dX2_init_6 (fun q0 => ?_)
  refine z_putF C (pc := 8) 0 rfl rfl wf_X2 1 (by decide) rfl tyX2 tyX2_ok nmX2 rfl rfl rfl (Nat.le_of_ble_eq_true rfl) (ws' := [(a, .inr (2, [.int 0, .ref q0, .int 0, .int 0, .int 0, .null, .null, .null, .null])), (q0, .inl (cI, 5, .inl (fun _ => 0)))]) rfl wl_X2_9 (hin rfl) rfl dX2_init_8 ?_
  refine z_aload_n C (pc := 11) dX2_init_11 rfl ?_
  refine z_bipush C (pc := 12) (v := 6) dX2_init_12 (by decide) ?_
  refine z_newa C (pc := 14) (N := 6) (by decide) (by decide) (by decide) (Nat.le_of_ble_eq_true rfl) (Nat.le_of_ble_eq_true rfl) dX2_init_14 (fun q1 => ?_)
  refine z_putF C (pc := 16) 0 rfl rfl wf_X2 5 (by decide) rfl tyX2 tyX2_ok nmX2 rfl rfl rfl (Nat.le_of_ble_eq_true rfl) (ws' := [(a, .inr (2, [.int 0, .ref q0, .int 0, .int 0, .int 0, .ref q1, .null, .null, .null])), (q0, .inl (cI, 5, .inl (fun _ => 0))), (q1, .inl (cI, 6, .inl (fun _ => 0)))]) rfl wl_X2_15 (hin rfl) rfl dX2_init_16 ?_
  refine z_aload_n C (pc := 19) dX2_init_19 rfl ?_
  refine z_bipush C (pc := 20) (v := 6) dX2_init_20 (by decide) ?_
  refine z_newa C (pc := 22) (N := 6) (by decide) (by decide) (by decide) (Nat.le_of_ble_eq_true rfl) (Nat.le_of_ble_eq_true rfl) dX2_init_22 (fun q2 => ?_)
  refine z_putF C (pc := 24) 0 rfl rfl wf_X2 6 (by decide) rfl tyX2 tyX2_ok nmX2 rfl rfl rfl (Nat.le_of_ble_eq_true rfl) (ws' := [(a, .inr (2, [.int 0, .ref q0, .int 0, .int 0, .int 0, .ref q1, .ref q2, .null, .null])), (q0, .inl (cI, 5, .inl (fun _ => 0))), (q1, .inl (cI, 6, .inl (fun _ => 0))), (q2, .inl (cI, 6, .inl (fun _ => 0)))]) rfl wl_X2_18 (hin rfl) rfl dX2_init_24 ?_
  refine z_aload_n C (pc := 27) dX2_init_27 rfl ?_
  refine z_bipush C (pc := 28) (v := 6) dX2_init_28 (by decide) ?_
  refine z_newa C (pc := 30) (N := 6) (by decide) (by decide) (by decide) (Nat.le_of_ble_eq_true rfl) (Nat.le_of_ble_eq_true rfl) dX2_init_30 (fun q3 => ?_)
  refine z_putF C (pc := 32) 0 rfl rfl wf_X2 7 (by decide) rfl tyX2 tyX2_ok nmX2 rfl rfl rfl (Nat.le_of_ble_eq_true rfl) (ws' := [(a, .inr (2, [.int 0, .ref q0, .int 0, .int 0, .int 0, .ref q1, .ref q2, .ref q3, .null])), (q0, .inl (cI, 5, .inl (fun _ => 0))), (q1, .inl (cI, 6, .inl (fun _ => 0))), (q2, .inl (cI, 6, .inl (fun _ => 0))), (q3, .inl (cI, 6, .inl (fun _ => 0)))]) rfl wl_X2_21 (hin rfl) rfl dX2_init_32 ?_
  refine z_aload_n C (pc := 35) dX2_init_35 rfl ?_
  refine z_bipush C (pc := 36) (v := 6) dX2_init_36 (by decide) ?_
  refine z_newa C (pc := 38) (N := 6) (by decide) (by decide) (by decide) (Nat.le_of_ble_eq_true rfl) (Nat.le_of_ble_eq_true rfl) dX2_init_38 (fun q4 => ?_)
  refine z_putF C (pc := 40) 0 rfl rfl wf_X2 8 (by decide) rfl tyX2 tyX2_ok nmX2 rfl rfl rfl (Nat.le_of_ble_eq_true rfl) (ws' := [(a, .inr (2, [.int 0, .ref q0, .int 0, .int 0, .int 0, .ref q1, .ref q2, .ref q3, .ref q4])), (q0, .inl (cI, 5, .inl (fun _ => 0))), (q1, .inl (cI, 6, .inl (fun _ => 0))), (q2, .inl (cI, 6, .inl (fun _ => 0))), (q3, .inl (cI, 6, .inl (fun _ => 0))), (q4, .inl (cI, 6, .inl (fun _ => 0)))]) rfl wl_X2_24 (hin rfl) rfl dX2_init_40 ?_
  exact z_vretN C (pc := 43) (fun k => match k with | 0 => q0 | 1 => q1 | 2 => q2 | 3 => q3 | _ => q4) dX2_init_43 trivial rfl
