set_option maxHeartbeats 4000000 in
set_option maxRecDepth 100000 in
theorem c_leftAtWorst (l : Launch) (D : va_G) (cI : ClassId) (tt : Nat × Nat × Nat) (a : Nat → Nat) (i : Nat → Int32) (r : Nat → Nat → Int32) (kd : Nat → Nat) (n : Nat) (hv : PV i r kd n) (c : Nat → Nat) (hc : ∀ k, k < 5 → r 3 k = nI (c k) ∧ c k ≤ 9) (q b f : Nat) (hq1 : 1 ≤ q) (hq5 : q < 6) (hb10 : b < 1024) (hf : f ≤ 40) : MetI (S := ((Nat → Int32) × (Nat → Nat → Int32))) l yX3_leftAtWorst cX3_leftAtWorst 6 (some .int) (rm 4 92) D cI tt [.ref (a 0), .int (nI q), .int (nI b), .int (nI f)] (cW cI a i r) (fun z u => z = nI (wov kd n c q b f) ∧ SP i u.1 ∧ SR r u.2) (fun u => cW cI a u.1 u.2) := by
  have hn6 := hv.2.1
  have hx6 := pow_le6 hn6
  refine met_ofI (by decide) (Nat.le_of_ble_eq_true rfl) ?_
  intro pP eE sS mM aV bB mE cC AA C hin
  refine z_conv (lv' := [(0, .ref (a 0)), (1, .int (nI q)), (2, .int (nI b)), (3, .int (nI f))]) ⟨rfl, rfl, rfl, rfl, trivial⟩ rfl rfl ?_
  refine z_iconst C (pc := 0) (v := 0) dX3_leftAtWorst_0 (by decide) ?_
  refine z_istore C (pc := 1) (lv' := [(0, .ref (a 0)), (1, .int (nI q)), (2, .int (nI b)), (3, .int (nI f)), (4, .int 0)]) dX3_leftAtWorst_1 (Nat.le_of_ble_eq_true rfl) rfl rfl ?_
  refine z_iconst C (pc := 3) (v := 0) dX3_leftAtWorst_3 (by decide) ?_
  refine z_istore C (pc := 4) (lv' := [(0, .ref (a 0)), (1, .int (nI q)), (2, .int (nI b)), (3, .int (nI f)), (4, .int 0), (5, .int 0)]) dX3_leftAtWorst_4 (Nat.le_of_ble_eq_true rfl) rfl rfl ?_
  have key6 : ∀ (fu6 : Nat) (v : Nat) (i' : Nat → Int32) (r' : Nat → Nat → Int32), 10 - v < fu6 → (v ≤ 10) → (SP i i') → (SR r r') → Z pP l eE (rm 4 92) sS mM aV bB mE cC D AA 6 0 0 (MQ bB (va_Qi (S := ((Nat → Int32) × (Nat → Nat → Int32))) (fun z u => z = nI (wov kd n c q b f) ∧ SP i u.1 ∧ SR r u.2) (fun u t => va_P D vwCl ((fun u => cW cI a u.1 u.2) u) t.heap) AA) aV sS 0 0 AA) 6 [(0, .ref (a 0)), (1, .int (nI q)), (2, .int (nI b)), (3, .int (nI f)), (4, .int (nI (hcv (fun v => homeb kd n (2 ^ n - 1) 6 (upN c (q - 1) v) f) b v))), (5, .int (nI v))] [] (cW cI a i' r') := by
    intro fu6
    induction fu6 with
    | zero => intro v i' r' hfu6; exact absurd hfu6 (Nat.not_lt_zero _)
    | succ fu6 ih6 =>
      intro v i' r' hfu6 hv10 hsp hsr
      refine z_iload C (pc := 6) dX3_leftAtWorst_6 rfl ?_
      refine z_bipush C (pc := 8) (v := 9) dX3_leftAtWorst_8 (by decide) ?_
      refine z_icmp_gt C (pc := 10) (tgt := 88) dX3_leftAtWorst_10 (by decide) (fun c_1 => ?_) (fun c_1 => ?_)
      · have hve : v = 10 := by
          have := Nat.lt_of_not_le (fun h => nI_nlt (a := 9) (b := v) h (by omega) c_1)
          omega
        subst hve
        have hle := hcv_le (fun v => homeb kd n (2 ^ n - 1) 6 (upN c (q - 1) v) f) b 10
        have hpc := pcn_le b
        refine z_iload C (pc := 88) dX3_leftAtWorst_88 rfl ?_
        refine z_iload_n C (pc := 90) dX3_leftAtWorst_90 rfl ?_
        refine z_calli C (isC := []) rfl (by exact fun _ => rfl) (runS C (wc := []) (pc := 91) (rY' := rm 0 0) (nn := 1) (As := [.int (nI b)]) (rest := [.int (nI (hcv (fun v => homeb kd n (2 ^ n - 1) 6 (upN c (q - 1) v) f) b 10))]) (c_bitCount l D cI tt (nI b)) rfl rfl ⟨rfl, rfl, ⟨Nat.le_of_ble_eq_true rfl, Nat.le_of_ble_eq_true rfl⟩, Nat.le_of_ble_eq_true rfl, Nat.le_of_ble_eq_true rfl⟩ wl_X3_187 ws_J6_bitCount_0f7a4 wi_J6 wc_J6_bitCount_0f7a4 (by decide +kernel) rfl rfl (Nat.le_of_ble_eq_true rfl) dX3_leftAtWorst_91) (fun r_2 u_2 h_2 => ?_)
        have h_2 : r_2 = nI (pcn b) := h_2.trans (bc_pcn _ hb10)
        subst h_2
        refine z_ws (st' := [.int (nI (pcn b)), .int (nI (hcv (fun v => homeb kd n (2 ^ n - 1) 6 (upN c (q - 1) v) f) b 10))]) (ws' := (cW cI a i' r')) rfl rfl ?_
        refine z_iload C (pc := 94) dX3_leftAtWorst_94 rfl ?_
        refine z_isub C (pc := 96) dX3_leftAtWorst_96 ?_
        refine z_mmax C (pc := 97) wl_X3_236 (Nat.le_of_ble_eq_true rfl) (Nat.le_of_ble_eq_true rfl) (Nat.zero_le _) (Nat.zero_le _) dX3_leftAtWorst_97 ?_
        refine z_iret C (pc := 100) (i', r') dX3_leftAtWorst_100 ?_ rfl
        refine ⟨?_, hsp, hsr⟩
        have e1 : nI (pcn b) - nI (hcv (fun v => homeb kd n (2 ^ n - 1) 6 (upN c (q - 1) v) f) b 10) = nI (pcn b - hcv (fun v => homeb kd n (2 ^ n - 1) 6 (upN c (q - 1) v) f) b 10) := pk_sub (show hcv (fun v => homeb kd n (2 ^ n - 1) 6 (upN c (q - 1) v) f) b 10 ≤ pcn b from hle)
        rw [e1]
        exact max_nI (by unfold pcn at hpc; omega) (by omega)
      · have hv9 : v ≤ 9 := Nat.le_of_not_lt (fun h => c_1 (nI_lt (a := 9) h (by omega)))
        refine z_iload_n C (pc := 13) dX3_leftAtWorst_13 rfl ?_
        refine z_iload C (pc := 14) dX3_leftAtWorst_14 rfl ?_
        refine z_ishr C (pc := 16) dX3_leftAtWorst_16 ?_
        refine z_iconst C (pc := 17) (v := 1) dX3_leftAtWorst_17 (by decide) ?_
        refine z_iand C (pc := 18) dX3_leftAtWorst_18 ?_
        refine z_iconst C (pc := 19) (v := 1) dX3_leftAtWorst_19 (by decide) ?_
        refine z_icmp_ne C (pc := 20) (tgt := 82) dX3_leftAtWorst_20 (by decide) (fun c_3 => ?_) (fun c_3 => ?_)
        · have hb := bt0 (by omega) (by omega) c_3
          have hno : ¬ (bt b v = 1 ∧ homeb kd n (2 ^ n - 1) 6 (upN c (q - 1) v) f = true) := fun h => by have := h.1; omega
          refine z_iinc C (pc := 82) (v := ((nI v) + 1)) (lv' := [(0, .ref (a 0)), (1, .int (nI q)), (2, .int (nI b)), (3, .int (nI f)), (4, .int (nI (hcv (fun v => homeb kd n (2 ^ n - 1) 6 (upN c (q - 1) v) f) b v))), (5, .int ((nI v) + 1))]) dX3_leftAtWorst_82 rfl rfl (Nat.le_of_ble_eq_true rfl) rfl rfl ?_
          refine z_goto C (pc := 85) (tgt := 6) dX3_leftAtWorst_85 (by decide) ?_
          refine z_lv (lv' := [(0, .ref (a 0)), (1, .int (nI q)), (2, .int (nI b)), (3, .int (nI f)), (4, .int (nI (hcv (fun v => homeb kd n (2 ^ n - 1) 6 (upN c (q - 1) v) f) b (v + 1)))), (5, .int (nI (v + 1)))]) ⟨rfl, rfl, rfl, rfl, lki (by rw [hcv_f (H := (fun v => homeb kd n (2 ^ n - 1) 6 (upN c (q - 1) v) f)) hno]), lki (nI_1 v), trivial⟩ ?_
          exact ih6 (v + 1) i' r' (by omega) (by omega) hsp hsr
        · have hb := bt1 (by omega) (by omega) c_3
          refine z_aload_n C (pc := 23) dX3_leftAtWorst_23 rfl ?_
          refine z_get C (pc := 24) 0 rfl rfl wf_X3 1 (by decide) rfl wl_X3_19 (v := .ref (a 3)) rfl dX3_leftAtWorst_24 ?_
          refine z_aload_n C (pc := 27) dX3_leftAtWorst_27 rfl ?_
          refine z_get C (pc := 28) 0 rfl rfl wf_X3 2 (by decide) rfl wl_X3_26 (v := .ref (a 6)) rfl dX3_leftAtWorst_28 ?_
          refine z_getN C (pc := 31) 6 rfl rfl wf_X2 1 (by decide) rfl wl_X3_77 (v := .ref (a 7)) rfl dX3_leftAtWorst_31 ?_
          refine z_callvF C (by exact fun _ => cW_ad) (runVN C (wc := (cW cI a i' r')) (pc := 34) (rY' := rm 2 44) (nn := 1) (As := [.ref (a 7)]) (rest := []) (c_setCairnsN l D cI tt a i' r') (full_hC _) (full_nd _) ⟨rfl, rfl, ⟨Nat.le_of_ble_eq_true rfl, Nat.le_of_ble_eq_true rfl⟩, Nat.le_of_ble_eq_true rfl, Nat.le_of_ble_eq_true rfl⟩ wl_X3_124 wm_X1_setCairns we_X1_setCairns wi_X1 wc_X1_setCairns (by decide +kernel) rfl 3 rfl rfl rfl rfl (Nat.le_of_ble_eq_true rfl) dX3_leftAtWorst_34) (fun u_4 h_4 => ?_)
          generalize u_4 = r4 at h_4 ⊢
          obtain ⟨g1, g2⟩ := h_4
          have hsr2 := hsr.tr g1
          have hc2 : ∀ k, k < 5 → r4 2 k = nI (c k) := fun k hk => (g2 k hk).trans ((congrFun (hsr 3 (by decide)) k).trans (hc k hk).1)
          refine z_ws (st' := []) (ws' := (cW cI a i' r4)) rfl rfl ?_
          refine z_aload_n C (pc := 37) dX3_leftAtWorst_37 rfl ?_
          refine z_get C (pc := 38) 0 rfl rfl wf_X3 1 (by decide) rfl wl_X3_19 (v := .ref (a 3)) rfl dX3_leftAtWorst_38 ?_
          refine z_getN C (pc := 41) 3 rfl rfl wf_X1 2 (by decide) rfl wl_X3_132 (v := .ref (a 5)) rfl dX3_leftAtWorst_41 ?_
          refine z_iload_n C (pc := 44) dX3_leftAtWorst_44 rfl ?_
          refine z_iconst C (pc := 45) (v := 1) dX3_leftAtWorst_45 (by decide) ?_
          refine z_isub C (pc := 46) dX3_leftAtWorst_46 ?_
          refine z_iload C (pc := 47) dX3_leftAtWorst_47 rfl ?_
          refine z_callv C (isC := [5]) rfl (by exact fun _ => rfl) (runS C (wc := [(a 5, .inl (cI, 5, .inl (r4 2)))]) (pc := 49) (rY' := rm 0 0) (nn := 3) (As := [.ref (a 5), .int ((nI q) - 1), .int (nI v)]) (rest := []) (c_put l D cI tt (a 5) 5 (r4 2) ((nI q) - 1) (nI v) (by decide)) rfl rfl ⟨rfl, rfl, ⟨Nat.le_of_ble_eq_true rfl, Nat.le_of_ble_eq_true rfl⟩, Nat.le_of_ble_eq_true rfl, Nat.le_of_ble_eq_true rfl⟩ wl_X3_66 ws_X3_put wi_X3 wc_X3_put (by decide +kernel) rfl rfl (Nat.le_of_ble_eq_true rfl) dX3_leftAtWorst_49) (fun u_5 h_5 => ?_)
          subst h_5
          refine z_ws (st' := []) (ws' := (cW cI a i' (va_up r4 2 (putv 5 (r4 2) ((nI q) - 1) (nI v))))) rfl rfl ?_
          have hv3 := hv.sp hsp (hsr2.up (v := putv 5 (r4 2) (nI q - 1) (nI v)))
          have hc3 : ∀ k, k < 5 → va_up r4 2 (putv 5 (r4 2) (nI q - 1) (nI v)) 2 k = nI (upN c (q - 1) v k) ∧ upN c (q - 1) v k ≤ 9 := fun k hk => ⟨by rw [vup_s]; exact put_up hq1 hq5 hc2 k hk, upN_le (fun k hk => (hc k hk).2) hv9 k hk⟩
          refine z_iload C (pc := 52) dX3_leftAtWorst_52 rfl ?_
          refine z_aload_n C (pc := 54) dX3_leftAtWorst_54 rfl ?_
          refine z_get C (pc := 55) 0 rfl rfl wf_X3 1 (by decide) rfl wl_X3_19 (v := .ref (a 3)) rfl dX3_leftAtWorst_55 ?_
          refine z_aload_n C (pc := 58) dX3_leftAtWorst_58 rfl ?_
          refine z_get C (pc := 59) 0 rfl rfl wf_X3 1 (by decide) rfl wl_X3_19 (v := .ref (a 3)) rfl dX3_leftAtWorst_59 ?_
          refine z_calliF C (by exact fun _ => cW_ad) (runVN C (wc := (cW cI a i' (va_up r4 2 (putv 5 (r4 2) ((nI q) - 1) (nI v))))) (pc := 62) (rY' := rm 0 0) (nn := 0) (As := []) (rest := [.ref (a 3), .int (nI (hcv (fun v => homeb kd n (2 ^ n - 1) 6 (upN c (q - 1) v) f) b v))]) (c_all l D cI tt a i' (va_up r4 2 (putv 5 (r4 2) ((nI q) - 1) (nI v))) n hv3.1 hn6) (full_hC _) (full_nd _) ⟨rfl, rfl, ⟨Nat.le_of_ble_eq_true rfl, Nat.le_of_ble_eq_true rfl⟩, Nat.le_of_ble_eq_true rfl, Nat.le_of_ble_eq_true rfl⟩ wl_X3_70 wm_X1_all we_X1_all wi_X1 wc_X1_all (by decide +kernel) rfl 3 rfl rfl rfl rfl (Nat.le_of_ble_eq_true rfl) dX3_leftAtWorst_62) (fun q_6 u_6 h_6 => ?_)
          subst h_6
          refine z_ws (st' := [.int (nI (2 ^ n - 1)), .ref (a 3), .int (nI (hcv (fun v => homeb kd n (2 ^ n - 1) 6 (upN c (q - 1) v) f) b v))]) (ws' := (cW cI a i' (va_up r4 2 (putv 5 (r4 2) ((nI q) - 1) (nI v))))) rfl rfl ?_
          refine z_bipush C (pc := 65) (v := 6) dX3_leftAtWorst_65 (by decide) ?_
          refine z_iload_n C (pc := 67) dX3_leftAtWorst_67 rfl ?_
          refine z_calliF C (by exact fun _ => cW_ad) (runVN C (wc := (cW cI a i' (va_up r4 2 (putv 5 (r4 2) ((nI q) - 1) (nI v))))) (pc := 68) (rY' := rm 3 67) (nn := 3) (As := [.int (nI (2 ^ n - 1)), .int 6, .int (nI f)]) (rest := [.int (nI (hcv (fun v => homeb kd n (2 ^ n - 1) 6 (upN c (q - 1) v) f) b v))]) (c_go l D cI tt a i' (va_up r4 2 (putv 5 (r4 2) ((nI q) - 1) (nI v))) kd n (2 ^ n - 1) 6 f hv3 (by have := Nat.pow_pos (n := n) (show 0 < 2 by decide); omega) (by decide) hf (upN c (q - 1) v) hc3) (full_hC _) (full_nd _) ⟨rfl, rfl, ⟨Nat.le_of_ble_eq_true rfl, Nat.le_of_ble_eq_true rfl⟩, Nat.le_of_ble_eq_true rfl, Nat.le_of_ble_eq_true rfl⟩ wl_X3_128 wm_X1_go we_X1_go wi_X1 wc_X1_go (by decide +kernel) rfl 3 rfl rfl rfl rfl (Nat.le_of_ble_eq_true rfl) dX3_leftAtWorst_68) (fun q_7 u_7 h_7 => ?_)
          obtain ⟨i7, r7⟩ := u_7
          try dsimp only at h_7
          obtain ⟨k0, k1, k2, -⟩ := h_7
          rw [mar_home] at k0
          refine z_ws (st' := [.int q_7, .int (nI (hcv (fun v => homeb kd n (2 ^ n - 1) 6 (upN c (q - 1) v) f) b v))]) (ws' := (cW cI a i7 r7)) rfl rfl ?_
          refine z_if_eq C (pc := 71) (tgt := 78) dX3_leftAtWorst_71 (by decide) (fun c_8 => ?_) (fun c_8 => ?_)
          · have hhf : homeb kd n (2 ^ n - 1) 6 (upN c (q - 1) v) f = false := b2_f (by rw [← k0]; exact c_8)
            have hno : ¬ (bt b v = 1 ∧ homeb kd n (2 ^ n - 1) 6 (upN c (q - 1) v) f = true) := fun h => by rw [hhf] at h; exact absurd h.2 (by decide)
            refine z_iconst C (pc := 78) (v := 0) dX3_leftAtWorst_78 (by decide) ?_
            refine z_iadd C (pc := 79) dX3_leftAtWorst_79 ?_
            refine z_istore C (pc := 80) (lv' := [(0, .ref (a 0)), (1, .int (nI q)), (2, .int (nI b)), (3, .int (nI f)), (4, .int ((nI (hcv (fun v => homeb kd n (2 ^ n - 1) 6 (upN c (q - 1) v) f) b v)) + 0)), (5, .int (nI v))]) dX3_leftAtWorst_80 (Nat.le_of_ble_eq_true rfl) rfl rfl ?_
            refine z_iinc C (pc := 82) (v := ((nI v) + 1)) (lv' := [(0, .ref (a 0)), (1, .int (nI q)), (2, .int (nI b)), (3, .int (nI f)), (4, .int ((nI (hcv (fun v => homeb kd n (2 ^ n - 1) 6 (upN c (q - 1) v) f) b v)) + 0)), (5, .int ((nI v) + 1))]) dX3_leftAtWorst_82 rfl rfl (Nat.le_of_ble_eq_true rfl) rfl rfl ?_
            refine z_goto C (pc := 85) (tgt := 6) dX3_leftAtWorst_85 (by decide) ?_
            refine z_lv (lv' := [(0, .ref (a 0)), (1, .int (nI q)), (2, .int (nI b)), (3, .int (nI f)), (4, .int (nI (hcv (fun v => homeb kd n (2 ^ n - 1) 6 (upN c (q - 1) v) f) b (v + 1)))), (5, .int (nI (v + 1)))]) ⟨rfl, rfl, rfl, rfl, lki (by rw [hcv_f (H := (fun v => homeb kd n (2 ^ n - 1) 6 (upN c (q - 1) v) f)) hno]; exact nI_add _ 0), lki (nI_1 v), trivial⟩ ?_
            exact ih6 (v + 1) i7 r7 (by omega) (by omega) (hsp.tr k1) (hsr2.up.tr k2)
          · have hho : homeb kd n (2 ^ n - 1) 6 (upN c (q - 1) v) f = true := b2_t (by rw [← k0]; exact c_8)
            refine z_iconst C (pc := 74) (v := 1) dX3_leftAtWorst_74 (by decide) ?_
            refine z_goto C (pc := 75) (tgt := 79) dX3_leftAtWorst_75 (by decide) ?_
            refine z_iadd C (pc := 79) dX3_leftAtWorst_79 ?_
            refine z_istore C (pc := 80) (lv' := [(0, .ref (a 0)), (1, .int (nI q)), (2, .int (nI b)), (3, .int (nI f)), (4, .int ((nI (hcv (fun v => homeb kd n (2 ^ n - 1) 6 (upN c (q - 1) v) f) b v)) + 1)), (5, .int (nI v))]) dX3_leftAtWorst_80 (Nat.le_of_ble_eq_true rfl) rfl rfl ?_
            refine z_iinc C (pc := 82) (v := ((nI v) + 1)) (lv' := [(0, .ref (a 0)), (1, .int (nI q)), (2, .int (nI b)), (3, .int (nI f)), (4, .int ((nI (hcv (fun v => homeb kd n (2 ^ n - 1) 6 (upN c (q - 1) v) f) b v)) + 1)), (5, .int ((nI v) + 1))]) dX3_leftAtWorst_82 rfl rfl (Nat.le_of_ble_eq_true rfl) rfl rfl ?_
            refine z_goto C (pc := 85) (tgt := 6) dX3_leftAtWorst_85 (by decide) ?_
            refine z_lv (lv' := [(0, .ref (a 0)), (1, .int (nI q)), (2, .int (nI b)), (3, .int (nI f)), (4, .int (nI (hcv (fun v => homeb kd n (2 ^ n - 1) 6 (upN c (q - 1) v) f) b (v + 1)))), (5, .int (nI (v + 1)))]) ⟨rfl, rfl, rfl, rfl, lki (by rw [hcv_t (H := (fun v => homeb kd n (2 ^ n - 1) 6 (upN c (q - 1) v) f)) hb hho]; exact nI_1 _), lki (nI_1 v), trivial⟩ ?_
            exact ih6 (v + 1) i7 r7 (by omega) (by omega) (hsp.tr k1) (hsr2.up.tr k2)
  refine z_lv (lv' := [(0, .ref (a 0)), (1, .int (nI q)), (2, .int (nI b)), (3, .int (nI f)), (4, .int (nI (hcv (fun v => homeb kd n (2 ^ n - 1) 6 (upN c (q - 1) v) f) b 0))), (5, .int (nI 0))]) ⟨rfl, rfl, rfl, rfl, rfl, rfl, trivial⟩ ?_
  exact key6 (_ + 1) 0 i r (Nat.lt_succ_self _) (Nat.zero_le _) SP.rf SR.rf
