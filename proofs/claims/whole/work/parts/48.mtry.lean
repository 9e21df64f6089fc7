theorem hcv_b {H : Nat → Bool} {b v : Nat} (h : H v = true) : hcv H b (v + 1) = hcv H b v + bt b v := by
  rcases bt_01 b v with e | e
  · rw [hcv_f (fun q => by rw [e] at q; exact absurd q.1 (by decide)), e]; rfl
  · rw [hcv_t e h, e]
theorem one_sum {b v : Nat} (hb : b < 1024) (hv : v < 10) : nI (sumk (fun _ => 1) (fun _ => 0) b v) + ((nI b >>> (nI v &&& 31)) &&& 1) = nI (sumk (fun _ => 1) (fun _ => 0) b (v + 1)) := by
  rw [shr_bt (by omega) (by omega), nI_add]
  simp [sumk]
set_option maxHeartbeats 4000000 in
set_option maxRecDepth 100000 in
theorem m_tryOf (l : Launch) (D : va_G) (cI : ClassId) (tt : Nat × Nat × Nat) (b : Nat → Nat) (i : Nat → Int32) (r : Nat → Nat → Int32) (h : Int64) (kd : Nat → Nat) (n : Nat) (hv : PVm i r kd n) (c : Nat → Nat) (hc : ∀ k, k < 5 → r 2 (k + 1) = nI (c k) ∧ c k ≤ 9) (hn : Nat) (hm hs hf hh : Nat → Nat) (hh0 : HVm i r n hn hm hs hf hh) (q : Nat) (hq1 : 1 ≤ q) (hq5 : q < 6) (B : Nat) (hB : B = (layv kd n c hn hm hs hf hh q)) : MetI (S := ((Nat → Int32) × (Nat → Nat → Int32))) l yX4_tryOf cX4_tryOf 9 (some .int) (rm 8 188) D cI tt [.ref (b 0), .int (nI q)] (mW cI b i r h) (fun z u => z = tryv kd n c q B ∧ SPm i u.1 ∧ SQm r u.2) (fun u => mW cI b u.1 u.2 h) := by
  have hn6 := hv.2.1
  have hx6 := pow_le6 hn6
  have hb10 : B < 1024 := by rw [hB]; exact lyv_lt _ 10
  refine met_ofI (by decide) (Nat.le_of_ble_eq_true rfl) ?_
  intro pP eE sS mM aV bB mE cC AA C hin
  refine z_conv (lv' := [(0, .ref (b 0)), (1, .int (nI q))]) ⟨rfl, rfl, trivial⟩ rfl rfl ?_
  refine z_aload_n C (pc := 0) dX4_tryOf_0 rfl ?_
  refine z_iload_n C (pc := 1) dX4_tryOf_1 rfl ?_
  refine z_calliF C (by exact fun _ => mW_ad) (runV C (wc := (mW cI b i r h)) (pc := 2) (rY' := rm 7 162) (nn := 1) (As := [.int (nI q)]) (rest := []) (m_layOf l D cI tt b i r h kd n hv c hc hn hm hs hf hh hh0 q hq1 hq5) (full_hC _) (full_nd _) ⟨rfl, rfl, ⟨Nat.le_of_ble_eq_true rfl, Nat.le_of_ble_eq_true rfl⟩, Nat.le_of_ble_eq_true rfl, Nat.le_of_ble_eq_true rfl⟩ wl_X4_111 wm_X4_layOf we_X4_layOf wi_X4 wc_X4_layOf (by decide +kernel) rfl 0 rfl rfl rfl rfl (Nat.le_of_ble_eq_true rfl) dX4_tryOf_2) (fun q_1 u_1 h_1 => ?_)
  obtain ⟨i1, r1⟩ := u_1
  try dsimp only at h_1
  obtain ⟨k0, k1, k2, k3⟩ := h_1
  rw [← hB] at k0
  subst k0
  refine z_ws (st' := [.int (nI B)]) (ws' := (mW cI b i1 r1 h)) rfl rfl ?_
  refine z_istore_n C (pc := 5) (lv' := [(0, .ref (b 0)), (1, .int (nI q)), (2, .int (nI B))]) dX4_tryOf_5 (Nat.le_of_ble_eq_true rfl) rfl rfl ?_
  refine z_iconst C (pc := 6) (v := (-1)) dX4_tryOf_6 (by decide) ?_
  refine z_istore_n C (pc := 7) (lv' := [(0, .ref (b 0)), (1, .int (nI q)), (2, .int (nI B)), (3, .int (-1))]) dX4_tryOf_7 (Nat.le_of_ble_eq_true rfl) rfl rfl ?_
  refine z_bipush C (pc := 8) (v := 11) dX4_tryOf_8 (by decide) ?_
  refine z_istore C (pc := 10) (lv' := [(0, .ref (b 0)), (1, .int (nI q)), (2, .int (nI B)), (3, .int (-1)), (4, .int 11)]) dX4_tryOf_10 (Nat.le_of_ble_eq_true rfl) rfl rfl ?_
  refine z_iconst C (pc := 12) (v := 0) dX4_tryOf_12 (by decide) ?_
  refine z_istore C (pc := 13) (lv' := [(0, .ref (b 0)), (1, .int (nI q)), (2, .int (nI B)), (3, .int (-1)), (4, .int 11), (5, .int 0)]) dX4_tryOf_13 (Nat.le_of_ble_eq_true rfl) rfl rfl ?_
  have key15 : ∀ (fu15 : Nat) (f : Nat) (i' : Nat → Int32) (r' : Nat → Nat → Int32), 41 - f < fu15 → (f ≤ 41) → (B = 0 → f = 0) → (SPm i i') → (SQm r r') → (OCm r' c q) → Z pP l eE (rm 8 188) sS mM aV bB mE cC D AA 9 0 0 (MQ bB (va_Qi (S := ((Nat → Int32) × (Nat → Nat → Int32))) (fun z u => z = tryv kd n c q B ∧ SPm i u.1 ∧ SQm r u.2) (fun u t => va_P D vwCl ((fun u => mW cI b u.1 u.2 h) u) t.heap) AA) aV sS 0 0 AA) 15 [(0, .ref (b 0)), (1, .int (nI q)), (2, .int (nI B)), (3, .int ((trv (wov kd n c q B) 11 f).1)), (4, .int (nI (trv (wov kd n c q B) 11 f).2)), (5, .int (nI f))] [] (mW cI b i' r' h) := by
    intro fu15
    induction fu15 with
    | zero => intro f i' r' hfu15; exact absurd hfu15 (Nat.not_lt_zero _)
    | succ fu15 ih15 =>
      intro f i' r' hfu15 hf41 hb0 hsp hsr hoc
      refine z_iload C (pc := 15) dX4_tryOf_15 rfl ?_
      refine z_bipush C (pc := 17) (v := 41) dX4_tryOf_17 (by decide) ?_
      refine z_icmp_ge C (pc := 19) (tgt := 163) dX4_tryOf_19 (by decide) (fun c_2 => ?_) (fun c_2 => ?_)
      · have hfe : f = 41 := by
          have := ge_of_nI (n := 41) c_2 (by decide)
          omega
        refine z_iload_n C (pc := 163) dX4_tryOf_163 rfl ?_
        refine z_iret C (pc := 164) (i', r') dX4_tryOf_164 ?_ rfl
        have hbn : B ≠ 0 := fun e => by have := hb0 e; omega
        subst hfe
        exact ⟨by unfold tryv; rw [if_neg hbn], hsp, hsr⟩
      · have hf40 : f < 41 := lt_of_nI (n := 41) c_2 (by omega)
        refine z_iload_n C (pc := 22) dX4_tryOf_22 rfl ?_
        refine z_if_eq C (pc := 23) (tgt := 163) dX4_tryOf_23 (by decide) (fun c_3 => ?_) (fun c_3 => ?_)
        · have hbz : B = 0 := nI_z (by omega) c_3
          have hfz := hb0 hbz
          subst hfz
          refine z_iload_n C (pc := 163) dX4_tryOf_163 rfl ?_
          refine z_iret C (pc := 164) (i', r') dX4_tryOf_164 ?_ rfl
          exact ⟨by unfold tryv; rw [if_pos hbz]; rfl, hsp, hsr⟩
        · have hbn : B ≠ 0 := nI_nz c_3
          refine z_iconst C (pc := 26) (v := 0) dX4_tryOf_26 (by decide) ?_
          refine z_istore C (pc := 27) (lv' := [(0, .ref (b 0)), (1, .int (nI q)), (2, .int (nI B)), (3, .int ((trv (wov kd n c q B) 11 f).1)), (4, .int (nI (trv (wov kd n c q B) 11 f).2)), (5, .int (nI f)), (6, .int 0)]) dX4_tryOf_27 (Nat.le_of_ble_eq_true rfl) rfl rfl ?_
          refine z_iconst C (pc := 29) (v := 0) dX4_tryOf_29 (by decide) ?_
          refine z_istore C (pc := 30) (lv' := [(0, .ref (b 0)), (1, .int (nI q)), (2, .int (nI B)), (3, .int ((trv (wov kd n c q B) 11 f).1)), (4, .int (nI (trv (wov kd n c q B) 11 f).2)), (5, .int (nI f)), (6, .int 0), (7, .int 0)]) dX4_tryOf_30 (Nat.le_of_ble_eq_true rfl) rfl rfl ?_
          refine z_iconst C (pc := 32) (v := 0) dX4_tryOf_32 (by decide) ?_
          refine z_istore C (pc := 33) (lv' := [(0, .ref (b 0)), (1, .int (nI q)), (2, .int (nI B)), (3, .int ((trv (wov kd n c q B) 11 f).1)), (4, .int (nI (trv (wov kd n c q B) 11 f).2)), (5, .int (nI f)), (6, .int 0), (7, .int 0), (8, .int 0)]) dX4_tryOf_33 (Nat.le_of_ble_eq_true rfl) rfl rfl ?_
          have key35 : ∀ (fu35 : Nat) (v : Nat) (i2 : Nat → Int32) (r2 : Nat → Nat → Int32), 10 - v < fu35 → (v ≤ 10) → (SPm i i2) → (SQm r r2) → (OCm r2 c q) → Z pP l eE (rm 8 188) sS mM aV bB mE cC D AA 9 0 0 (MQ bB (va_Qi (S := ((Nat → Int32) × (Nat → Nat → Int32))) (fun z u => z = tryv kd n c q B ∧ SPm i u.1 ∧ SQm r u.2) (fun u t => va_P D vwCl ((fun u => mW cI b u.1 u.2 h) u) t.heap) AA) aV sS 0 0 AA) 35 [(0, .ref (b 0)), (1, .int (nI q)), (2, .int (nI B)), (3, .int ((trv (wov kd n c q B) 11 f).1)), (4, .int (nI (trv (wov kd n c q B) 11 f).2)), (5, .int (nI f)), (6, .int (nI (hcv (fun v => homeb kd n (2 ^ n - 1) 6 (upN c (q - 1) v) f) B v))), (7, .int (nI (sumk (fun _ => 1) (fun _ => 0) B v))), (8, .int (nI v))] [] (mW cI b i2 r2 h) := by
            intro fu35
            induction fu35 with
            | zero => intro v i2 r2 hfu35; exact absurd hfu35 (Nat.not_lt_zero _)
            | succ fu35 ih35 =>
              intro v i2 r2 hfu35 hv10 hsp2 hsr2 ho2
              refine z_iload C (pc := 35) dX4_tryOf_35 rfl ?_
              refine z_bipush C (pc := 37) (v := 10) dX4_tryOf_37 (by decide) ?_
              refine z_icmp_ge C (pc := 39) (tgt := 105) dX4_tryOf_39 (by decide) (fun c_4 => ?_) (fun c_4 => ?_)
              · have hve : v = 10 := by
                  have := ge_of_nI (n := 10) c_4 (by decide)
                  omega
                subst hve
                have hle : hcv (fun v => homeb kd n (2 ^ n - 1) 6 (upN c (q - 1) v) f) B 10 ≤ pcn B := hcv_le _ B 10
                have hpc := pcn_le B
                have hwf : ∀ g, (wov kd n c q B) g ≤ 11 := fun g => Nat.le_trans wov_le (by omega)
                have htl := trv_b (w := (wov kd n c q B)) (l := 11) (B := 11) (Nat.le_refl _) hwf f
                have hwf0 := hwf f
                refine z_lv (lv' := [(0, .ref (b 0)), (1, .int (nI q)), (2, .int (nI B)), (3, .int ((trv (wov kd n c q B) 11 f).1)), (4, .int (nI (trv (wov kd n c q B) 11 f).2)), (5, .int (nI f)), (6, .int (nI (hcv (fun v => homeb kd n (2 ^ n - 1) 6 (upN c (q - 1) v) f) B 10))), (7, .int (nI (pcn B))), (8, .int (nI 10))]) ⟨rfl, rfl, rfl, rfl, rfl, rfl, rfl, rfl, rfl, trivial⟩ ?_
                refine z_iload C (pc := 105) dX4_tryOf_105 rfl ?_
                refine z_iload C (pc := 107) dX4_tryOf_107 rfl ?_
                refine z_iload C (pc := 109) dX4_tryOf_109 rfl ?_
                refine z_isub C (pc := 111) dX4_tryOf_111 ?_
                refine z_seti (y := nI (pcn B - (hcv (fun v => homeb kd n (2 ^ n - 1) 6 (upN c (q - 1) v) f) B 10))) (pk_sub hle) ?_
                refine z_icmp_le C (pc := 112) (tgt := 120) dX4_tryOf_112 (by decide) (fun c_5 => ?_) (fun c_5 => ?_)
                · refine z_iload C (pc := 120) dX4_tryOf_120 rfl ?_
                  refine z_iload C (pc := 122) dX4_tryOf_122 rfl ?_
                  refine z_isub C (pc := 124) dX4_tryOf_124 ?_
                  refine z_seti (y := nI (pcn B - (hcv (fun v => homeb kd n (2 ^ n - 1) 6 (upN c (q - 1) v) f) B 10))) (pk_sub hle) ?_
                  refine z_istore C (pc := 125) (lv' := [(0, .ref (b 0)), (1, .int (nI q)), (2, .int (nI B)), (3, .int ((trv (wov kd n c q B) 11 f).1)), (4, .int (nI (trv (wov kd n c q B) 11 f).2)), (5, .int (nI f)), (6, .int (nI (hcv (fun v => homeb kd n (2 ^ n - 1) 6 (upN c (q - 1) v) f) B 10))), (7, .int (nI (pcn B))), (8, .int (nI (pcn B - (hcv (fun v => homeb kd n (2 ^ n - 1) 6 (upN c (q - 1) v) f) B 10))))]) dX4_tryOf_125 (Nat.le_of_ble_eq_true rfl) rfl rfl ?_
                  refine z_lv (lv' := [(0, .ref (b 0)), (1, .int (nI q)), (2, .int (nI B)), (3, .int ((trv (wov kd n c q B) 11 f).1)), (4, .int (nI (trv (wov kd n c q B) 11 f).2)), (5, .int (nI f)), (8, .int (nI ((wov kd n c q B) f)))]) ⟨rfl, rfl, rfl, rfl, rfl, rfl, lki (by show nI _ = nI (max _ _); rw [Nat.max_eq_right (Nat.le_of_not_lt (fun e => i_nlt.mpr c_5 (nI_lt e (by omega))))]), trivial⟩ ?_
                  refine z_iload C (pc := 127) dX4_tryOf_127 rfl ?_
                  refine z_iload C (pc := 129) dX4_tryOf_129 rfl ?_
                  refine z_icmp_ge C (pc := 131) (tgt := 139) dX4_tryOf_131 (by decide) (fun c_6 => ?_) (fun c_6 => ?_)
                  · have hno : ¬ (wov kd n c q B) f < (trv (wov kd n c q B) 11 f).2 := fun e => nI_ge e (by omega) c_6
                    refine z_iload_n C (pc := 139) dX4_tryOf_139 rfl ?_
                    refine z_istore_n C (pc := 140) (lv' := [(0, .ref (b 0)), (1, .int (nI q)), (2, .int (nI B)), (3, .int ((trv (wov kd n c q B) 11 f).1)), (4, .int (nI (trv (wov kd n c q B) 11 f).2)), (5, .int (nI f)), (8, .int (nI ((wov kd n c q B) f)))]) dX4_tryOf_140 (Nat.le_of_ble_eq_true rfl) rfl rfl ?_
                    refine z_iload C (pc := 141) dX4_tryOf_141 rfl ?_
                    refine z_iload C (pc := 143) dX4_tryOf_143 rfl ?_
                    refine z_icmp_ge C (pc := 145) (tgt := 153) dX4_tryOf_145 (by decide) (fun c_7 => ?_) (fun c_7 => ?_)
                    · refine z_iload C (pc := 153) dX4_tryOf_153 rfl ?_
                      refine z_istore C (pc := 155) (lv' := [(0, .ref (b 0)), (1, .int (nI q)), (2, .int (nI B)), (3, .int ((trv (wov kd n c q B) 11 f).1)), (4, .int (nI (trv (wov kd n c q B) 11 f).2)), (5, .int (nI f)), (8, .int (nI ((wov kd n c q B) f)))]) dX4_tryOf_155 (Nat.le_of_ble_eq_true rfl) rfl rfl ?_
                      refine z_iinc C (pc := 157) (v := ((nI f) + 1)) (lv' := [(0, .ref (b 0)), (1, .int (nI q)), (2, .int (nI B)), (3, .int ((trv (wov kd n c q B) 11 f).1)), (4, .int (nI (trv (wov kd n c q B) 11 f).2)), (5, .int ((nI f) + 1)), (8, .int (nI ((wov kd n c q B) f)))]) dX4_tryOf_157 rfl rfl (Nat.le_of_ble_eq_true rfl) rfl rfl ?_
                      refine z_goto C (pc := 160) (tgt := 15) dX4_tryOf_160 (by decide) ?_
                      refine z_lv (lv' := [(0, .ref (b 0)), (1, .int (nI q)), (2, .int (nI B)), (3, .int ((trv (wov kd n c q B) 11 (f + 1)).1)), (4, .int (nI (trv (wov kd n c q B) 11 (f + 1)).2)), (5, .int (nI (f + 1)))]) ⟨rfl, rfl, rfl, lki (by rw [trv_n hno]), lki (by rw [trv_n hno]), lki (nI_1 f), trivial⟩ ?_
                      exact ih15 (f + 1) i2 r2 (by omega) (by omega) (fun e => absurd e hbn) hsp2 hsr2 ho2
                    · exact absurd (lt_of_nI c_7 (by omega)) hno
                  · have hlt : (wov kd n c q B) f < (trv (wov kd n c q B) 11 f).2 := lt_of_nI c_6 (by omega)
                    refine z_iload C (pc := 134) dX4_tryOf_134 rfl ?_
                    refine z_goto C (pc := 136) (tgt := 140) dX4_tryOf_136 (by decide) ?_
                    refine z_istore_n C (pc := 140) (lv' := [(0, .ref (b 0)), (1, .int (nI q)), (2, .int (nI B)), (3, .int (nI f)), (4, .int (nI (trv (wov kd n c q B) 11 f).2)), (5, .int (nI f)), (8, .int (nI ((wov kd n c q B) f)))]) dX4_tryOf_140 (Nat.le_of_ble_eq_true rfl) rfl rfl ?_
                    refine z_iload C (pc := 141) dX4_tryOf_141 rfl ?_
                    refine z_iload C (pc := 143) dX4_tryOf_143 rfl ?_
                    refine z_icmp_ge C (pc := 145) (tgt := 153) dX4_tryOf_145 (by decide) (fun c_8 => ?_) (fun c_8 => ?_)
                    · exact absurd c_8 (nI_ge hlt (by omega))
                    · refine z_iload C (pc := 148) dX4_tryOf_148 rfl ?_
                      refine z_goto C (pc := 150) (tgt := 155) dX4_tryOf_150 (by decide) ?_
                      refine z_istore C (pc := 155) (lv' := [(0, .ref (b 0)), (1, .int (nI q)), (2, .int (nI B)), (3, .int (nI f)), (4, .int (nI ((wov kd n c q B) f))), (5, .int (nI f)), (8, .int (nI ((wov kd n c q B) f)))]) dX4_tryOf_155 (Nat.le_of_ble_eq_true rfl) rfl rfl ?_
                      refine z_iinc C (pc := 157) (v := ((nI f) + 1)) (lv' := [(0, .ref (b 0)), (1, .int (nI q)), (2, .int (nI B)), (3, .int (nI f)), (4, .int (nI ((wov kd n c q B) f))), (5, .int ((nI f) + 1)), (8, .int (nI ((wov kd n c q B) f)))]) dX4_tryOf_157 rfl rfl (Nat.le_of_ble_eq_true rfl) rfl rfl ?_
                      refine z_goto C (pc := 160) (tgt := 15) dX4_tryOf_160 (by decide) ?_
                      refine z_lv (lv' := [(0, .ref (b 0)), (1, .int (nI q)), (2, .int (nI B)), (3, .int ((trv (wov kd n c q B) 11 (f + 1)).1)), (4, .int (nI (trv (wov kd n c q B) 11 (f + 1)).2)), (5, .int (nI (f + 1)))]) ⟨rfl, rfl, rfl, lki (by rw [trv_s hlt]), lki (by rw [trv_s hlt]), lki (nI_1 f), trivial⟩ ?_
                      exact ih15 (f + 1) i2 r2 (by omega) (by omega) (fun e => absurd e hbn) hsp2 hsr2 ho2
                · refine z_iload C (pc := 115) dX4_tryOf_115 rfl ?_
                  refine z_goto C (pc := 117) (tgt := 125) dX4_tryOf_117 (by decide) ?_
                  refine z_istore C (pc := 125) (lv' := [(0, .ref (b 0)), (1, .int (nI q)), (2, .int (nI B)), (3, .int ((trv (wov kd n c q B) 11 f).1)), (4, .int (nI (trv (wov kd n c q B) 11 f).2)), (5, .int (nI f)), (6, .int (nI (hcv (fun v => homeb kd n (2 ^ n - 1) 6 (upN c (q - 1) v) f) B 10))), (7, .int (nI (pcn B))), (8, .int (nI (hcv (fun v => homeb kd n (2 ^ n - 1) 6 (upN c (q - 1) v) f) B 10)))]) dX4_tryOf_125 (Nat.le_of_ble_eq_true rfl) rfl rfl ?_
                  refine z_lv (lv' := [(0, .ref (b 0)), (1, .int (nI q)), (2, .int (nI B)), (3, .int ((trv (wov kd n c q B) 11 f).1)), (4, .int (nI (trv (wov kd n c q B) 11 f).2)), (5, .int (nI f)), (8, .int (nI ((wov kd n c q B) f)))]) ⟨rfl, rfl, rfl, rfl, rfl, rfl, lki (by show nI _ = nI (max _ _); rw [Nat.max_eq_left (Nat.le_of_not_lt (fun e => c_5 (nI_le (Nat.le_of_lt e) (by omega))))]), trivial⟩ ?_
                  refine z_iload C (pc := 127) dX4_tryOf_127 rfl ?_
                  refine z_iload C (pc := 129) dX4_tryOf_129 rfl ?_
                  refine z_icmp_ge C (pc := 131) (tgt := 139) dX4_tryOf_131 (by decide) (fun c_9 => ?_) (fun c_9 => ?_)
                  · have hno : ¬ (wov kd n c q B) f < (trv (wov kd n c q B) 11 f).2 := fun e => nI_ge e (by omega) c_9
                    refine z_iload_n C (pc := 139) dX4_tryOf_139 rfl ?_
                    refine z_istore_n C (pc := 140) (lv' := [(0, .ref (b 0)), (1, .int (nI q)), (2, .int (nI B)), (3, .int ((trv (wov kd n c q B) 11 f).1)), (4, .int (nI (trv (wov kd n c q B) 11 f).2)), (5, .int (nI f)), (8, .int (nI ((wov kd n c q B) f)))]) dX4_tryOf_140 (Nat.le_of_ble_eq_true rfl) rfl rfl ?_
                    refine z_iload C (pc := 141) dX4_tryOf_141 rfl ?_
                    refine z_iload C (pc := 143) dX4_tryOf_143 rfl ?_
                    refine z_icmp_ge C (pc := 145) (tgt := 153) dX4_tryOf_145 (by decide) (fun c_10 => ?_) (fun c_10 => ?_)
                    · refine z_iload C (pc := 153) dX4_tryOf_153 rfl ?_
                      refine z_istore C (pc := 155) (lv' := [(0, .ref (b 0)), (1, .int (nI q)), (2, .int (nI B)), (3, .int ((trv (wov kd n c q B) 11 f).1)), (4, .int (nI (trv (wov kd n c q B) 11 f).2)), (5, .int (nI f)), (8, .int (nI ((wov kd n c q B) f)))]) dX4_tryOf_155 (Nat.le_of_ble_eq_true rfl) rfl rfl ?_
                      refine z_iinc C (pc := 157) (v := ((nI f) + 1)) (lv' := [(0, .ref (b 0)), (1, .int (nI q)), (2, .int (nI B)), (3, .int ((trv (wov kd n c q B) 11 f).1)), (4, .int (nI (trv (wov kd n c q B) 11 f).2)), (5, .int ((nI f) + 1)), (8, .int (nI ((wov kd n c q B) f)))]) dX4_tryOf_157 rfl rfl (Nat.le_of_ble_eq_true rfl) rfl rfl ?_
                      refine z_goto C (pc := 160) (tgt := 15) dX4_tryOf_160 (by decide) ?_
                      refine z_lv (lv' := [(0, .ref (b 0)), (1, .int (nI q)), (2, .int (nI B)), (3, .int ((trv (wov kd n c q B) 11 (f + 1)).1)), (4, .int (nI (trv (wov kd n c q B) 11 (f + 1)).2)), (5, .int (nI (f + 1)))]) ⟨rfl, rfl, rfl, lki (by rw [trv_n hno]), lki (by rw [trv_n hno]), lki (nI_1 f), trivial⟩ ?_
                      exact ih15 (f + 1) i2 r2 (by omega) (by omega) (fun e => absurd e hbn) hsp2 hsr2 ho2
                    · exact absurd (lt_of_nI c_10 (by omega)) hno
                  · have hlt : (wov kd n c q B) f < (trv (wov kd n c q B) 11 f).2 := lt_of_nI c_9 (by omega)
                    refine z_iload C (pc := 134) dX4_tryOf_134 rfl ?_
                    refine z_goto C (pc := 136) (tgt := 140) dX4_tryOf_136 (by decide) ?_
                    refine z_istore_n C (pc := 140) (lv' := [(0, .ref (b 0)), (1, .int (nI q)), (2, .int (nI B)), (3, .int (nI f)), (4, .int (nI (trv (wov kd n c q B) 11 f).2)), (5, .int (nI f)), (8, .int (nI ((wov kd n c q B) f)))]) dX4_tryOf_140 (Nat.le_of_ble_eq_true rfl) rfl rfl ?_
                    refine z_iload C (pc := 141) dX4_tryOf_141 rfl ?_
                    refine z_iload C (pc := 143) dX4_tryOf_143 rfl ?_
                    refine z_icmp_ge C (pc := 145) (tgt := 153) dX4_tryOf_145 (by decide) (fun c_11 => ?_) (fun c_11 => ?_)
                    · exact absurd c_11 (nI_ge hlt (by omega))
                    · refine z_iload C (pc := 148) dX4_tryOf_148 rfl ?_
                      refine z_goto C (pc := 150) (tgt := 155) dX4_tryOf_150 (by decide) ?_
                      refine z_istore C (pc := 155) (lv' := [(0, .ref (b 0)), (1, .int (nI q)), (2, .int (nI B)), (3, .int (nI f)), (4, .int (nI ((wov kd n c q B) f))), (5, .int (nI f)), (8, .int (nI ((wov kd n c q B) f)))]) dX4_tryOf_155 (Nat.le_of_ble_eq_true rfl) rfl rfl ?_
                      refine z_iinc C (pc := 157) (v := ((nI f) + 1)) (lv' := [(0, .ref (b 0)), (1, .int (nI q)), (2, .int (nI B)), (3, .int (nI f)), (4, .int (nI ((wov kd n c q B) f))), (5, .int ((nI f) + 1)), (8, .int (nI ((wov kd n c q B) f)))]) dX4_tryOf_157 rfl rfl (Nat.le_of_ble_eq_true rfl) rfl rfl ?_
                      refine z_goto C (pc := 160) (tgt := 15) dX4_tryOf_160 (by decide) ?_
                      refine z_lv (lv' := [(0, .ref (b 0)), (1, .int (nI q)), (2, .int (nI B)), (3, .int ((trv (wov kd n c q B) 11 (f + 1)).1)), (4, .int (nI (trv (wov kd n c q B) 11 (f + 1)).2)), (5, .int (nI (f + 1)))]) ⟨rfl, rfl, rfl, lki (by rw [trv_s hlt]), lki (by rw [trv_s hlt]), lki (nI_1 f), trivial⟩ ?_
                      exact ih15 (f + 1) i2 r2 (by omega) (by omega) (fun e => absurd e hbn) hsp2 hsr2 ho2
              · have hv9 : v < 10 := lt_of_nI (n := 10) c_4 (by omega)
                refine z_aload_n C (pc := 42) dX4_tryOf_42 rfl ?_
                refine z_get C (pc := 43) 0 rfl rfl wf_X4 17 (by decide) rfl wl_X4_25 (v := .ref (b 6)) rfl dX4_tryOf_43 ?_
                refine z_iload_n C (pc := 46) dX4_tryOf_46 rfl ?_
                refine z_iload C (pc := 47) dX4_tryOf_47 rfl ?_
                have h_12 : vp_in (nI q) 7 := by exact vp_in_nI (by omega) (by decide)
                refine z_iast C (pc := 49) 6 rfl h_12 (ws' := (mW cI b i2 (va_up r2 5 (upd (r2 5) (nI q).toNatClampNeg (nI v))) h)) rfl dX4_tryOf_49 ?_
                refine z_iload C (pc := 50) dX4_tryOf_50 rfl ?_
                refine z_iload_n C (pc := 52) dX4_tryOf_52 rfl ?_
                refine z_iload C (pc := 53) dX4_tryOf_53 rfl ?_
                refine z_ishr C (pc := 55) dX4_tryOf_55 ?_
                refine z_iconst C (pc := 56) (v := 1) dX4_tryOf_56 (by decide) ?_
                refine z_iand C (pc := 57) dX4_tryOf_57 ?_
                refine z_iadd C (pc := 58) dX4_tryOf_58 ?_
                refine z_seti (y := nI (sumk (fun _ => 1) (fun _ => 0) B (v + 1))) (one_sum (by omega) hv9) ?_
                refine z_istore C (pc := 59) (lv' := [(0, .ref (b 0)), (1, .int (nI q)), (2, .int (nI B)), (3, .int ((trv (wov kd n c q B) 11 f).1)), (4, .int (nI (trv (wov kd n c q B) 11 f).2)), (5, .int (nI f)), (6, .int (nI (hcv (fun v => homeb kd n (2 ^ n - 1) 6 (upN c (q - 1) v) f) B v))), (7, .int (nI (sumk (fun _ => 1) (fun _ => 0) B (v + 1)))), (8, .int (nI v))]) dX4_tryOf_59 (Nat.le_of_ble_eq_true rfl) rfl rfl ?_
                refine z_iload C (pc := 61) dX4_tryOf_61 rfl ?_
                refine z_aload_n C (pc := 63) dX4_tryOf_63 rfl ?_
                refine z_iconst C (pc := 64) (v := 1) dX4_tryOf_64 (by decide) ?_
                refine z_aload_n C (pc := 65) dX4_tryOf_65 rfl ?_
                refine z_get C (pc := 66) 0 rfl rfl wf_X4 3 (by decide) rfl wl_X4_69 (v := .int (i2 3)) rfl dX4_tryOf_66 ?_
                refine z_ishl C (pc := 69) dX4_tryOf_69 ?_
                refine z_iconst C (pc := 70) (v := 1) dX4_tryOf_70 (by decide) ?_
                refine z_isub C (pc := 71) dX4_tryOf_71 ?_
                refine z_seti (y := nI (2 ^ n - 1)) (by rw [(hsp2 3 (by omega)).trans hv.1]; exact one_shl n hn6) ?_
                refine z_bipush C (pc := 72) (v := 6) dX4_tryOf_72 (by decide) ?_
                refine z_iload C (pc := 74) dX4_tryOf_74 rfl ?_
                have hc3 : ∀ k, k < 5 → (va_up r2 5 (upd (r2 5) (nI q).toNatClampNeg (nI v))) 5 (k + 1) = nI (upN c (q - 1) v k) ∧ upN c (q - 1) v k ≤ 9 := fun k hk => ⟨by rw [vup_s, nI_clamp (by omega)]; exact ocm_up ho2 hq1 k hk, upN_le (fun k hk => (hc k hk).2) (by omega) k hk⟩
                refine z_aload_n C (pc := 76) dX4_tryOf_76 rfl ?_
                refine z_get C (pc := 77) 0 rfl rfl wf_X4 17 (by decide) rfl wl_X4_25 (v := .ref (b 6)) rfl dX4_tryOf_77 ?_
                refine z_calliF C (by exact fun _ => mW_ad) (runV C (wc := (mW cI b i2 (va_up r2 5 (upd (r2 5) (nI q).toNatClampNeg (nI v))) h)) (pc := 80) (rY' := rm 6 138) (nn := 4) (As := [.int (nI (2 ^ n - 1)), .int 6, .int (nI f), .ref (b 6)]) (rest := [.int (nI (hcv (fun v => homeb kd n (2 ^ n - 1) 6 (upN c (q - 1) v) f) B v))]) (m_comesHomeO l D cI tt b i2 (va_up r2 5 (upd (r2 5) (nI q).toNatClampNeg (nI v))) h kd n (hv.sq hsp2 hsr2.up) (2 ^ n - 1) 6 f (by have := Nat.pow_pos (n := n) (show 0 < 2 by decide); omega) (by decide) (by omega) (upN c (q - 1) v) hc3 (by decide)) (full_hC _) (full_nd _) ⟨rfl, rfl, ⟨Nat.le_of_ble_eq_true rfl, Nat.le_of_ble_eq_true rfl⟩, Nat.le_of_ble_eq_true rfl, Nat.le_of_ble_eq_true rfl⟩ wl_X4_184 wm_X4_comesHome we_X4_comesHome wi_X4 wc_X4_comesHome (by decide +kernel) rfl 0 rfl rfl rfl rfl (Nat.le_of_ble_eq_true rfl) dX4_tryOf_80) (fun q_13 u_13 h_13 => ?_)
                obtain ⟨i13, r13⟩ := u_13
                try dsimp only at h_13
                obtain ⟨k0, k1, k2⟩ := h_13
                refine z_ws (st' := [.int q_13, .int (nI (hcv (fun v => homeb kd n (2 ^ n - 1) 6 (upN c (q - 1) v) f) B v))]) (ws' := (mW cI b i13 r13 h)) rfl rfl ?_
                refine z_seti (y := (b2 (homeb kd n (2 ^ n - 1) 6 (upN c (q - 1) v) f))) k0 ?_
                refine z_if_eq C (pc := 83) (tgt := 95) dX4_tryOf_83 (by decide) (fun c_14 => ?_) (fun c_14 => ?_)
                · have hH := b2_f c_14
                  refine z_iconst C (pc := 95) (v := 0) dX4_tryOf_95 (by decide) ?_
                  refine z_iadd C (pc := 96) dX4_tryOf_96 ?_
                  refine z_istore C (pc := 97) (lv' := [(0, .ref (b 0)), (1, .int (nI q)), (2, .int (nI B)), (3, .int ((trv (wov kd n c q B) 11 f).1)), (4, .int (nI (trv (wov kd n c q B) 11 f).2)), (5, .int (nI f)), (6, .int ((nI (hcv (fun v => homeb kd n (2 ^ n - 1) 6 (upN c (q - 1) v) f) B v)) + 0)), (7, .int (nI (sumk (fun _ => 1) (fun _ => 0) B (v + 1)))), (8, .int (nI v))]) dX4_tryOf_97 (Nat.le_of_ble_eq_true rfl) rfl rfl ?_
                  refine z_iinc C (pc := 99) (v := ((nI v) + 1)) (lv' := [(0, .ref (b 0)), (1, .int (nI q)), (2, .int (nI B)), (3, .int ((trv (wov kd n c q B) 11 f).1)), (4, .int (nI (trv (wov kd n c q B) 11 f).2)), (5, .int (nI f)), (6, .int ((nI (hcv (fun v => homeb kd n (2 ^ n - 1) 6 (upN c (q - 1) v) f) B v)) + 0)), (7, .int (nI (sumk (fun _ => 1) (fun _ => 0) B (v + 1)))), (8, .int ((nI v) + 1))]) dX4_tryOf_99 rfl rfl (Nat.le_of_ble_eq_true rfl) rfl rfl ?_
                  refine z_goto C (pc := 102) (tgt := 35) dX4_tryOf_102 (by decide) ?_
                  refine z_lv (lv' := [(0, .ref (b 0)), (1, .int (nI q)), (2, .int (nI B)), (3, .int ((trv (wov kd n c q B) 11 f).1)), (4, .int (nI (trv (wov kd n c q B) 11 f).2)), (5, .int (nI f)), (6, .int (nI (hcv (fun v => homeb kd n (2 ^ n - 1) 6 (upN c (q - 1) v) f) B (v + 1)))), (7, .int (nI (sumk (fun _ => 1) (fun _ => 0) B (v + 1)))), (8, .int (nI (v + 1)))]) ⟨rfl, rfl, rfl, rfl, rfl, rfl, lki (by rw [hcv_f (H := (fun v => homeb kd n (2 ^ n - 1) 6 (upN c (q - 1) v) f)) (fun e => by rw [hH] at e; exact absurd e.2 (by decide))]; exact nI_add _ 0), rfl, lki (nI_1 v), trivial⟩ ?_
                  exact ih35 (v + 1) i13 r13 (by omega) (by omega) (hsp2.tr k1) (hsr2.up.tr k2.q) (ocm_of (fun k hk => (congrFun (k2 5 (by decide)) (k + 1)).trans (hc3 k hk).1))
                · have hH := b2_t c_14
                  refine z_iload_n C (pc := 86) dX4_tryOf_86 rfl ?_
                  refine z_iload C (pc := 87) dX4_tryOf_87 rfl ?_
                  refine z_ishr C (pc := 89) dX4_tryOf_89 ?_
                  refine z_iconst C (pc := 90) (v := 1) dX4_tryOf_90 (by decide) ?_
                  refine z_iand C (pc := 91) dX4_tryOf_91 ?_
                  refine z_goto C (pc := 92) (tgt := 96) dX4_tryOf_92 (by decide) ?_
                  refine z_iadd C (pc := 96) dX4_tryOf_96 ?_
                  refine z_istore C (pc := 97) (lv' := [(0, .ref (b 0)), (1, .int (nI q)), (2, .int (nI B)), (3, .int ((trv (wov kd n c q B) 11 f).1)), (4, .int (nI (trv (wov kd n c q B) 11 f).2)), (5, .int (nI f)), (6, .int ((nI (hcv (fun v => homeb kd n (2 ^ n - 1) 6 (upN c (q - 1) v) f) B v)) + (((nI B) >>> ((nI v) &&& 31)) &&& 1))), (7, .int (nI (sumk (fun _ => 1) (fun _ => 0) B (v + 1)))), (8, .int (nI v))]) dX4_tryOf_97 (Nat.le_of_ble_eq_true rfl) rfl rfl ?_
                  refine z_iinc C (pc := 99) (v := ((nI v) + 1)) (lv' := [(0, .ref (b 0)), (1, .int (nI q)), (2, .int (nI B)), (3, .int ((trv (wov kd n c q B) 11 f).1)), (4, .int (nI (trv (wov kd n c q B) 11 f).2)), (5, .int (nI f)), (6, .int ((nI (hcv (fun v => homeb kd n (2 ^ n - 1) 6 (upN c (q - 1) v) f) B v)) + (((nI B) >>> ((nI v) &&& 31)) &&& 1))), (7, .int (nI (sumk (fun _ => 1) (fun _ => 0) B (v + 1)))), (8, .int ((nI v) + 1))]) dX4_tryOf_99 rfl rfl (Nat.le_of_ble_eq_true rfl) rfl rfl ?_
                  refine z_goto C (pc := 102) (tgt := 35) dX4_tryOf_102 (by decide) ?_
                  refine z_lv (lv' := [(0, .ref (b 0)), (1, .int (nI q)), (2, .int (nI B)), (3, .int ((trv (wov kd n c q B) 11 f).1)), (4, .int (nI (trv (wov kd n c q B) 11 f).2)), (5, .int (nI f)), (6, .int (nI (hcv (fun v => homeb kd n (2 ^ n - 1) 6 (upN c (q - 1) v) f) B (v + 1)))), (7, .int (nI (sumk (fun _ => 1) (fun _ => 0) B (v + 1)))), (8, .int (nI (v + 1)))]) ⟨rfl, rfl, rfl, rfl, rfl, rfl, lki (by rw [hcv_b (H := (fun v => homeb kd n (2 ^ n - 1) 6 (upN c (q - 1) v) f)) hH, shr_bt (by omega) (by omega), nI_add]), rfl, lki (nI_1 v), trivial⟩ ?_
                  exact ih35 (v + 1) i13 r13 (by omega) (by omega) (hsp2.tr k1) (hsr2.up.tr k2.q) (ocm_of (fun k hk => (congrFun (k2 5 (by decide)) (k + 1)).trans (hc3 k hk).1))
          refine z_lv (lv' := [(0, .ref (b 0)), (1, .int (nI q)), (2, .int (nI B)), (3, .int ((trv (wov kd n c q B) 11 f).1)), (4, .int (nI (trv (wov kd n c q B) 11 f).2)), (5, .int (nI f)), (6, .int (nI (hcv (fun v => homeb kd n (2 ^ n - 1) 6 (upN c (q - 1) v) f) B 0))), (7, .int (nI (sumk (fun _ => 1) (fun _ => 0) B 0))), (8, .int (nI 0))]) ⟨rfl, rfl, rfl, rfl, rfl, rfl, rfl, rfl, rfl, trivial⟩ ?_
          exact key35 (_ + 1) 0 i' r' (Nat.lt_succ_self _) (Nat.zero_le _) hsp hsr hoc
  refine z_lv (lv' := [(0, .ref (b 0)), (1, .int (nI q)), (2, .int (nI B)), (3, .int ((trv (wov kd n c q B) 11 0).1)), (4, .int (nI (trv (wov kd n c q B) 11 0).2)), (5, .int (nI 0))]) ⟨rfl, rfl, rfl, rfl, rfl, rfl, trivial⟩ ?_
  exact key15 (_ + 1) 0 i1 r1 (Nat.lt_succ_self _) (Nat.zero_le _) (fun _ => rfl) k1 k2 k3

set_option maxHeartbeats 4000000 in
set_option maxRecDepth 100000 in
theorem m_draw (l : Launch) (D : va_G) (cI : ClassId) (tt : Nat × Nat × Nat) (b : Nat → Nat) (i : Nat → Int32) (r : Nat → Nat → Int32) (h : Int64) (t : Nat) (ht : t < 2147483648) (hti : i 18 = nI t) : MetI (S := Unit) l yX4_draw cX4_draw 2 (some .int) (rm 0 0) D cI tt [.ref (b 0), .int 3] (mW cI b i r h) (fun z _ => z = nI (crn (nxt t))) (fun _ => mW cI b (upd i 18 (nI (nxt t))) r h) := by
  have hnx := nxt_lt t
  refine met_ofI (by decide) (Nat.le_of_ble_eq_true rfl) ?_
  intro pP eE sS mM aV bB mE cC AA C hin
  refine z_conv (lv' := [(0, .ref (b 0)), (1, .int 3)]) ⟨rfl, rfl, trivial⟩ rfl rfl ?_
  refine z_aload_n C (pc := 0) dX4_draw_0 rfl ?_
  refine z_ldc2 C (pc := 1) (v := 1103515245) wl_X4_205 dX4_draw_1 ?_
  refine z_aload_n C (pc := 4) dX4_draw_4 rfl ?_
  refine z_get C (pc := 5) 0 rfl rfl wf_X4 18 (by decide) rfl wl_X4_207 (v := .int (i 18)) rfl dX4_draw_5 ?_
  refine z_i2l C (pc := 8) dX4_draw_8 ?_
  refine z_lmul C (pc := 9) dX4_draw_9 ?_
  refine z_ldc2 C (pc := 10) (v := 12345) wl_X4_210 dX4_draw_10 ?_
  refine z_ladd C (pc := 13) dX4_draw_13 ?_
  refine z_ldc2 C (pc := 14) (v := 2147483647) wl_X4_212 dX4_draw_14 ?_
  refine z_land C (pc := 17) dX4_draw_17 ?_
  refine z_l2i C (pc := 18) dX4_draw_18 ?_
  refine z_seti (y := nI (nxt t)) (by rw [hti]; exact draw_l ht) ?_
  refine z_put C (pc := 19) 0 rfl rfl wf_X4 18 (by decide) rfl tyX4 tyX4_ok nmX4 rfl rfl rfl (Nat.le_of_ble_eq_true rfl) (ws' := (mW cI b (upd i 18 (nI (nxt t))) r h)) rfl wl_X4_207 dX4_draw_19 ?_
  refine z_aload_n C (pc := 22) dX4_draw_22 rfl ?_
  refine z_get C (pc := 23) 0 rfl rfl wf_X4 18 (by decide) rfl wl_X4_207 (v := .int (nI (nxt t))) rfl dX4_draw_23 ?_
  refine z_ldc C (pc := 26) (v := 65536) wl_X4_214 dX4_draw_26 ?_
  refine z_idiv C (pc := 28) dX4_draw_28 (by decide) ?_
  refine z_seti (y := nI (nxt t / 65536)) (div_65536 hnx) ?_
  refine z_iload_n C (pc := 29) dX4_draw_29 rfl ?_
  refine z_irem C (pc := 30) dX4_draw_30 (by decide) ?_
  refine z_seti (y := nI (crn (nxt t))) (by
    rw [show (3 : Int32) = nI 3 from rfl]
    exact pk_rem (a := nxt t / 65536) (d := 3) (by omega) (by decide) (by decide)) ?_
  refine z_iret C (pc := 31) () dX4_draw_31 ?_ rfl
  rfl
