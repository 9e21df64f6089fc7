theorem sub5 {L q : Nat} (hL : L ≤ 2560) (hq : q ≤ 2565) (h : ¬ nI L - 5 < nI q) : q + 5 ≤ L := by
  by_cases h5 : 5 ≤ L
  · rw [show nI L - 5 = nI (L - 5) from pk_sub (b := 5) h5, nI_ltI (by omega) (by omega)] at h
    omega
  · exfalso
    apply h
    rw [Int32.lt_iff_toInt_lt, nI_toInt (by omega)]
    have h4 : L = 0 ∨ L = 1 ∨ L = 2 ∨ L = 3 ∨ L = 4 := by omega
    rcases h4 with rfl | rfl | rfl | rfl | rfl
    · have e : (nI 0 - 5).toInt = -5 := by decide
      omega
    · have e : (nI 1 - 5).toInt = -4 := by decide
      omega
    · have e : (nI 2 - 5).toInt = -3 := by decide
      omega
    · have e : (nI 3 - 5).toInt = -2 := by decide
      omega
    · have e : (nI 4 - 5).toInt = -1 := by decide
      omega
/-- the loop's head -/
theorem lw_head {p : Program} {l : Launch} {e : Env} {s : State} {m : MethodId} {below : List Frame} {meth : Method} {c : Code} {D : va_G} {A : Nat → Prop} {Q : State → Prop} {cI : ClassId} {tt : Nat × Nat × Nat} {bb L : Nat} {xs : Nat → Int32} {a b : Nat → Nat} {q : Nat} (C : Cx p s m #[.ref bb] meth c RL cL_law 4 ret D cI tt A) (hX : va_X bb L xs s s.heap) (hbl : bb < s.heap.size) (hbA : ¬ A bb) (hL : L ≤ 2560) {ws : va_W} (hq : q ≤ 2565) (kt : Z p l e room_1 s m #[.ref bb] below meth c D A 4 29 257 Q 691 (lwv bb a b q) [] ws) (kf : q + 5 ≤ L → Z p l e room_1 s m #[.ref bb] below meth c D A 4 29 257 Q 26 (lwv bb a b q) [] ws) : Z p l e room_1 s m #[.ref bb] below meth c D A 4 29 257 Q 18 (lwv bb a b q) [] ws := by
  refine z_iload_n C (pc := 18) dL_law_18 rfl ?_
  refine z_aload_n C (pc := 19) dL_law_19 rfl ?_
  refine z_slen C (pc := 20) hX hbl hbA dL_law_20 ?_
  refine z_iconst C (pc := 21) (v := 5) dL_law_21 (by decide) ?_
  refine z_isub C (pc := 22) dL_law_22 ?_
  exact z_icmp_gt C (pc := 23) (tgt := 691) dL_law_23 rfl (fun _ => kt) (fun h => kf (sub5 hL hq h))
/-- the loop's end -/
theorem lw_tail {p : Program} {l : Launch} {e : Env} {s : State} {m : MethodId} {below : List Frame} {meth : Method} {c : Code} {D : va_G} {A : Nat → Prop} {Q : State → Prop} {cI : ClassId} {tt : Nat × Nat × Nat} {bb : Nat} {a b : Nat → Nat} {q : Nat} (C : Cx p s m #[.ref bb] meth c RL cL_law 4 ret D cI tt A) {ws : va_W} (k : Z p l e room_1 s m #[.ref bb] below meth c D A 4 29 257 Q 18 (lwv bb a b (q + 5)) [] ws) : Z p l e room_1 s m #[.ref bb] below meth c D A 4 29 257 Q 685 (lwv bb a b q) [] ws := by
  refine z_iinc C (pc := 685) (v := nI (q + 5)) (lv' := lwv bb a b (q + 5)) dL_law_685 rfl (nI_add q 5) (by decide) rfl rfl ?_
  exact z_goto C (pc := 688) (tgt := 18) dL_law_688 rfl k
set_option maxHeartbeats 1000000 in
/-- one round -/
theorem lw_round {p : Program} {l : Launch} {e : Env} {s : State} {m : MethodId} {below : List Frame} {meth : Method} {c : Code} {D : va_G} {A : Nat → Prop} {Q : State → Prop} {cI : ClassId} {tt : Nat × Nat × Nat} {bb L : Nat} {xs : Nat → Int32} {a b : Nat → Nat} {q : Nat} (C : Cx p s m #[.ref bb] meth c RL cL_law 4 ret D cI tt A) (hX : va_X bb L xs s s.heap) (hbl : bb < s.heap.size) (hbA : ¬ A bb) (hL : L ≤ 2560) (hq : q + 5 ≤ L) (z : SG) (i : Nat → Int32) (r : Nat → Nat → Int32) (i2 : Nat → Int32) (r2 : Nat → Nat → Int32) (h : Int64) (hz : Cls z i r) (hm : Mdl z i2 r2) (vz : VS z) (hb : z.1 1 ≤ q) (kk : LwGo p l e s m below meth c D A Q cI bb a b q z) : Z p l e room_1 s m #[.ref bb] below meth c D A 4 29 257 Q 26 (lwv bb a b q) [] (cW cI a i r ++ mW cI b i2 r2 h) := by
  refine z_aload_n C (pc := 26) dL_law_26 rfl ?_
  refine z_iload_n C (pc := 27) dL_law_27 rfl ?_
  refine z_sld C (pc := 28) hX hbl hbA hL (by omega) dL_law_28 ?_
  refine z_bipush C (pc := 29) (v := 31) dL_law_29 (by decide) ?_
  refine z_iand C (pc := 31) dL_law_31 ?_
  refine z_topi (fun w _ => ?_)
  by_cases g1 : w.toInt < 0
  · exact z_tableOut C (pc := 32) (tgt := 685) dL_law_32 (Or.inl g1) rfl (kk _ _ _ _ _ _ hz hm vz (Nat.le_succ _))
  by_cases g2 : 19 < w.toInt
  · exact z_tableOut C (pc := 32) (tgt := 685) dL_law_32 (Or.inr g2) rfl (kk _ _ _ _ _ _ hz hm vz (Nat.le_succ _))
  have g3 : w.toInt = 0 ∨ w.toInt = 1 ∨ w.toInt = 2 ∨ w.toInt = 3 ∨ w.toInt = 4 ∨ w.toInt = 5 ∨ w.toInt = 6 ∨ w.toInt = 7 ∨ w.toInt = 8 ∨ w.toInt = 9 ∨ w.toInt = 10 ∨ w.toInt = 11 ∨ w.toInt = 12 ∨ w.toInt = 13 ∨ w.toInt = 14 ∨ w.toInt = 15 ∨ w.toInt = 16 ∨ w.toInt = 17 ∨ w.toInt = 18 ∨ w.toInt = 19 := by omega
  rcases g3 with g3 | g3 | g3 | g3 | g3 | g3 | g3 | g3 | g3 | g3 | g3 | g3 | g3 | g3 | g3 | g3 | g3 | g3 | g3 | g3
  · exact z_tableIn C (pc := 32) (tgt := 128) dL_law_32 g1 g2 (by rw [g3]; rfl) rfl (lw_letter C hX hbl hbA hL hq z i r i2 r2 h hz hm vz hb kk)
  · exact z_tableIn C (pc := 32) (tgt := 151) dL_law_32 g1 g2 (by rw [g3]; rfl) rfl (lw_blank C hX hbl hbA hL hq z i r i2 r2 h hz hm vz hb kk)
  · exact z_tableIn C (pc := 32) (tgt := 164) dL_law_32 g1 g2 (by rw [g3]; rfl) rfl (lw_fault C hX hbl hbA hL hq z i r i2 r2 h hz hm vz hb kk)
  · exact z_tableIn C (pc := 32) (tgt := 177) dL_law_32 g1 g2 (by rw [g3]; rfl) rfl (lw_camp C hX hbl hbA hL hq z i r i2 r2 h hz hm vz hb kk)
  · exact z_tableIn C (pc := 32) (tgt := 190) dL_law_32 g1 g2 (by rw [g3]; rfl) rfl (lw_member C hX hbl hbA hL hq z i r i2 r2 h hz hm vz hb kk)
  · exact z_tableIn C (pc := 32) (tgt := 223) dL_law_32 g1 g2 (by rw [g3]; rfl) rfl (lw_as C hX hbl hbA hL hq z i r i2 r2 h hz hm vz hb kk)
  · exact z_tableIn C (pc := 32) (tgt := 256) dL_law_32 g1 g2 (by rw [g3]; rfl) rfl (lw_cairn C hX hbl hbA hL hq z i r i2 r2 h hz hm vz hb kk)
  · exact z_tableIn C (pc := 32) (tgt := 289) dL_law_32 g1 g2 (by rw [g3]; rfl) rfl (lw_lay C hX hbl hbA hL hq z i r i2 r2 h hz hm vz hb kk)
  · exact z_tableIn C (pc := 32) (tgt := 322) dL_law_32 g1 g2 (by rw [g3]; rfl) rfl (lw_march C hX hbl hbA hL hq z i r i2 r2 h hz hm vz hb kk)
  · exact z_tableIn C (pc := 32) (tgt := 365) dL_law_32 g1 g2 (by rw [g3]; rfl) rfl (lw_would C hX hbl hbA hL hq z i r i2 r2 h hz hm vz hb kk)
  · exact z_tableIn C (pc := 32) (tgt := 418) dL_law_32 g1 g2 (by rw [g3]; rfl) rfl (lw_need C hX hbl hbA hL hq z i r i2 r2 h hz hm vz hb kk)
  · exact z_tableIn C (pc := 32) (tgt := 451) dL_law_32 g1 g2 (by rw [g3]; rfl) rfl (lw_far C hX hbl hbA hL hq z i r i2 r2 h hz hm vz hb kk)
  · exact z_tableIn C (pc := 32) (tgt := 474) dL_law_32 g1 g2 (by rw [g3]; rfl) rfl (lw_team C hX hbl hbA hL hq z i r i2 r2 h hz hm vz hb kk)
  · exact z_tableIn C (pc := 32) (tgt := 497) dL_law_32 g1 g2 (by rw [g3]; rfl) rfl (lw_hear C hX hbl hbA hL hq z i r i2 r2 h hz hm vz hb kk)
  · exact z_tableIn C (pc := 32) (tgt := 566) dL_law_32 g1 g2 (by rw [g3]; rfl) rfl (lw_forget C hX hbl hbA hL hq z i r i2 r2 h hz hm vz hb kk)
  · exact z_tableIn C (pc := 32) (tgt := 579) dL_law_32 g1 g2 (by rw [g3]; rfl) rfl (lw_winters C hX hbl hbA hL hq z i r i2 r2 h hz hm vz hb kk)
  · exact z_tableIn C (pc := 32) (tgt := 622) dL_law_32 g1 g2 (by rw [g3]; rfl) rfl (lw_image C hX hbl hbA hL hq z i r i2 r2 h hz hm vz hb kk)
  · exact z_tableIn C (pc := 32) (tgt := 635) dL_law_32 g1 g2 (by rw [g3]; rfl) rfl (lw_restore C hX hbl hbA hL hq z i r i2 r2 h hz hm vz hb kk)
  · exact z_tableIn C (pc := 32) (tgt := 648) dL_law_32 g1 g2 (by rw [g3]; rfl) rfl (lw_count C hX hbl hbA hL hq z i r i2 r2 h hz hm vz hb kk)
  · exact z_tableIn C (pc := 32) (tgt := 671) dL_law_32 g1 g2 (by rw [g3]; rfl) rfl (lw_digest C hX hbl hbA hL hq z i r i2 r2 h hz hm vz hb kk)
theorem lw_loop {p : Program} {l : Launch} {e : Env} {s : State} {m : MethodId} {below : List Frame} {meth : Method} {c : Code} {D : va_G} {A : Nat → Prop} {Q : State → Prop} {cI : ClassId} {tt : Nat × Nat × Nat} {bb L : Nat} {xs : Nat → Int32} {a b : Nat → Nat} (C : Cx p s m #[.ref bb] meth c RL cL_law 4 ret D cI tt A) (hX : va_X bb L xs s s.heap) (hbl : bb < s.heap.size) (hbA : ¬ A bb) (hL : L ≤ 2560) (hend : ∀ (q : Nat) (ws : va_W), Z p l e room_1 s m #[.ref bb] below meth c D A 4 29 257 Q 691 (lwv bb a b q) [] ws) : ∀ (n q : Nat), L ≤ q + 5 * n → q ≤ 2565 → ∀ (z : SG) (i : Nat → Int32) (r : Nat → Nat → Int32) (i2 : Nat → Int32) (r2 : Nat → Nat → Int32) (h : Int64), Cls z i r → Mdl z i2 r2 → VS z → z.1 1 ≤ q → Z p l e room_1 s m #[.ref bb] below meth c D A 4 29 257 Q 18 (lwv bb a b q) [] (cW cI a i r ++ mW cI b i2 r2 h)
  | 0, q, h1, h2, z, i, r, i2, r2, h, hz, hm, vz, hb => lw_head C hX hbl hbA hL h2 (hend q _) (fun hq => absurd hq (by omega))
  | n + 1, q, h1, h2, z, i, r, i2, r2, h, hz, hm, vz, hb => lw_head C hX hbl hbA hL h2 (hend q _) (fun hq => lw_round C hX hbl hbA hL hq z i r i2 r2 h hz hm vz hb
      (fun z' i' r' i2' r2' h' hz' hm' vz' hb' => lw_tail C (lw_loop C hX hbl hbA hL hend n (q + 5) (by omega) (by omega) z' i' r' i2' r2' h' hz' hm' vz' (by omega))))
