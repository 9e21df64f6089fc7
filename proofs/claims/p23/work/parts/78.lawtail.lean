section ZNL
variable {p : Program} {l : Launch} {e : Env} {R : Room} {s : State} {m : MethodId} {args : Array Value} {below : List Frame} {meth : Method} {c : Code} {D : va_G} {A : Nat → Prop} {n ce sl mc ms : Nat} {Q : State → Prop} {own : String} {cc : ByteArray} {rt : Option FieldType} {cI : ClassId} {tt : Nat × Nat × Nat} {pc : Nat} {lv : List (Nat × Value)} {st : List Value} {ws : va_W}
/-- a call that makes cells, of a world that stands first -/
theorem z_calliNL {S : Type} {post : Int32 → S → Prop} {wf : S → va_W} {wa wb : va_W} {st0 rest : List Value} (C : Cx p s m args meth c own cc n rt D cI tt A) (he : ∀ u, (wf u).map (·.1) = wa.map (·.1)) (hr : RunsN p l e R s m args below meth c D A n ce sl mc ms pc st0 rest (wa ++ wb) wa (fun sz => va_Qi post (fun u t => va_P D vwCl (wf u) t.heap) (va_A wa sz)))
    (kk : ∀ (r : Int32) (u : S), post r u → Z p l e R s m args below meth c D A n (ce + mc) (sl + ms) Q (pc + 3) lv (.int r :: rest) (wf u ++ wb)) : Z p l e R s m args below meth c D A n ce sl Q pc lv st0 (wa ++ wb) := fun H locs ls h1 h2 h3 h4 => by
  obtain ⟨a, hr⟩ := hr H locs ls h1 h2 h3 h4.1
  have hF := va_free h2 h3 C.2.2.2.2.2.2.2.2.2.2 _ (apL_hC wa wb)
  refine va_calli hr h3 (fun q _ h => hF q h) hF (fun r u t H1 locs1 ht hvm hw hB hz1 hk1 hS => ?_)
  have hB1 : va_P D vwCl (wf u) H1 := by rw [← ht]; exact hB
  have hDa : va_D (va_A wa H.size) (wf u) := va_D_addr (h2.sub _ (full_nd wa) (apL_hC wa wb)).self (he u)
  obtain ⟨g1, g2⟩ := va_join (wr := wb) h1 h2 (List.range wa.length) (apR wa wb) (apL_hC wa wb) (apR_hC wa wb) (apR_nd wa wb) (apR_L wa wb) hk1 hF hB1 hDa
  exact kk r u hw H1 locs1 ls (va_P_swap g1) (va_D_swap g2) hS h4
end ZNL
/-! refusals -/
theorem tl_mem1 {z : SG} (h6 : z.1 4 ≤ 6) : noMember z (nI (z.1 4)) = true := by
  unfold noMember
  rw [decide_eq_false (p := nI (z.1 4) < nI (z.1 4)) (nI_nlt (Nat.le_refl _) (by omega))]
  simp
theorem tl_mem2 {z : SG} : noMember z (-1) = true := by
  unfold noMember
  rw [decide_eq_true (show (-1 : Int32) < 0 by decide)]
  rfl
theorem tl_mem3 {z : SG} (h2 : 2 ≤ z.1 4) (h6 : z.1 4 ≤ 6) : memberF z (nI 0) (nI 5) = -102 := (mem_in h6 (by omega) _).trans (by unfold tellF; rw [if_neg (by decide), if_neg (by decide), if_neg (by decide), if_neg (by decide), if_neg (by decide)])
theorem tl_as2 {z : SG} (h2 : 2 ≤ z.1 4) (h6 : z.1 4 ≤ 6) : asF z (nI 0) (nI 5) = -102 := by
  unfold asF
  rw [noMb_in h6 (by omega), if_neg (by decide), if_pos (by decide)]
theorem tl_c0 {n : Nat} : noCairn n (nI 0) = true := by
  unfold noCairn
  rw [decide_eq_true (show nI 0 < 1 by decide)]
  rfl
theorem tl_c6 {n : Nat} : noCairn n (nI 6) = true := by
  unfold noCairn
  rw [decide_eq_false (show ¬ nI 6 ≤ 5 by decide)]
  simp
theorem tl_c13 {z : SG} (h2 : 2 ≤ z.1 4) : cairnF z (nI 1) (nI 3) = -102 := by
  unfold cairnF
  rw [noC_in (by omega) (by decide) (by decide), if_neg (by decide), if_neg (by decide), if_neg (by decide), if_neg (by decide)]
theorem tl_lay {z : SG} {f : Int32} (h2 : 2 ≤ z.1 4) (hf : f < 0 ∨ ¬ f ≤ 9) : layF z (nI 1) f = (-102, z) := by
  unfold layF
  rw [noC_in (by omega) (by decide) (by decide), if_neg (by decide), if_pos hf]
theorem tl_m0 {n : Nat} {y f : Int32} : noMarch n (nI 0) y f = true := by
  unfold noMarch noPeople
  rw [decide_eq_true (show nI 0 < 1 by decide)]
  rfl
theorem tl_mA {n : Nat} {y f : Int32} (h6 : n ≤ 6) : noMarch n (nI (2 ^ n)) y f = true := by
  have hp := pow_le6 h6
  have h1 := Nat.two_pow_pos n
  unfold noMarch noPeople
  rw [decide_eq_false (p := nI (2 ^ n) ≤ nI (2 ^ n - 1)) (nI_ge (by omega) (by omega))]
  simp
theorem tl_mS {n : Nat} {x y f : Int32} (h : noStage y = true) : noMarch n x y f = true := by
  unfold noMarch
  rw [h]
  simp
theorem tl_mF {n : Nat} {x y f : Int32} (h : noFood f = true) : noMarch n x y f = true := by
  unfold noMarch
  rw [h]
  simp
theorem shl_2 : ∀ n, n ≤ 6 → 1 <<< (nI n &&& 31) = nI (2 ^ n) := by decide +kernel
/-! as -/
def asv (t q k : Nat) : Int32 := if isOfv (nI t) (nI q) = 0 then -1 else nI k
theorem isOf_all : ∀ t, t < 5 → ∀ q, q < 5 → (isOfv (nI t) (nI q) = 0 ↔ ¬ (q = 0 ∨ q = t ∨ (q = 2 ∧ t = 4))) := by decide +kernel
theorem asv_y {t q k : Nat} (ht : t ≤ 4) (hq : q < 5) (h : q = 0 ∨ q = t ∨ (q = 2 ∧ t = 4)) : asv t q k = nI k := if_neg (fun e => (isOf_all t (by omega) q hq).mp e h)
theorem asv_n {t q k : Nat} (ht : t ≤ 4) (hq : q < 5) (h : ¬ (q = 0 ∨ q = t ∨ (q = 2 ∧ t = 4))) : asv t q k = -1 := if_pos ((isOf_all t (by omega) q hq).mpr h)
theorem as_in {z : SG} {k q : Nat} (h6 : z.1 4 ≤ 6) (hk : k < z.1 4) (hq : q < 5) : asF z (nI k) (nI q) = asv (z.2.1 1 k) q k := by
  unfold asF asv
  rw [noMb_in h6 hk, if_neg (by decide), if_neg (fun h => h.elim (nI_pos (by omega)) (fun h => h (nI_lt (b := 5) hq (by decide)))), tn_nI (by omega)]
/-! would -/
theorem would_in {z : SG} {x st f : Nat} {w : Int32} (h6 : z.1 4 ≤ 6) (h1 : 1 ≤ x) (hx : x < 2 ^ z.1 4) (s1 : 1 ≤ st) (s6 : st ≤ 6) (hf : f ≤ 40) (w0 : ¬ w < 0) (w3 : w ≤ 3) (hd : deadv (nI x) (nI (z.1 5)) = 0) : wouldF z (nI x) (nI st) (nI f) w = tellM (marS z x st f) w := by
  have hp := pow_le6 h6
  have e : ¬ (noMarch (z.1 4) (nI x) (nI st) (nI f) = true ∨ w < 0 ∨ ¬ w ≤ 3) := by
    rw [noM_in h6 h1 hx s1 s6 hf]
    rintro (h | h | h)
    · exact absurd h (by decide)
    · exact w0 h
    · exact h w3
  unfold wouldF
  rw [if_neg e, if_neg (fun h => h hd), tn_nI (by omega), tn_nI (by omega), tn_nI (by omega)]
theorem would_out {z : SG} {x st f : Nat} {w : Int32} (h6 : z.1 4 ≤ 6) (h1 : 1 ≤ x) (hx : x < 2 ^ z.1 4) (s1 : 1 ≤ st) (s6 : st ≤ 6) (hf : f ≤ 40) (w0 : ¬ w < 0) (w3 : w ≤ 3) (hd : ¬ deadv (nI x) (nI (z.1 5)) = 0) : wouldF z (nI x) (nI st) (nI f) w = -103 := by
  have e : ¬ (noMarch (z.1 4) (nI x) (nI st) (nI f) = true ∨ w < 0 ∨ ¬ w ≤ 3) := by
    rw [noM_in h6 h1 hx s1 s6 hf]
    rintro (h | h | h)
    · exact absurd h (by decide)
    · exact w0 h
    · exact h w3
  unfold wouldF
  rw [if_neg e, if_pos hd]
set_option maxHeartbeats 4000000 in
set_option maxRecDepth 100000 in
theorem lw_tail {pP : Program} {l : Launch} {eE : Env} {sS : State} {mM : MethodId} {aV : Array Value} {bB : List Frame} {mE : Method} {cC : Code} {D : va_G} {AA : Nat → Prop} {QQ : State → Prop} {cI : ClassId} {tt : Nat × Nat × Nat} {bb L : Nat} {xs : Nat → Int32} {a : Nat → Nat} {ab ad ac ar aT : Nat} {fb ft : Nat → Int32} (C : Cx pP sS mM aV mE cC RL cL_law 15 ret D cI tt AA) (hX : va_X bb L xs sS sS.heap) (hbl : bb < sS.heap.size) (hbA : ¬ AA bb) (hL : L ≤ 260) (z : SG) (i : Nat → Int32) (r : Nat → Nat → Int32) (fd fc fr : Nat → Int32) (hz : Cls z i r) (vz : VS z) (hl : LI z fb fd) (w : Int32) (hend : ∀ (lv : List (Nat × Value)) (ws : va_W), Z pP l eE room_1 sS mM aV bB mE cC D AA 15 76 636 QQ 817 lv [] ws) : Z pP l eE room_1 sS mM aV bB mE cC D AA 15 (72) (600) QQ 493 [(0, .ref bb), (1, .ref (a 0)), (2, .ref ab), (3, .ref ad), (4, .ref ac), (5, .ref ar), (8, .int w)] [] ((cW cI a i r) ++ [(ab, .inl (cI, 7, .inl fb)), (ad, .inl (cI, 9, .inl fd)), (ar, .inl (cI, 3, .inl fr)), (ac, .inl (cI, 9, .inl fc)), (aT, .inl (cI, 15, .inl ft))]) := by
  have v4 : z.1 4 ≤ 6 := vz.2.2.2.1
  have v5 : z.1 5 < 2 ^ z.1 4 := vz.2.2.2.2.1
  have hx6 := pow_le6 v4
  obtain ⟨li0, li1, li2, li3, li4, li5, li6⟩ := id hl
  have hbv := hl.bv vz
  have hdv := hl.dv vz
  refine z_iconst C (pc := 493) (v := nI 1) dL_law_493 (by decide) ?_
  refine z_aload_n C (pc := 494) dL_law_494 rfl ?_
  refine z_iconst C (pc := 495) (v := nI 0) dL_law_495 (by decide) ?_
  have h_1 : vp_in (nI 0) 7 := by exact vp_in_nI (by omega) (by decide)
  refine z_iald C (pc := 496) 19 rfl h_1 dL_law_496 ?_
  refine z_seti (y := (fb 0)) (by rw [nI_clamp (by omega)]) ?_
  refine z_seti (y := nI (z.1 4)) li0 ?_
  refine z_ishl C (pc := 497) dL_law_497 ?_
  refine z_seti (y := nI (2 ^ z.1 4)) (shl_2 _ v4) ?_
  refine z_istore C (pc := 498) (lv' := [(0, .ref bb), (1, .ref (a 0)), (2, .ref ab), (3, .ref ad), (4, .ref ac), (5, .ref ar), (8, .int (nI (2 ^ z.1 4)))]) dL_law_498 (Nat.le_of_ble_eq_true rfl) rfl rfl ?_
  refine z_aload_n C (pc := 500) dL_law_500 rfl ?_
  refine z_aload_n C (pc := 501) dL_law_501 rfl ?_
  refine z_aload_n C (pc := 502) dL_law_502 rfl ?_
  refine z_aload C (pc := 503) dL_law_503 rfl ?_
  refine z_bipush C (pc := 505) (v := nI 20) dL_law_505 (by decide) ?_
  refine z_iconst C (pc := 507) (v := nI 0) dL_law_507 (by decide) ?_
  refine z_ws (st' := [.int (nI 0), .int (nI 20), .ref ar, .ref ad, .ref ab, .ref (a 0)]) (ws' := ((cW cI a i r) ++ ([(ab, .inl (cI, 7, .inl fb)), (ad, .inl (cI, 9, .inl fd)), (ar, .inl (cI, 3, .inl fr))] : va_W)) ++ ([(ac, .inl (cI, 9, .inl fc)), (aT, .inl (cI, 15, .inl ft))] : va_W)) (List.append_assoc (cW cI a i r) ([(ab, .inl (cI, 7, .inl fb)), (ad, .inl (cI, 9, .inl fd)), (ar, .inl (cI, 3, .inl fr))] : va_W) ([(ac, .inl (cI, 9, .inl fc)), (aT, .inl (cI, 15, .inl ft))] : va_W)).symm rfl ?_
  refine z_calliNL C (by exact fun _ => rfl) (runSNw C (isC := List.range (((cW cI a i r) ++ ([(ab, .inl (cI, 7, .inl fb)), (ad, .inl (cI, 9, .inl fd)), (ar, .inl (cI, 3, .inl fr))] : va_W))).length) (wc := ((cW cI a i r) ++ ([(ab, .inl (cI, 7, .inl fb)), (ad, .inl (cI, 9, .inl fd)), (ar, .inl (cI, 3, .inl fr))] : va_W))) (pc := 508) (rY' := { frames := 7, cells := 2, slots := 18, locals := 164 }) (nn := 6) (As := [.ref (a 0), .ref ab, .ref ad, .ref ar, .int (nI 20), .int (nI 0)]) (rest := []) (g_winters l D cI tt a i r ab ad ar fb fd fr z hz vz hl 20 0 (by decide) (by decide) (by decide)) (apL_hC _ _) (full_nd ((cW cI a i r) ++ ([(ab, .inl (cI, 7, .inl fb)), (ad, .inl (cI, 9, .inl fd)), (ar, .inl (cI, 3, .inl fr))] : va_W))) ⟨rfl, rfl, ⟨Nat.le_of_ble_eq_true rfl, Nat.le_of_ble_eq_true rfl⟩, (by show 72 + 2 ≤ 600000; omega), (by show 600 + 18 ≤ 7302250; omega)⟩ wl_L_108 ws_L_winters wi_L wc_L_winters (by decide +kernel) rfl rfl (Nat.le_of_ble_eq_true rfl) dL_law_508) (fun q_w_2 u_w_2 h_w_2 => ?_)
  obtain ⟨iw_2, rw_2, frw_2⟩ := u_w_2
  try dsimp only at h_w_2
  obtain ⟨k0, hzw_2⟩ := h_w_2
  refine z_ws (st' := [.int q_w_2]) (ws' := ((cW cI a iw_2 rw_2) ++ [(ab, .inl (cI, 7, .inl fb)), (ad, .inl (cI, 9, .inl fd)), (ar, .inl (cI, 3, .inl frw_2)), (ac, .inl (cI, 9, .inl fc)), (aT, .inl (cI, 15, .inl ft))])) (List.append_assoc (cW cI a iw_2 rw_2) ([(ab, .inl (cI, 7, .inl fb)), (ad, .inl (cI, 9, .inl fd)), (ar, .inl (cI, 3, .inl frw_2))] : va_W) ([(ac, .inl (cI, 9, .inl fc)), (aT, .inl (cI, 15, .inl ft))] : va_W)) rfl ?_
  refine z_seti (y := nI 1) k0 ?_
  refine z_if_eq C (pc := 511) (tgt := 821) dL_law_511 (by decide) (fun c_3 => ?_) (fun c_3 => ?_)
  · exact absurd c_3 (by decide)
  · refine z_aload_n C (pc := 514) dL_law_514 rfl ?_
    refine z_aload_n C (pc := 515) dL_law_515 rfl ?_
    refine z_aload_n C (pc := 516) dL_law_516 rfl ?_
    refine z_aload C (pc := 517) dL_law_517 rfl ?_
    refine z_iconst C (pc := 519) (v := nI 1) dL_law_519 (by decide) ?_
    refine z_ldc C (pc := 520) (v := 2147483647) wl_L_107 dL_law_520 ?_
    refine z_seti (y := nI 2147483647) rfl ?_
    refine z_ws (st' := [.int (nI 2147483647), .int (nI 1), .ref ar, .ref ad, .ref ab, .ref (a 0)]) (ws' := ((cW cI a iw_2 rw_2) ++ ([(ab, .inl (cI, 7, .inl fb)), (ad, .inl (cI, 9, .inl fd)), (ar, .inl (cI, 3, .inl frw_2))] : va_W)) ++ ([(ac, .inl (cI, 9, .inl fc)), (aT, .inl (cI, 15, .inl ft))] : va_W)) (List.append_assoc (cW cI a iw_2 rw_2) ([(ab, .inl (cI, 7, .inl fb)), (ad, .inl (cI, 9, .inl fd)), (ar, .inl (cI, 3, .inl frw_2))] : va_W) ([(ac, .inl (cI, 9, .inl fc)), (aT, .inl (cI, 15, .inl ft))] : va_W)).symm rfl ?_
    refine z_calliNL C (by exact fun _ => rfl) (runSNw C (isC := List.range (((cW cI a iw_2 rw_2) ++ ([(ab, .inl (cI, 7, .inl fb)), (ad, .inl (cI, 9, .inl fd)), (ar, .inl (cI, 3, .inl frw_2))] : va_W))).length) (wc := ((cW cI a iw_2 rw_2) ++ ([(ab, .inl (cI, 7, .inl fb)), (ad, .inl (cI, 9, .inl fd)), (ar, .inl (cI, 3, .inl frw_2))] : va_W))) (pc := 522) (rY' := { frames := 7, cells := 2, slots := 18, locals := 164 }) (nn := 6) (As := [.ref (a 0), .ref ab, .ref ad, .ref ar, .int (nI 1), .int (nI 2147483647)]) (rest := []) (g_winters l D cI tt a iw_2 rw_2 ab ad ar fb fd frw_2 z hzw_2 vz hl 1 2147483647 (by decide) (by decide) (by decide)) (apL_hC _ _) (full_nd ((cW cI a iw_2 rw_2) ++ ([(ab, .inl (cI, 7, .inl fb)), (ad, .inl (cI, 9, .inl fd)), (ar, .inl (cI, 3, .inl frw_2))] : va_W))) ⟨rfl, rfl, ⟨Nat.le_of_ble_eq_true rfl, Nat.le_of_ble_eq_true rfl⟩, (by show 72 + 2 + 2 ≤ 600000; omega), (by show 600 + 18 + 18 ≤ 7302250; omega)⟩ wl_L_108 ws_L_winters wi_L wc_L_winters (by decide +kernel) rfl rfl (Nat.le_of_ble_eq_true rfl) dL_law_522) (fun q_w_4 u_w_4 h_w_4 => ?_)
    obtain ⟨iw_4, rw_4, frw_4⟩ := u_w_4
    try dsimp only at h_w_4
    obtain ⟨k0, hzw_4⟩ := h_w_4
    refine z_ws (st' := [.int q_w_4]) (ws' := ((cW cI a iw_4 rw_4) ++ [(ab, .inl (cI, 7, .inl fb)), (ad, .inl (cI, 9, .inl fd)), (ar, .inl (cI, 3, .inl frw_4)), (ac, .inl (cI, 9, .inl fc)), (aT, .inl (cI, 15, .inl ft))])) (List.append_assoc (cW cI a iw_4 rw_4) ([(ab, .inl (cI, 7, .inl fb)), (ad, .inl (cI, 9, .inl fd)), (ar, .inl (cI, 3, .inl frw_4))] : va_W) ([(ac, .inl (cI, 9, .inl fc)), (aT, .inl (cI, 15, .inl ft))] : va_W)) rfl ?_
    refine z_seti (y := nI 1) k0 ?_
    refine z_if_eq C (pc := 525) (tgt := 821) dL_law_525 (by decide) (fun c_5 => ?_) (fun c_5 => ?_)
    · exact absurd c_5 (by decide)
    · refine z_aload_n C (pc := 528) dL_law_528 rfl ?_
      refine z_aload_n C (pc := 529) dL_law_529 rfl ?_
      refine z_iconst C (pc := 530) (v := nI 0) dL_law_530 (by decide) ?_
      have h_6 : vp_in (nI 0) 7 := by exact vp_in_nI (by omega) (by decide)
      refine z_iald C (pc := 531) 19 rfl h_6 dL_law_531 ?_
      refine z_seti (y := (fb 0)) (by rw [nI_clamp (by omega)]) ?_
      refine z_seti (y := nI (z.1 4)) li0 ?_
      refine z_iconst C (pc := 532) (v := nI 0) dL_law_532 (by decide) ?_
      refine z_calliL C (by exact fun _ => cW_ad) (runV C (wc := (cW cI a iw_4 rw_4)) (pc := 533) (rY' := rm 1 21) (nn := 2) (As := [.int (nI (z.1 4)), .int (nI 0)]) (rest := []) (c_member l D cI tt a iw_4 rw_4 (nI (z.1 4)) (nI 0) z hzw_4 vz) (apL_hC _ _) (full_nd _) ⟨rfl, rfl, ⟨Nat.le_of_ble_eq_true rfl, Nat.le_of_ble_eq_true rfl⟩, (by show 72 + 2 + 2 ≤ 600000; omega), (by show 600 + 18 + 18 ≤ 7302250; omega)⟩ wl_L_50 wm_X3_member we_X3_member wi_X3 wc_X3_member (by decide +kernel) rfl 0 rfl rfl rfl rfl (Nat.le_of_ble_eq_true rfl) dL_law_533) (fun q_7 u_7 h_7 => ?_)
      obtain ⟨i7, r7⟩ := u_7
      try dsimp only at h_7
      obtain ⟨k0, hz7⟩ := h_7
      refine z_ws (st' := [.int q_7]) (ws' := ((cW cI a i7 r7) ++ [(ab, .inl (cI, 7, .inl fb)), (ad, .inl (cI, 9, .inl fd)), (ar, .inl (cI, 3, .inl frw_4)), (ac, .inl (cI, 9, .inl fc)), (aT, .inl (cI, 15, .inl ft))])) rfl rfl ?_
      refine z_seti (y := (-101)) (k0.trans (if_pos (tl_mem1 v4))) ?_
      refine z_bipush C (pc := 536) (v := (-101)) dL_law_536 (by decide) ?_
      refine z_icmp_ne C (pc := 538) (tgt := 821) dL_law_538 (by decide) (fun c_8 => ?_) (fun c_8 => ?_)
      · exact absurd c_8 (by decide)
      · refine z_aload_n C (pc := 541) dL_law_541 rfl ?_
        refine z_iconst C (pc := 542) (v := (-1)) dL_law_542 (by decide) ?_
        refine z_iconst C (pc := 543) (v := nI 0) dL_law_543 (by decide) ?_
        refine z_calliL C (by exact fun _ => cW_ad) (runV C (wc := (cW cI a i7 r7)) (pc := 544) (rY' := rm 1 21) (nn := 2) (As := [.int (-1), .int (nI 0)]) (rest := []) (c_member l D cI tt a i7 r7 (-1) (nI 0) z hz7 vz) (apL_hC _ _) (full_nd _) ⟨rfl, rfl, ⟨Nat.le_of_ble_eq_true rfl, Nat.le_of_ble_eq_true rfl⟩, (by show 72 + 2 + 2 ≤ 600000; omega), (by show 600 + 18 + 18 ≤ 7302250; omega)⟩ wl_L_50 wm_X3_member we_X3_member wi_X3 wc_X3_member (by decide +kernel) rfl 0 rfl rfl rfl rfl (Nat.le_of_ble_eq_true rfl) dL_law_544) (fun q_9 u_9 h_9 => ?_)
        obtain ⟨i9, r9⟩ := u_9
        try dsimp only at h_9
        obtain ⟨k0, hz9⟩ := h_9
        refine z_ws (st' := [.int q_9]) (ws' := ((cW cI a i9 r9) ++ [(ab, .inl (cI, 7, .inl fb)), (ad, .inl (cI, 9, .inl fd)), (ar, .inl (cI, 3, .inl frw_4)), (ac, .inl (cI, 9, .inl fc)), (aT, .inl (cI, 15, .inl ft))])) rfl rfl ?_
        refine z_seti (y := (-101)) (k0.trans (if_pos tl_mem2)) ?_
        refine z_bipush C (pc := 547) (v := (-101)) dL_law_547 (by decide) ?_
        refine z_icmp_ne C (pc := 549) (tgt := 821) dL_law_549 (by decide) (fun c_10 => ?_) (fun c_10 => ?_)
        · exact absurd c_10 (by decide)
        · refine z_aload_n C (pc := 552) dL_law_552 rfl ?_
          refine z_iconst C (pc := 553) (v := nI 0) dL_law_553 (by decide) ?_
          refine z_iconst C (pc := 554) (v := nI 5) dL_law_554 (by decide) ?_
          refine z_calliL C (by exact fun _ => cW_ad) (runV C (wc := (cW cI a i9 r9)) (pc := 555) (rY' := rm 1 21) (nn := 2) (As := [.int (nI 0), .int (nI 5)]) (rest := []) (c_member l D cI tt a i9 r9 (nI 0) (nI 5) z hz9 vz) (apL_hC _ _) (full_nd _) ⟨rfl, rfl, ⟨Nat.le_of_ble_eq_true rfl, Nat.le_of_ble_eq_true rfl⟩, (by show 72 + 2 + 2 ≤ 600000; omega), (by show 600 + 18 + 18 ≤ 7302250; omega)⟩ wl_L_50 wm_X3_member we_X3_member wi_X3 wc_X3_member (by decide +kernel) rfl 0 rfl rfl rfl rfl (Nat.le_of_ble_eq_true rfl) dL_law_555) (fun q_11 u_11 h_11 => ?_)
          obtain ⟨i11, r11⟩ := u_11
          try dsimp only at h_11
          obtain ⟨k0, hz11⟩ := h_11
          refine z_ws (st' := [.int q_11]) (ws' := ((cW cI a i11 r11) ++ [(ab, .inl (cI, 7, .inl fb)), (ad, .inl (cI, 9, .inl fd)), (ar, .inl (cI, 3, .inl frw_4)), (ac, .inl (cI, 9, .inl fc)), (aT, .inl (cI, 15, .inl ft))])) rfl rfl ?_
          refine z_seti (y := (-102)) (k0.trans (tl_mem3 li6 v4)) ?_
          refine z_bipush C (pc := 558) (v := (-102)) dL_law_558 (by decide) ?_
          refine z_icmp_ne C (pc := 560) (tgt := 821) dL_law_560 (by decide) (fun c_12 => ?_) (fun c_12 => ?_)
          · exact absurd c_12 (by decide)
          · refine z_aload_n C (pc := 563) dL_law_563 rfl ?_
            refine z_aload_n C (pc := 564) dL_law_564 rfl ?_
            refine z_iconst C (pc := 565) (v := nI 0) dL_law_565 (by decide) ?_
            have h_13 : vp_in (nI 0) 7 := by exact vp_in_nI (by omega) (by decide)
            refine z_iald C (pc := 566) 19 rfl h_13 dL_law_566 ?_
            refine z_seti (y := (fb 0)) (by rw [nI_clamp (by omega)]) ?_
            refine z_seti (y := nI (z.1 4)) li0 ?_
            refine z_iconst C (pc := 567) (v := nI 0) dL_law_567 (by decide) ?_
            refine z_calliL C (by exact fun _ => cW_ad) (runV C (wc := (cW cI a i11 r11)) (pc := 568) (rY' := rm 1 21) (nn := 2) (As := [.int (nI (z.1 4)), .int (nI 0)]) (rest := []) (c_as l D cI tt a i11 r11 (nI (z.1 4)) (nI 0) z hz11 vz) (apL_hC _ _) (full_nd _) ⟨rfl, rfl, ⟨Nat.le_of_ble_eq_true rfl, Nat.le_of_ble_eq_true rfl⟩, (by show 72 + 2 + 2 ≤ 600000; omega), (by show 600 + 18 + 18 ≤ 7302250; omega)⟩ wl_L_96 wm_X3_as we_X3_as wi_X3 wc_X3_as (by decide +kernel) rfl 0 rfl rfl rfl rfl (Nat.le_of_ble_eq_true rfl) dL_law_568) (fun q_14 u_14 h_14 => ?_)
            obtain ⟨i14, r14⟩ := u_14
            try dsimp only at h_14
            obtain ⟨k0, hz14⟩ := h_14
            refine z_ws (st' := [.int q_14]) (ws' := ((cW cI a i14 r14) ++ [(ab, .inl (cI, 7, .inl fb)), (ad, .inl (cI, 9, .inl fd)), (ar, .inl (cI, 3, .inl frw_4)), (ac, .inl (cI, 9, .inl fc)), (aT, .inl (cI, 15, .inl ft))])) rfl rfl ?_
            refine z_seti (y := (-101)) (k0.trans (if_pos (tl_mem1 v4))) ?_
            refine z_bipush C (pc := 571) (v := (-101)) dL_law_571 (by decide) ?_
            refine z_icmp_ne C (pc := 573) (tgt := 821) dL_law_573 (by decide) (fun c_15 => ?_) (fun c_15 => ?_)
            · exact absurd c_15 (by decide)
            · refine z_aload_n C (pc := 576) dL_law_576 rfl ?_
              refine z_iconst C (pc := 577) (v := nI 0) dL_law_577 (by decide) ?_
              refine z_iconst C (pc := 578) (v := nI 5) dL_law_578 (by decide) ?_
              refine z_calliL C (by exact fun _ => cW_ad) (runV C (wc := (cW cI a i14 r14)) (pc := 579) (rY' := rm 1 21) (nn := 2) (As := [.int (nI 0), .int (nI 5)]) (rest := []) (c_as l D cI tt a i14 r14 (nI 0) (nI 5) z hz14 vz) (apL_hC _ _) (full_nd _) ⟨rfl, rfl, ⟨Nat.le_of_ble_eq_true rfl, Nat.le_of_ble_eq_true rfl⟩, (by show 72 + 2 + 2 ≤ 600000; omega), (by show 600 + 18 + 18 ≤ 7302250; omega)⟩ wl_L_96 wm_X3_as we_X3_as wi_X3 wc_X3_as (by decide +kernel) rfl 0 rfl rfl rfl rfl (Nat.le_of_ble_eq_true rfl) dL_law_579) (fun q_16 u_16 h_16 => ?_)
              obtain ⟨i16, r16⟩ := u_16
              try dsimp only at h_16
              obtain ⟨k0, hz16⟩ := h_16
              refine z_ws (st' := [.int q_16]) (ws' := ((cW cI a i16 r16) ++ [(ab, .inl (cI, 7, .inl fb)), (ad, .inl (cI, 9, .inl fd)), (ar, .inl (cI, 3, .inl frw_4)), (ac, .inl (cI, 9, .inl fc)), (aT, .inl (cI, 15, .inl ft))])) rfl rfl ?_
              refine z_seti (y := (-102)) (k0.trans (tl_as2 li6 v4)) ?_
              refine z_bipush C (pc := 582) (v := (-102)) dL_law_582 (by decide) ?_
              refine z_icmp_ne C (pc := 584) (tgt := 821) dL_law_584 (by decide) (fun c_17 => ?_) (fun c_17 => ?_)
              · exact absurd c_17 (by decide)
              · refine z_aload_n C (pc := 587) dL_law_587 rfl ?_
                refine z_iconst C (pc := 588) (v := nI 0) dL_law_588 (by decide) ?_
                refine z_iconst C (pc := 589) (v := nI 0) dL_law_589 (by decide) ?_
                refine z_calliL C (by exact fun _ => cW_ad) (runV C (wc := (cW cI a i16 r16)) (pc := 590) (rY' := rm 6 144) (nn := 2) (As := [.int (nI 0), .int (nI 0)]) (rest := []) (c_cairn l D cI tt a i16 r16 (nI 0) (nI 0) z hz16 vz) (apL_hC _ _) (full_nd _) ⟨rfl, rfl, ⟨Nat.le_of_ble_eq_true rfl, Nat.le_of_ble_eq_true rfl⟩, (by show 72 + 2 + 2 ≤ 600000; omega), (by show 600 + 18 + 18 ≤ 7302250; omega)⟩ wl_L_53 wm_X3_cairn we_X3_cairn wi_X3 wc_X3_cairn (by decide +kernel) rfl 0 rfl rfl rfl rfl (Nat.le_of_ble_eq_true rfl) dL_law_590) (fun q_18 u_18 h_18 => ?_)
                obtain ⟨i18, r18⟩ := u_18
                try dsimp only at h_18
                obtain ⟨k0, hz18⟩ := h_18
                refine z_ws (st' := [.int q_18]) (ws' := ((cW cI a i18 r18) ++ [(ab, .inl (cI, 7, .inl fb)), (ad, .inl (cI, 9, .inl fd)), (ar, .inl (cI, 3, .inl frw_4)), (ac, .inl (cI, 9, .inl fc)), (aT, .inl (cI, 15, .inl ft))])) rfl rfl ?_
                refine z_seti (y := (-101)) (k0.trans (if_pos tl_c0)) ?_
                refine z_bipush C (pc := 593) (v := (-101)) dL_law_593 (by decide) ?_
                refine z_icmp_ne C (pc := 595) (tgt := 821) dL_law_595 (by decide) (fun c_19 => ?_) (fun c_19 => ?_)
                · exact absurd c_19 (by decide)
                · refine z_aload_n C (pc := 598) dL_law_598 rfl ?_
                  refine z_bipush C (pc := 599) (v := nI 6) dL_law_599 (by decide) ?_
                  refine z_iconst C (pc := 601) (v := nI 0) dL_law_601 (by decide) ?_
                  refine z_calliL C (by exact fun _ => cW_ad) (runV C (wc := (cW cI a i18 r18)) (pc := 602) (rY' := rm 6 144) (nn := 2) (As := [.int (nI 6), .int (nI 0)]) (rest := []) (c_cairn l D cI tt a i18 r18 (nI 6) (nI 0) z hz18 vz) (apL_hC _ _) (full_nd _) ⟨rfl, rfl, ⟨Nat.le_of_ble_eq_true rfl, Nat.le_of_ble_eq_true rfl⟩, (by show 72 + 2 + 2 ≤ 600000; omega), (by show 600 + 18 + 18 ≤ 7302250; omega)⟩ wl_L_53 wm_X3_cairn we_X3_cairn wi_X3 wc_X3_cairn (by decide +kernel) rfl 0 rfl rfl rfl rfl (Nat.le_of_ble_eq_true rfl) dL_law_602) (fun q_20 u_20 h_20 => ?_)
                  obtain ⟨i20, r20⟩ := u_20
                  try dsimp only at h_20
                  obtain ⟨k0, hz20⟩ := h_20
                  refine z_ws (st' := [.int q_20]) (ws' := ((cW cI a i20 r20) ++ [(ab, .inl (cI, 7, .inl fb)), (ad, .inl (cI, 9, .inl fd)), (ar, .inl (cI, 3, .inl frw_4)), (ac, .inl (cI, 9, .inl fc)), (aT, .inl (cI, 15, .inl ft))])) rfl rfl ?_
                  refine z_seti (y := (-101)) (k0.trans (if_pos tl_c6)) ?_
                  refine z_bipush C (pc := 605) (v := (-101)) dL_law_605 (by decide) ?_
                  refine z_icmp_ne C (pc := 607) (tgt := 821) dL_law_607 (by decide) (fun c_21 => ?_) (fun c_21 => ?_)
                  · exact absurd c_21 (by decide)
                  · refine z_aload_n C (pc := 610) dL_law_610 rfl ?_
                    refine z_iconst C (pc := 611) (v := nI 1) dL_law_611 (by decide) ?_
                    refine z_iconst C (pc := 612) (v := nI 3) dL_law_612 (by decide) ?_
                    refine z_calliL C (by exact fun _ => cW_ad) (runV C (wc := (cW cI a i20 r20)) (pc := 613) (rY' := rm 6 144) (nn := 2) (As := [.int (nI 1), .int (nI 3)]) (rest := []) (c_cairn l D cI tt a i20 r20 (nI 1) (nI 3) z hz20 vz) (apL_hC _ _) (full_nd _) ⟨rfl, rfl, ⟨Nat.le_of_ble_eq_true rfl, Nat.le_of_ble_eq_true rfl⟩, (by show 72 + 2 + 2 ≤ 600000; omega), (by show 600 + 18 + 18 ≤ 7302250; omega)⟩ wl_L_53 wm_X3_cairn we_X3_cairn wi_X3 wc_X3_cairn (by decide +kernel) rfl 0 rfl rfl rfl rfl (Nat.le_of_ble_eq_true rfl) dL_law_613) (fun q_22 u_22 h_22 => ?_)
                    obtain ⟨i22, r22⟩ := u_22
                    try dsimp only at h_22
                    obtain ⟨k0, hz22⟩ := h_22
                    refine z_ws (st' := [.int q_22]) (ws' := ((cW cI a i22 r22) ++ [(ab, .inl (cI, 7, .inl fb)), (ad, .inl (cI, 9, .inl fd)), (ar, .inl (cI, 3, .inl frw_4)), (ac, .inl (cI, 9, .inl fc)), (aT, .inl (cI, 15, .inl ft))])) rfl rfl ?_
                    refine z_seti (y := (-102)) (k0.trans (tl_c13 li6)) ?_
                    refine z_bipush C (pc := 616) (v := (-102)) dL_law_616 (by decide) ?_
                    refine z_icmp_ne C (pc := 618) (tgt := 821) dL_law_618 (by decide) (fun c_23 => ?_) (fun c_23 => ?_)
                    · exact absurd c_23 (by decide)
                    · refine z_aload_n C (pc := 621) dL_law_621 rfl ?_
                      refine z_iconst C (pc := 622) (v := nI 0) dL_law_622 (by decide) ?_
                      refine z_iconst C (pc := 623) (v := nI 0) dL_law_623 (by decide) ?_
                      refine z_calliL C (by exact fun _ => cW_ad) (runV C (wc := (cW cI a i22 r22)) (pc := 624) (rY' := rm 1 22) (nn := 2) (As := [.int (nI 0), .int (nI 0)]) (rest := []) (c_lay l D cI tt a i22 r22 (nI 0) (nI 0) z hz22 vz) (apL_hC _ _) (full_nd _) ⟨rfl, rfl, ⟨Nat.le_of_ble_eq_true rfl, Nat.le_of_ble_eq_true rfl⟩, (by show 72 + 2 + 2 ≤ 600000; omega), (by show 600 + 18 + 18 ≤ 7302250; omega)⟩ wl_L_66 wm_X3_lay we_X3_lay wi_X3 wc_X3_lay (by decide +kernel) rfl 0 rfl rfl rfl rfl (Nat.le_of_ble_eq_true rfl) dL_law_624) (fun q_24 u_24 h_24 => ?_)
                      obtain ⟨i24, r24⟩ := u_24
                      try dsimp only at h_24
                      obtain ⟨k0, hz24⟩ := h_24
                      rw [show layF z (nI 0) (nI 0) = (-101, z) from if_pos tl_c0] at k0 hz24
                      refine z_ws (st' := [.int q_24]) (ws' := ((cW cI a i24 r24) ++ [(ab, .inl (cI, 7, .inl fb)), (ad, .inl (cI, 9, .inl fd)), (ar, .inl (cI, 3, .inl frw_4)), (ac, .inl (cI, 9, .inl fc)), (aT, .inl (cI, 15, .inl ft))])) rfl rfl ?_
                      refine z_seti (y := -101) k0 ?_
                      refine z_bipush C (pc := 627) (v := (-101)) dL_law_627 (by decide) ?_
                      refine z_icmp_ne C (pc := 629) (tgt := 821) dL_law_629 (by decide) (fun c_25 => ?_) (fun c_25 => ?_)
                      · exact absurd c_25 (by decide)
                      · refine z_aload_n C (pc := 632) dL_law_632 rfl ?_
                        refine z_bipush C (pc := 633) (v := nI 6) dL_law_633 (by decide) ?_
                        refine z_iconst C (pc := 635) (v := nI 0) dL_law_635 (by decide) ?_
                        refine z_calliL C (by exact fun _ => cW_ad) (runV C (wc := (cW cI a i24 r24)) (pc := 636) (rY' := rm 1 22) (nn := 2) (As := [.int (nI 6), .int (nI 0)]) (rest := []) (c_lay l D cI tt a i24 r24 (nI 6) (nI 0) z hz24 vz) (apL_hC _ _) (full_nd _) ⟨rfl, rfl, ⟨Nat.le_of_ble_eq_true rfl, Nat.le_of_ble_eq_true rfl⟩, (by show 72 + 2 + 2 ≤ 600000; omega), (by show 600 + 18 + 18 ≤ 7302250; omega)⟩ wl_L_66 wm_X3_lay we_X3_lay wi_X3 wc_X3_lay (by decide +kernel) rfl 0 rfl rfl rfl rfl (Nat.le_of_ble_eq_true rfl) dL_law_636) (fun q_26 u_26 h_26 => ?_)
                        obtain ⟨i26, r26⟩ := u_26
                        try dsimp only at h_26
                        obtain ⟨k0, hz26⟩ := h_26
                        rw [show layF z (nI 6) (nI 0) = (-101, z) from if_pos tl_c6] at k0 hz26
                        refine z_ws (st' := [.int q_26]) (ws' := ((cW cI a i26 r26) ++ [(ab, .inl (cI, 7, .inl fb)), (ad, .inl (cI, 9, .inl fd)), (ar, .inl (cI, 3, .inl frw_4)), (ac, .inl (cI, 9, .inl fc)), (aT, .inl (cI, 15, .inl ft))])) rfl rfl ?_
                        refine z_seti (y := -101) k0 ?_
                        refine z_bipush C (pc := 639) (v := (-101)) dL_law_639 (by decide) ?_
                        refine z_icmp_ne C (pc := 641) (tgt := 821) dL_law_641 (by decide) (fun c_27 => ?_) (fun c_27 => ?_)
                        · exact absurd c_27 (by decide)
                        · refine z_aload_n C (pc := 644) dL_law_644 rfl ?_
                          refine z_iconst C (pc := 645) (v := nI 1) dL_law_645 (by decide) ?_
                          refine z_bipush C (pc := 646) (v := nI 10) dL_law_646 (by decide) ?_
                          refine z_calliL C (by exact fun _ => cW_ad) (runV C (wc := (cW cI a i26 r26)) (pc := 648) (rY' := rm 1 22) (nn := 2) (As := [.int (nI 1), .int (nI 10)]) (rest := []) (c_lay l D cI tt a i26 r26 (nI 1) (nI 10) z hz26 vz) (apL_hC _ _) (full_nd _) ⟨rfl, rfl, ⟨Nat.le_of_ble_eq_true rfl, Nat.le_of_ble_eq_true rfl⟩, (by show 72 + 2 + 2 ≤ 600000; omega), (by show 600 + 18 + 18 ≤ 7302250; omega)⟩ wl_L_66 wm_X3_lay we_X3_lay wi_X3 wc_X3_lay (by decide +kernel) rfl 0 rfl rfl rfl rfl (Nat.le_of_ble_eq_true rfl) dL_law_648) (fun q_28 u_28 h_28 => ?_)
                          obtain ⟨i28, r28⟩ := u_28
                          try dsimp only at h_28
                          obtain ⟨k0, hz28⟩ := h_28
                          rw [show layF z (nI 1) (nI 10) = (-102, z) from tl_lay li6 (by decide)] at k0 hz28
                          refine z_ws (st' := [.int q_28]) (ws' := ((cW cI a i28 r28) ++ [(ab, .inl (cI, 7, .inl fb)), (ad, .inl (cI, 9, .inl fd)), (ar, .inl (cI, 3, .inl frw_4)), (ac, .inl (cI, 9, .inl fc)), (aT, .inl (cI, 15, .inl ft))])) rfl rfl ?_
                          refine z_seti (y := -102) k0 ?_
                          refine z_bipush C (pc := 651) (v := (-102)) dL_law_651 (by decide) ?_
                          refine z_icmp_ne C (pc := 653) (tgt := 821) dL_law_653 (by decide) (fun c_29 => ?_) (fun c_29 => ?_)
                          · exact absurd c_29 (by decide)
                          · refine z_aload_n C (pc := 656) dL_law_656 rfl ?_
                            refine z_iconst C (pc := 657) (v := nI 1) dL_law_657 (by decide) ?_
                            refine z_iconst C (pc := 658) (v := (-1)) dL_law_658 (by decide) ?_
                            refine z_calliL C (by exact fun _ => cW_ad) (runV C (wc := (cW cI a i28 r28)) (pc := 659) (rY' := rm 1 22) (nn := 2) (As := [.int (nI 1), .int (-1)]) (rest := []) (c_lay l D cI tt a i28 r28 (nI 1) (-1) z hz28 vz) (apL_hC _ _) (full_nd _) ⟨rfl, rfl, ⟨Nat.le_of_ble_eq_true rfl, Nat.le_of_ble_eq_true rfl⟩, (by show 72 + 2 + 2 ≤ 600000; omega), (by show 600 + 18 + 18 ≤ 7302250; omega)⟩ wl_L_66 wm_X3_lay we_X3_lay wi_X3 wc_X3_lay (by decide +kernel) rfl 0 rfl rfl rfl rfl (Nat.le_of_ble_eq_true rfl) dL_law_659) (fun q_30 u_30 h_30 => ?_)
                            obtain ⟨i30, r30⟩ := u_30
                            try dsimp only at h_30
                            obtain ⟨k0, hz30⟩ := h_30
                            rw [show layF z (nI 1) (-1) = (-102, z) from tl_lay li6 (by decide)] at k0 hz30
                            refine z_ws (st' := [.int q_30]) (ws' := ((cW cI a i30 r30) ++ [(ab, .inl (cI, 7, .inl fb)), (ad, .inl (cI, 9, .inl fd)), (ar, .inl (cI, 3, .inl frw_4)), (ac, .inl (cI, 9, .inl fc)), (aT, .inl (cI, 15, .inl ft))])) rfl rfl ?_
                            refine z_seti (y := -102) k0 ?_
                            refine z_bipush C (pc := 662) (v := (-102)) dL_law_662 (by decide) ?_
                            refine z_icmp_ne C (pc := 664) (tgt := 821) dL_law_664 (by decide) (fun c_31 => ?_) (fun c_31 => ?_)
                            · exact absurd c_31 (by decide)
                            · refine z_aload_n C (pc := 667) dL_law_667 rfl ?_
                              refine z_iconst C (pc := 668) (v := nI 0) dL_law_668 (by decide) ?_
                              refine z_iconst C (pc := 669) (v := nI 1) dL_law_669 (by decide) ?_
                              refine z_iconst C (pc := 670) (v := nI 0) dL_law_670 (by decide) ?_
                              refine z_calliL C (by exact fun _ => cW_ad) (runV C (wc := (cW cI a i30 r30)) (pc := 671) (rY' := rm 4 92) (nn := 3) (As := [.int (nI 0), .int (nI 1), .int (nI 0)]) (rest := []) (c_march l D cI tt a i30 r30 (nI 0) (nI 1) (nI 0) z hz30 vz) (apL_hC _ _) (full_nd _) ⟨rfl, rfl, ⟨Nat.le_of_ble_eq_true rfl, Nat.le_of_ble_eq_true rfl⟩, (by show 72 + 2 + 2 ≤ 600000; omega), (by show 600 + 18 + 18 ≤ 7302250; omega)⟩ wl_L_69 wm_X3_march we_X3_march wi_X3 wc_X3_march (by decide +kernel) rfl 0 rfl rfl rfl rfl (Nat.le_of_ble_eq_true rfl) dL_law_671) (fun q_32 u_32 h_32 => ?_)
                              obtain ⟨i32, r32⟩ := u_32
                              try dsimp only at h_32
                              obtain ⟨k0, hz32⟩ := h_32
                              rw [show marchF z (nI 0) (nI 1) (nI 0) = (-102, z) from if_pos tl_m0] at k0 hz32
                              refine z_ws (st' := [.int q_32]) (ws' := ((cW cI a i32 r32) ++ [(ab, .inl (cI, 7, .inl fb)), (ad, .inl (cI, 9, .inl fd)), (ar, .inl (cI, 3, .inl frw_4)), (ac, .inl (cI, 9, .inl fc)), (aT, .inl (cI, 15, .inl ft))])) rfl rfl ?_
                              refine z_seti (y := -102) k0 ?_
                              refine z_bipush C (pc := 674) (v := (-102)) dL_law_674 (by decide) ?_
                              refine z_icmp_ne C (pc := 676) (tgt := 821) dL_law_676 (by decide) (fun c_33 => ?_) (fun c_33 => ?_)
                              · exact absurd c_33 (by decide)
                              · refine z_aload_n C (pc := 679) dL_law_679 rfl ?_
                                refine z_iload C (pc := 680) dL_law_680 rfl ?_
                                refine z_iconst C (pc := 682) (v := nI 1) dL_law_682 (by decide) ?_
                                refine z_iconst C (pc := 683) (v := nI 0) dL_law_683 (by decide) ?_
                                refine z_calliL C (by exact fun _ => cW_ad) (runV C (wc := (cW cI a i32 r32)) (pc := 684) (rY' := rm 4 92) (nn := 3) (As := [.int (nI (2 ^ z.1 4)), .int (nI 1), .int (nI 0)]) (rest := []) (c_march l D cI tt a i32 r32 (nI (2 ^ z.1 4)) (nI 1) (nI 0) z hz32 vz) (apL_hC _ _) (full_nd _) ⟨rfl, rfl, ⟨Nat.le_of_ble_eq_true rfl, Nat.le_of_ble_eq_true rfl⟩, (by show 72 + 2 + 2 ≤ 600000; omega), (by show 600 + 18 + 18 ≤ 7302250; omega)⟩ wl_L_69 wm_X3_march we_X3_march wi_X3 wc_X3_march (by decide +kernel) rfl 0 rfl rfl rfl rfl (Nat.le_of_ble_eq_true rfl) dL_law_684) (fun q_34 u_34 h_34 => ?_)
                                obtain ⟨i34, r34⟩ := u_34
                                try dsimp only at h_34
                                obtain ⟨k0, hz34⟩ := h_34
                                rw [show marchF z (nI (2 ^ z.1 4)) (nI 1) (nI 0) = (-102, z) from if_pos (tl_mA v4)] at k0 hz34
                                refine z_ws (st' := [.int q_34]) (ws' := ((cW cI a i34 r34) ++ [(ab, .inl (cI, 7, .inl fb)), (ad, .inl (cI, 9, .inl fd)), (ar, .inl (cI, 3, .inl frw_4)), (ac, .inl (cI, 9, .inl fc)), (aT, .inl (cI, 15, .inl ft))])) rfl rfl ?_
                                refine z_seti (y := -102) k0 ?_
                                refine z_bipush C (pc := 687) (v := (-102)) dL_law_687 (by decide) ?_
                                refine z_icmp_ne C (pc := 689) (tgt := 821) dL_law_689 (by decide) (fun c_35 => ?_) (fun c_35 => ?_)
                                · exact absurd c_35 (by decide)
                                · refine z_aload_n C (pc := 692) dL_law_692 rfl ?_
                                  refine z_iconst C (pc := 693) (v := nI 1) dL_law_693 (by decide) ?_
                                  refine z_iconst C (pc := 694) (v := nI 0) dL_law_694 (by decide) ?_
                                  refine z_iconst C (pc := 695) (v := nI 0) dL_law_695 (by decide) ?_
                                  refine z_calliL C (by exact fun _ => cW_ad) (runV C (wc := (cW cI a i34 r34)) (pc := 696) (rY' := rm 4 92) (nn := 3) (As := [.int (nI 1), .int (nI 0), .int (nI 0)]) (rest := []) (c_march l D cI tt a i34 r34 (nI 1) (nI 0) (nI 0) z hz34 vz) (apL_hC _ _) (full_nd _) ⟨rfl, rfl, ⟨Nat.le_of_ble_eq_true rfl, Nat.le_of_ble_eq_true rfl⟩, (by show 72 + 2 + 2 ≤ 600000; omega), (by show 600 + 18 + 18 ≤ 7302250; omega)⟩ wl_L_69 wm_X3_march we_X3_march wi_X3 wc_X3_march (by decide +kernel) rfl 0 rfl rfl rfl rfl (Nat.le_of_ble_eq_true rfl) dL_law_696) (fun q_36 u_36 h_36 => ?_)
                                  obtain ⟨i36, r36⟩ := u_36
                                  try dsimp only at h_36
                                  obtain ⟨k0, hz36⟩ := h_36
                                  rw [show marchF z (nI 1) (nI 0) (nI 0) = (-102, z) from if_pos (tl_mS (by decide))] at k0 hz36
                                  refine z_ws (st' := [.int q_36]) (ws' := ((cW cI a i36 r36) ++ [(ab, .inl (cI, 7, .inl fb)), (ad, .inl (cI, 9, .inl fd)), (ar, .inl (cI, 3, .inl frw_4)), (ac, .inl (cI, 9, .inl fc)), (aT, .inl (cI, 15, .inl ft))])) rfl rfl ?_
                                  refine z_seti (y := -102) k0 ?_
                                  refine z_bipush C (pc := 699) (v := (-102)) dL_law_699 (by decide) ?_
                                  refine z_icmp_ne C (pc := 701) (tgt := 821) dL_law_701 (by decide) (fun c_37 => ?_) (fun c_37 => ?_)
                                  · exact absurd c_37 (by decide)
                                  · refine z_aload_n C (pc := 704) dL_law_704 rfl ?_
                                    refine z_iconst C (pc := 705) (v := nI 1) dL_law_705 (by decide) ?_
                                    refine z_bipush C (pc := 706) (v := nI 7) dL_law_706 (by decide) ?_
                                    refine z_iconst C (pc := 708) (v := nI 0) dL_law_708 (by decide) ?_
                                    refine z_calliL C (by exact fun _ => cW_ad) (runV C (wc := (cW cI a i36 r36)) (pc := 709) (rY' := rm 4 92) (nn := 3) (As := [.int (nI 1), .int (nI 7), .int (nI 0)]) (rest := []) (c_march l D cI tt a i36 r36 (nI 1) (nI 7) (nI 0) z hz36 vz) (apL_hC _ _) (full_nd _) ⟨rfl, rfl, ⟨Nat.le_of_ble_eq_true rfl, Nat.le_of_ble_eq_true rfl⟩, (by show 72 + 2 + 2 ≤ 600000; omega), (by show 600 + 18 + 18 ≤ 7302250; omega)⟩ wl_L_69 wm_X3_march we_X3_march wi_X3 wc_X3_march (by decide +kernel) rfl 0 rfl rfl rfl rfl (Nat.le_of_ble_eq_true rfl) dL_law_709) (fun q_38 u_38 h_38 => ?_)
                                    obtain ⟨i38, r38⟩ := u_38
                                    try dsimp only at h_38
                                    obtain ⟨k0, hz38⟩ := h_38
                                    rw [show marchF z (nI 1) (nI 7) (nI 0) = (-102, z) from if_pos (tl_mS (by decide))] at k0 hz38
                                    refine z_ws (st' := [.int q_38]) (ws' := ((cW cI a i38 r38) ++ [(ab, .inl (cI, 7, .inl fb)), (ad, .inl (cI, 9, .inl fd)), (ar, .inl (cI, 3, .inl frw_4)), (ac, .inl (cI, 9, .inl fc)), (aT, .inl (cI, 15, .inl ft))])) rfl rfl ?_
                                    refine z_seti (y := -102) k0 ?_
                                    refine z_bipush C (pc := 712) (v := (-102)) dL_law_712 (by decide) ?_
                                    refine z_icmp_ne C (pc := 714) (tgt := 821) dL_law_714 (by decide) (fun c_39 => ?_) (fun c_39 => ?_)
                                    · exact absurd c_39 (by decide)
                                    · refine z_aload_n C (pc := 717) dL_law_717 rfl ?_
                                      refine z_iconst C (pc := 718) (v := nI 1) dL_law_718 (by decide) ?_
                                      refine z_iconst C (pc := 719) (v := nI 1) dL_law_719 (by decide) ?_
                                      refine z_bipush C (pc := 720) (v := nI 41) dL_law_720 (by decide) ?_
                                      refine z_calliL C (by exact fun _ => cW_ad) (runV C (wc := (cW cI a i38 r38)) (pc := 722) (rY' := rm 4 92) (nn := 3) (As := [.int (nI 1), .int (nI 1), .int (nI 41)]) (rest := []) (c_march l D cI tt a i38 r38 (nI 1) (nI 1) (nI 41) z hz38 vz) (apL_hC _ _) (full_nd _) ⟨rfl, rfl, ⟨Nat.le_of_ble_eq_true rfl, Nat.le_of_ble_eq_true rfl⟩, (by show 72 + 2 + 2 ≤ 600000; omega), (by show 600 + 18 + 18 ≤ 7302250; omega)⟩ wl_L_69 wm_X3_march we_X3_march wi_X3 wc_X3_march (by decide +kernel) rfl 0 rfl rfl rfl rfl (Nat.le_of_ble_eq_true rfl) dL_law_722) (fun q_40 u_40 h_40 => ?_)
                                      obtain ⟨i40, r40⟩ := u_40
                                      try dsimp only at h_40
                                      obtain ⟨k0, hz40⟩ := h_40
                                      rw [show marchF z (nI 1) (nI 1) (nI 41) = (-102, z) from if_pos (tl_mF (by decide))] at k0 hz40
                                      refine z_ws (st' := [.int q_40]) (ws' := ((cW cI a i40 r40) ++ [(ab, .inl (cI, 7, .inl fb)), (ad, .inl (cI, 9, .inl fd)), (ar, .inl (cI, 3, .inl frw_4)), (ac, .inl (cI, 9, .inl fc)), (aT, .inl (cI, 15, .inl ft))])) rfl rfl ?_
                                      refine z_seti (y := -102) k0 ?_
                                      refine z_bipush C (pc := 725) (v := (-102)) dL_law_725 (by decide) ?_
                                      refine z_icmp_ne C (pc := 727) (tgt := 821) dL_law_727 (by decide) (fun c_41 => ?_) (fun c_41 => ?_)
                                      · exact absurd c_41 (by decide)
                                      · refine z_aload_n C (pc := 730) dL_law_730 rfl ?_
                                        refine z_iconst C (pc := 731) (v := nI 1) dL_law_731 (by decide) ?_
                                        refine z_iconst C (pc := 732) (v := nI 1) dL_law_732 (by decide) ?_
                                        refine z_iconst C (pc := 733) (v := (-1)) dL_law_733 (by decide) ?_
                                        refine z_calliL C (by exact fun _ => cW_ad) (runV C (wc := (cW cI a i40 r40)) (pc := 734) (rY' := rm 4 92) (nn := 3) (As := [.int (nI 1), .int (nI 1), .int (-1)]) (rest := []) (c_march l D cI tt a i40 r40 (nI 1) (nI 1) (-1) z hz40 vz) (apL_hC _ _) (full_nd _) ⟨rfl, rfl, ⟨Nat.le_of_ble_eq_true rfl, Nat.le_of_ble_eq_true rfl⟩, (by show 72 + 2 + 2 ≤ 600000; omega), (by show 600 + 18 + 18 ≤ 7302250; omega)⟩ wl_L_69 wm_X3_march we_X3_march wi_X3 wc_X3_march (by decide +kernel) rfl 0 rfl rfl rfl rfl (Nat.le_of_ble_eq_true rfl) dL_law_734) (fun q_42 u_42 h_42 => ?_)
                                        obtain ⟨i42, r42⟩ := u_42
                                        try dsimp only at h_42
                                        obtain ⟨k0, hz42⟩ := h_42
                                        rw [show marchF z (nI 1) (nI 1) (-1) = (-102, z) from if_pos (tl_mF (by decide))] at k0 hz42
                                        refine z_ws (st' := [.int q_42]) (ws' := ((cW cI a i42 r42) ++ [(ab, .inl (cI, 7, .inl fb)), (ad, .inl (cI, 9, .inl fd)), (ar, .inl (cI, 3, .inl frw_4)), (ac, .inl (cI, 9, .inl fc)), (aT, .inl (cI, 15, .inl ft))])) rfl rfl ?_
                                        refine z_seti (y := -102) k0 ?_
                                        refine z_bipush C (pc := 737) (v := (-102)) dL_law_737 (by decide) ?_
                                        refine z_icmp_ne C (pc := 739) (tgt := 821) dL_law_739 (by decide) (fun c_43 => ?_) (fun c_43 => ?_)
                                        · exact absurd c_43 (by decide)
                                        · refine z_aload_n C (pc := 742) dL_law_742 rfl ?_
                                          refine z_iconst C (pc := 743) (v := nI 0) dL_law_743 (by decide) ?_
                                          refine z_iconst C (pc := 744) (v := nI 1) dL_law_744 (by decide) ?_
                                          refine z_iconst C (pc := 745) (v := nI 0) dL_law_745 (by decide) ?_
                                          refine z_iconst C (pc := 746) (v := nI 0) dL_law_746 (by decide) ?_
                                          refine z_calliL C (by exact fun _ => cW_ad) (runV C (wc := (cW cI a i42 r42)) (pc := 747) (rY' := rm 4 92) (nn := 4) (As := [.int (nI 0), .int (nI 1), .int (nI 0), .int (nI 0)]) (rest := []) (c_would l D cI tt a i42 r42 (nI 0) (nI 1) (nI 0) (nI 0) z hz42 vz) (apL_hC _ _) (full_nd _) ⟨rfl, rfl, ⟨Nat.le_of_ble_eq_true rfl, Nat.le_of_ble_eq_true rfl⟩, (by show 72 + 2 + 2 ≤ 600000; omega), (by show 600 + 18 + 18 ≤ 7302250; omega)⟩ wl_L_103 wm_X3_would we_X3_would wi_X3 wc_X3_would (by decide +kernel) rfl 0 rfl rfl rfl rfl (Nat.le_of_ble_eq_true rfl) dL_law_747) (fun q_44 u_44 h_44 => ?_)
                                          obtain ⟨i44, r44⟩ := u_44
                                          try dsimp only at h_44
                                          obtain ⟨k0, hz44⟩ := h_44
                                          refine z_ws (st' := [.int q_44]) (ws' := ((cW cI a i44 r44) ++ [(ab, .inl (cI, 7, .inl fb)), (ad, .inl (cI, 9, .inl fd)), (ar, .inl (cI, 3, .inl frw_4)), (ac, .inl (cI, 9, .inl fc)), (aT, .inl (cI, 15, .inl ft))])) rfl rfl ?_
                                          refine z_seti (y := (-102)) (k0.trans (if_pos (Or.inl tl_m0))) ?_
                                          refine z_bipush C (pc := 750) (v := (-102)) dL_law_750 (by decide) ?_
                                          refine z_icmp_ne C (pc := 752) (tgt := 821) dL_law_752 (by decide) (fun c_45 => ?_) (fun c_45 => ?_)
                                          · exact absurd c_45 (by decide)
                                          · refine z_aload_n C (pc := 755) dL_law_755 rfl ?_
                                            refine z_iconst C (pc := 756) (v := nI 1) dL_law_756 (by decide) ?_
                                            refine z_iconst C (pc := 757) (v := nI 1) dL_law_757 (by decide) ?_
                                            refine z_iconst C (pc := 758) (v := nI 0) dL_law_758 (by decide) ?_
                                            refine z_iconst C (pc := 759) (v := nI 4) dL_law_759 (by decide) ?_
                                            refine z_calliL C (by exact fun _ => cW_ad) (runV C (wc := (cW cI a i44 r44)) (pc := 760) (rY' := rm 4 92) (nn := 4) (As := [.int (nI 1), .int (nI 1), .int (nI 0), .int (nI 4)]) (rest := []) (c_would l D cI tt a i44 r44 (nI 1) (nI 1) (nI 0) (nI 4) z hz44 vz) (apL_hC _ _) (full_nd _) ⟨rfl, rfl, ⟨Nat.le_of_ble_eq_true rfl, Nat.le_of_ble_eq_true rfl⟩, (by show 72 + 2 + 2 ≤ 600000; omega), (by show 600 + 18 + 18 ≤ 7302250; omega)⟩ wl_L_103 wm_X3_would we_X3_would wi_X3 wc_X3_would (by decide +kernel) rfl 0 rfl rfl rfl rfl (Nat.le_of_ble_eq_true rfl) dL_law_760) (fun q_46 u_46 h_46 => ?_)
                                            obtain ⟨i46, r46⟩ := u_46
                                            try dsimp only at h_46
                                            obtain ⟨k0, hz46⟩ := h_46
                                            refine z_ws (st' := [.int q_46]) (ws' := ((cW cI a i46 r46) ++ [(ab, .inl (cI, 7, .inl fb)), (ad, .inl (cI, 9, .inl fd)), (ar, .inl (cI, 3, .inl frw_4)), (ac, .inl (cI, 9, .inl fc)), (aT, .inl (cI, 15, .inl ft))])) rfl rfl ?_
                                            refine z_seti (y := (-102)) (k0.trans (if_pos (Or.inr (Or.inr (by decide))))) ?_
                                            refine z_bipush C (pc := 763) (v := (-102)) dL_law_763 (by decide) ?_
                                            refine z_icmp_ne C (pc := 765) (tgt := 821) dL_law_765 (by decide) (fun c_47 => ?_) (fun c_47 => ?_)
                                            · exact absurd c_47 (by decide)
                                            · refine z_aload_n C (pc := 768) dL_law_768 rfl ?_
                                              refine z_iconst C (pc := 769) (v := nI 0) dL_law_769 (by decide) ?_
                                              refine z_iconst C (pc := 770) (v := nI 0) dL_law_770 (by decide) ?_
                                              refine z_iconst C (pc := 771) (v := nI 0) dL_law_771 (by decide) ?_
                                              refine z_calliL C (by exact fun _ => cW_ad) (runV C (wc := (cW cI a i46 r46)) (pc := 772) (rY' := rm 6 140) (nn := 3) (As := [.int (nI 0), .int (nI 0), .int (nI 0)]) (rest := []) (c_winters l D cI tt a i46 r46 (nI 0) (nI 0) (nI 0) z hz46 vz) (apL_hC _ _) (full_nd _) ⟨rfl, rfl, ⟨Nat.le_of_ble_eq_true rfl, Nat.le_of_ble_eq_true rfl⟩, (by show 72 + 2 + 2 ≤ 600000; omega), (by show 600 + 18 + 18 ≤ 7302250; omega)⟩ wl_L_112 wm_X3_winters we_X3_winters wi_X3 wc_X3_winters (by decide +kernel) rfl 0 rfl rfl rfl rfl (Nat.le_of_ble_eq_true rfl) dL_law_772) (fun q_48 u_48 h_48 => ?_)
                                              obtain ⟨i48, r48⟩ := u_48
                                              try dsimp only at h_48
                                              obtain ⟨k0, hz48⟩ := h_48
                                              refine z_ws (st' := [.int q_48]) (ws' := ((cW cI a i48 r48) ++ [(ab, .inl (cI, 7, .inl fb)), (ad, .inl (cI, 9, .inl fd)), (ar, .inl (cI, 3, .inl frw_4)), (ac, .inl (cI, 9, .inl fc)), (aT, .inl (cI, 15, .inl ft))])) rfl rfl ?_
                                              refine z_seti (y := (-102)) (k0.trans (if_pos (Or.inl (by decide)))) ?_
                                              refine z_bipush C (pc := 775) (v := (-102)) dL_law_775 (by decide) ?_
                                              refine z_icmp_ne C (pc := 777) (tgt := 821) dL_law_777 (by decide) (fun c_49 => ?_) (fun c_49 => ?_)
                                              · exact absurd c_49 (by decide)
                                              · refine z_aload_n C (pc := 780) dL_law_780 rfl ?_
                                                refine z_bipush C (pc := 781) (v := nI 21) dL_law_781 (by decide) ?_
                                                refine z_iconst C (pc := 783) (v := nI 0) dL_law_783 (by decide) ?_
                                                refine z_iconst C (pc := 784) (v := nI 0) dL_law_784 (by decide) ?_
                                                refine z_calliL C (by exact fun _ => cW_ad) (runV C (wc := (cW cI a i48 r48)) (pc := 785) (rY' := rm 6 140) (nn := 3) (As := [.int (nI 21), .int (nI 0), .int (nI 0)]) (rest := []) (c_winters l D cI tt a i48 r48 (nI 21) (nI 0) (nI 0) z hz48 vz) (apL_hC _ _) (full_nd _) ⟨rfl, rfl, ⟨Nat.le_of_ble_eq_true rfl, Nat.le_of_ble_eq_true rfl⟩, (by show 72 + 2 + 2 ≤ 600000; omega), (by show 600 + 18 + 18 ≤ 7302250; omega)⟩ wl_L_112 wm_X3_winters we_X3_winters wi_X3 wc_X3_winters (by decide +kernel) rfl 0 rfl rfl rfl rfl (Nat.le_of_ble_eq_true rfl) dL_law_785) (fun q_50 u_50 h_50 => ?_)
                                                obtain ⟨i50, r50⟩ := u_50
                                                try dsimp only at h_50
                                                obtain ⟨k0, hz50⟩ := h_50
                                                refine z_ws (st' := [.int q_50]) (ws' := ((cW cI a i50 r50) ++ [(ab, .inl (cI, 7, .inl fb)), (ad, .inl (cI, 9, .inl fd)), (ar, .inl (cI, 3, .inl frw_4)), (ac, .inl (cI, 9, .inl fc)), (aT, .inl (cI, 15, .inl ft))])) rfl rfl ?_
                                                refine z_seti (y := (-102)) (k0.trans (if_pos (Or.inr (Or.inl (by decide))))) ?_
                                                refine z_bipush C (pc := 788) (v := (-102)) dL_law_788 (by decide) ?_
                                                refine z_icmp_ne C (pc := 790) (tgt := 821) dL_law_790 (by decide) (fun c_51 => ?_) (fun c_51 => ?_)
                                                · exact absurd c_51 (by decide)
                                                · refine z_aload_n C (pc := 793) dL_law_793 rfl ?_
                                                  refine z_iconst C (pc := 794) (v := nI 1) dL_law_794 (by decide) ?_
                                                  refine z_iconst C (pc := 795) (v := (-1)) dL_law_795 (by decide) ?_
                                                  refine z_iconst C (pc := 796) (v := nI 0) dL_law_796 (by decide) ?_
                                                  refine z_calliL C (by exact fun _ => cW_ad) (runV C (wc := (cW cI a i50 r50)) (pc := 797) (rY' := rm 6 140) (nn := 3) (As := [.int (nI 1), .int (-1), .int (nI 0)]) (rest := []) (c_winters l D cI tt a i50 r50 (nI 1) (-1) (nI 0) z hz50 vz) (apL_hC _ _) (full_nd _) ⟨rfl, rfl, ⟨Nat.le_of_ble_eq_true rfl, Nat.le_of_ble_eq_true rfl⟩, (by show 72 + 2 + 2 ≤ 600000; omega), (by show 600 + 18 + 18 ≤ 7302250; omega)⟩ wl_L_112 wm_X3_winters we_X3_winters wi_X3 wc_X3_winters (by decide +kernel) rfl 0 rfl rfl rfl rfl (Nat.le_of_ble_eq_true rfl) dL_law_797) (fun q_52 u_52 h_52 => ?_)
                                                  obtain ⟨i52, r52⟩ := u_52
                                                  try dsimp only at h_52
                                                  obtain ⟨k0, hz52⟩ := h_52
                                                  refine z_ws (st' := [.int q_52]) (ws' := ((cW cI a i52 r52) ++ [(ab, .inl (cI, 7, .inl fb)), (ad, .inl (cI, 9, .inl fd)), (ar, .inl (cI, 3, .inl frw_4)), (ac, .inl (cI, 9, .inl fc)), (aT, .inl (cI, 15, .inl ft))])) rfl rfl ?_
                                                  refine z_seti (y := (-102)) (k0.trans (if_pos (Or.inr (Or.inr (Or.inl (by decide)))))) ?_
                                                  refine z_bipush C (pc := 800) (v := (-102)) dL_law_800 (by decide) ?_
                                                  refine z_icmp_ne C (pc := 802) (tgt := 821) dL_law_802 (by decide) (fun c_53 => ?_) (fun c_53 => ?_)
                                                  · exact absurd c_53 (by decide)
                                                  · refine z_aload_n C (pc := 805) dL_law_805 rfl ?_
                                                    refine z_iconst C (pc := 806) (v := nI 1) dL_law_806 (by decide) ?_
                                                    refine z_iconst C (pc := 807) (v := nI 0) dL_law_807 (by decide) ?_
                                                    refine z_iconst C (pc := 808) (v := nI 3) dL_law_808 (by decide) ?_
                                                    refine z_calliL C (by exact fun _ => cW_ad) (runV C (wc := (cW cI a i52 r52)) (pc := 809) (rY' := rm 6 140) (nn := 3) (As := [.int (nI 1), .int (nI 0), .int (nI 3)]) (rest := []) (c_winters l D cI tt a i52 r52 (nI 1) (nI 0) (nI 3) z hz52 vz) (apL_hC _ _) (full_nd _) ⟨rfl, rfl, ⟨Nat.le_of_ble_eq_true rfl, Nat.le_of_ble_eq_true rfl⟩, (by show 72 + 2 + 2 ≤ 600000; omega), (by show 600 + 18 + 18 ≤ 7302250; omega)⟩ wl_L_112 wm_X3_winters we_X3_winters wi_X3 wc_X3_winters (by decide +kernel) rfl 0 rfl rfl rfl rfl (Nat.le_of_ble_eq_true rfl) dL_law_809) (fun q_54 u_54 h_54 => ?_)
                                                    obtain ⟨i54, r54⟩ := u_54
                                                    try dsimp only at h_54
                                                    obtain ⟨k0, hz54⟩ := h_54
                                                    refine z_ws (st' := [.int q_54]) (ws' := ((cW cI a i54 r54) ++ [(ab, .inl (cI, 7, .inl fb)), (ad, .inl (cI, 9, .inl fd)), (ar, .inl (cI, 3, .inl frw_4)), (ac, .inl (cI, 9, .inl fc)), (aT, .inl (cI, 15, .inl ft))])) rfl rfl ?_
                                                    refine z_seti (y := (-102)) (k0.trans (if_pos (Or.inr (Or.inr (Or.inr (Or.inr (by decide))))))) ?_
                                                    refine z_bipush C (pc := 812) (v := (-102)) dL_law_812 (by decide) ?_
                                                    refine z_icmp_ne C (pc := 814) (tgt := 821) dL_law_814 (by decide) (fun c_55 => ?_) (fun c_55 => ?_)
                                                    · exact absurd c_55 (by decide)
                                                    · exact hend _ _
