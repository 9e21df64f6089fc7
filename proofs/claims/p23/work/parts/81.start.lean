/-! the start: what the Statement gives of it, as the methods want it -/
theorem st_one {args : Array Value} {s : State} {A : Nat → Prop} {CN nm : String} {vals : Nat → Int32} (hl : (Cond.laysStatic CN nm "[I").before args s = true) (hini : (Cond.initialized CN).before args s = true) (harr : (Cond.arrayOf (.static CN nm "[I") .int).before args s = true) (hlen : (Cond.eq (.length (.static CN nm "[I")) (.int 5)).before args s = true)
    (hel : ∀ j : Nat, j < 5 → (Cond.eq (.elem (.static CN nm "[I") (.int (Int32.ofNat j))) (.int (vals j))).before args s = true) (hA : ∀ a : Nat, a < s.heap.size → ¬ A a) : ∃ t : Nat, va_Z CN nm "[I" (.ref t) A s s.heap ∧ va_T .int t 5 (fun j => .int (vals j)) A s s.heap := by
  obtain ⟨t, h1, h2⟩ := va_Tof (N := 5) (f := fun j => .int (vals j)) (by decide) harr (va_eqt hlen) (fun j hj => va_eqt (hel j hj)) hA
  exact ⟨t, va_Zref hl hini h1 hA, h2⟩
theorem lt5 {P : Nat → Prop} (h0 : P 0) (h1 : P 1) (h2 : P 2) (h3 : P 3) (h4 : P 4) : ∀ j : Nat, j < 5 → P j
  | 0, _ => h0
  | 1, _ => h1
  | 2, _ => h2
  | 3, _ => h3
  | 4, _ => h4
  | j + 5, h => absurd h (by omega)
set_option maxRecDepth 100000 in
set_option maxHeartbeats 4000000 in
theorem lw_cx {p : Program} {s : State} {m : MethodId} {meth : Method} {c : Code} {b L : Nat} {xs : Nat → Int32} (C0 : lw_At p s m meth c b L xs) : ∃ (D : va_G) (cI : ClassId) (tt : Nat × Nat × Nat), Cx p s m #[.ref b] meth c RL cL_law 15 ret D cI tt (fun q => s.heap.size ≤ q) := by
  obtain ⟨hx, hb, hr, hml, hown, hts, hX, hbl, hlocks, hgv⟩ := id C0
  have hT : ∀ w ∈ TB, w.before #[Value.ref b] s = true := fun w hw => hts w (List.mem_filter.mp hw).1
  have hN : NN s := fun w hw => by
    obtain ⟨h1, h2⟩ := List.mem_filter.mp hw
    rcases nest_forms h2 with ⟨a, i, b', n, d, t, rfl⟩ | ⟨a, i, x, t, rfl⟩
    · exact va_Nw.of rfl (hts _ h1)
    · exact va_Nw.of rfl (hts _ h1)
  have hA : ∀ a : Nat, a < s.heap.size → ¬ (fun q : Nat => s.heap.size ≤ q) a := fun a h => Nat.not_le.mpr h
  have hs := flat_of_before _ hgv
  obtain ⟨c0, s0, k0⟩ := u_known (C := RX0) (T := TX0) (N := 2) (n := 2) hT wf_X0 (hT _ wn_X0)
  obtain ⟨c1, s1, k1⟩ := u_known (C := RX1) (T := TX1) (N := 8) (n := 8) hT wf_X1 (hT _ wn_X1)
  obtain ⟨c2, s2, k2⟩ := u_known (C := RX2) (T := TX2) (N := 9) (n := 9) hT wf_X2 (hT _ wn_X2)
  obtain ⟨c3, s3, k3⟩ := u_known (C := RX3) (T := TX3) (N := 8) (n := 8) hT wf_X3 (hT _ wn_X3)
  obtain ⟨dC, dI, hKc⟩ : ∃ (dC : Nat → ClassId) (dI : Nat → Nat → Nat), ∀ (k : Nat) (q : vw_C), vwCl[k]? = some q → u_Kn s q.1 q.2.1 q.2.2 (dC k) (dI k) := by
    refine ⟨fun k => match k with | 0 => c0 | 1 => c1 | 2 => c2 | _ => c3, fun k => match k with | 0 => s0 | 1 => s1 | 2 => s2 | _ => s3, ?_⟩
    intro k q hq
    match k, hq with
    | 0, hq => cases hq; exact k0
    | 1, hq => cases hq; exact k1
    | 2, hq => cases hq; exact k2
    | 3, hq => cases hq; exact k3
    | k + 4, hq => simp [vwCl] at hq
  obtain ⟨cI, kA, comp, f1, f2, f3⟩ := Cond.arrayClass_spec (hT _ w_arr)
  have hK : va_K (dC, dI) vwCl [(cI, .int)] s := ⟨hKc, fun k q hq => by
    match k, hq with
    | 0, hq => cases hq; exact ⟨fun n z => ⟨fun k h => (by cases h), kA, f2, comp, f3⟩, f1⟩
    | k + 1, hq => simp at hq⟩
  obtain ⟨t0, z0, x0⟩ := st_one (CN := RX3) (nm := "PULLS") (vals := pullsV) (hts _ wz_PULLS) (hT _ wi_X3) (hs _ (by decide +kernel)) (hs _ (by decide +kernel)) (lt5 (hs _ (by decide +kernel)) (hs _ (by decide +kernel)) (hs _ (by decide +kernel)) (hs _ (by decide +kernel)) (hs _ (by decide +kernel))) hA
  obtain ⟨t1, z1, x1⟩ := st_one (CN := RX3) (nm := "EATS") (vals := eatsV) (hts _ wz_EATS) (hT _ wi_X3) (hs _ (by decide +kernel)) (hs _ (by decide +kernel)) (lt5 (hs _ (by decide +kernel)) (hs _ (by decide +kernel)) (hs _ (by decide +kernel)) (hs _ (by decide +kernel)) (hs _ (by decide +kernel))) hA
  obtain ⟨t2, z2, x2⟩ := st_one (CN := RX3) (nm := "FEEDS") (vals := feedsV) (hts _ wz_FEEDS) (hT _ wi_X3) (hs _ (by decide +kernel)) (hs _ (by decide +kernel)) (lt5 (hs _ (by decide +kernel)) (hs _ (by decide +kernel)) (hs _ (by decide +kernel)) (hs _ (by decide +kernel)) (hs _ (by decide +kernel))) hA
  exact ⟨(dC, dI), cI, (t0, t1, t2), hx, hb, hml, hown, hT, hK, hN, ⟨⟨z0, x0⟩, ⟨z1, x1⟩, z2, x2⟩, hr, hlocks, fun _ h => h⟩
theorem lw_end {p : Program} {l : Launch} {e : Env} {s : State} {m : MethodId} {below : List Frame} {meth : Method} {c : Code} {D : va_G} {cI : ClassId} {tt : Nat × Nat × Nat} {b : Nat} (C : Cx p s m #[.ref b] meth c RL cL_law 15 ret D cI tt (fun q => s.heap.size ≤ q)) (lv : List (Nat × Value)) (ws : va_W) : Z p l e room_1 s m #[.ref b] below meth c D (fun q => s.heap.size ≤ q) 15 76 636 (lw_Z below #[Value.ref b] s) 817 lv [] ws := by
  refine z_iconst C (pc := 817) (v := 1) dL_law_817 (by decide) ?_
  refine z_goto C (pc := 818) (tgt := 822) dL_law_818 rfl ?_
  refine z_widen (ce' := 600000) (sl' := 7302250) (Nat.le_of_ble_eq_true rfl) (Nat.le_of_ble_eq_true rfl) ?_
  exact fun H locs ls h1 h2 h3 h4 => va_forget h3.2.2 (lw_ret C.1 C.2.1 C.2.2.2.2.2.2.2.2.1 C.2.2.2.2.2.2.2.2.2.1 dL_law_822)
set_option maxRecDepth 100000 in
set_option maxHeartbeats 4000000 in
theorem whole_start {p : Program} {e : Env} {s : State} {m : MethodId} {below : List Frame} {meth : Method} {c : Code} (l : Launch) (hflags : l.flags = flags0) {b L : Nat} {xs : Nat → Int32} (hL : L ≤ 260) (C0 : lw_At p s m meth c b L xs) : W p l e room_1 s m #[Value.ref b] below meth c s.heap [] 0 0 (lw_Z below #[Value.ref b] s) (entryFrame m ([Value.ref b] : List Value).toArray 15) := by
  obtain ⟨D, cI, tt, C⟩ := lw_cx C0
  have hX := C0.2.2.2.2.2.2.1
  have hbl := C0.2.2.2.2.2.2.2.1
  have hbA : ¬ (fun q : Nat => s.heap.size ≤ q) b := Nat.not_le.mpr hbl
  have hl := lv_entry ([.ref b]) (n := 15) (Nat.le_of_ble_eq_true rfl)
  rw [lg_entry_eq]
  have K : Z p l e room_1 s m #[.ref b] below meth c D (fun q => s.heap.size ≤ q) 15 0 0 (lw_Z below #[Value.ref b] s) 0 [(0, .ref b)] [] [] := by
    refine z_new C (pc := 0) (ci := 3) rfl wf_X3 tyX3 tyX3_ok wl_L_15 wn_X3 wi_X3 df_X3 (Nat.le_of_ble_eq_true rfl) (Nat.le_of_ble_eq_true rfl) dL_law_0 (fun x => ?_)
    refine z_ws (ws' := [(x, .inr (3, [.null, .null, .null, .null, .null, .int 0, .int 0, .int 0]))]) rfl rfl ?_
    refine z_dup C (pc := 3) dL_law_3 rfl ?_
    refine z_callN C (pc := 4) (isC := [0]) (isR := []) (wc := [(x, .inr (3, [.null, .null, .null, .null, .null, .int 0, .int 0, .int 0]))]) (wr := []) rfl rfl (by decide) (by decide) (runI C (pc := 4) (n_depots l D cI tt x) [0] rfl (by decide) ⟨rfl, rfl, ⟨Nat.le_of_ble_eq_true rfl, Nat.le_of_ble_eq_true rfl⟩, Nat.le_of_ble_eq_true rfl, Nat.le_of_ble_eq_true rfl⟩ wl_L_72 wm_X3_init wi_X3 wc_X3_init (by decide +kernel) rfl rfl (Nat.le_of_ble_eq_true rfl) dL_law_4) (fun u1 _ => ?_)
    refine z_ws (ws' := cW cI (ca x u1) (fun _ => 0) (fun _ _ => 0)) rfl rfl ?_
    refine z_astore_n C (pc := 7) dL_law_7 (by decide) rfl (lv' := [(0, .ref b), (1, .ref x)]) rfl ?_
    refine z_bipush C (pc := 8) (v := nI 7) dL_law_8 (by decide) ?_
    refine z_newa C (pc := 10) (N := 7) (by decide) (by decide) (by decide) (Nat.le_of_ble_eq_true rfl) (Nat.le_of_ble_eq_true rfl) dL_law_10 (fun ab => ?_)
    refine z_astore_n C (pc := 12) dL_law_12 (by decide) rfl (lv' := [(0, .ref b), (1, .ref x), (2, .ref ab)]) rfl ?_
    refine z_bipush C (pc := 13) (v := nI 9) dL_law_13 (by decide) ?_
    refine z_newa C (pc := 15) (N := 9) (by decide) (by decide) (by decide) (Nat.le_of_ble_eq_true rfl) (Nat.le_of_ble_eq_true rfl) dL_law_15 (fun ad => ?_)
    refine z_astore_n C (pc := 17) dL_law_17 (by decide) rfl (lv' := [(0, .ref b), (1, .ref x), (2, .ref ab), (3, .ref ad)]) rfl ?_
    refine z_bipush C (pc := 18) (v := nI 9) dL_law_18 (by decide) ?_
    refine z_newa C (pc := 20) (N := 9) (by decide) (by decide) (by decide) (Nat.le_of_ble_eq_true rfl) (Nat.le_of_ble_eq_true rfl) dL_law_20 (fun ac => ?_)
    refine z_astore C (pc := 22) dL_law_22 (Nat.le_of_ble_eq_true rfl) rfl (lv' := [(0, .ref b), (1, .ref x), (2, .ref ab), (3, .ref ad), (4, .ref ac)]) rfl ?_
    refine z_iconst C (pc := 24) (v := nI 3) dL_law_24 (by decide) ?_
    refine z_newa C (pc := 25) (N := 3) (by decide) (by decide) (by decide) (Nat.le_of_ble_eq_true rfl) (Nat.le_of_ble_eq_true rfl) dL_law_25 (fun ar => ?_)
    refine z_astore C (pc := 27) dL_law_27 (Nat.le_of_ble_eq_true rfl) rfl (lv' := [(0, .ref b), (1, .ref x), (2, .ref ab), (3, .ref ad), (4, .ref ac), (5, .ref ar)]) rfl ?_
    refine z_bipush C (pc := 29) (v := nI 15) dL_law_29 (by decide) ?_
    refine z_newa C (pc := 31) (N := 15) (by decide) (by decide) (by decide) (Nat.le_of_ble_eq_true rfl) (Nat.le_of_ble_eq_true rfl) dL_law_31 (fun aT => ?_)
    refine z_astore C (pc := 33) dL_law_33 (Nat.le_of_ble_eq_true rfl) rfl (lv' := [(0, .ref b), (1, .ref x), (2, .ref ab), (3, .ref ad), (4, .ref ac), (5, .ref ar), (6, .ref aT)]) rfl ?_
    refine z_sub (wc := (cW cI (ca x u1) (fun _ => 0) (fun _ _ => 0) ++ [(aT, .inl (cI, 15, .inl (fun _ => 0))), (ab, .inl (cI, 7, .inl (fun _ => 0))), (ad, .inl (cI, 9, .inl (fun _ => 0))), (ar, .inl (cI, 3, .inl (fun _ => 0))), (ac, .inl (cI, 9, .inl (fun _ => 0)))])) [0, 1, 2, 3, 4, 5, 6, 7, 8, 9, 10, 11, 12, 13, 14, 15, 16, 17, 18, 23, 19, 20, 22, 21] rfl rfl ?_
    exact lw_camp (fb := fun _ => 0) (ft := fun _ => 0) C hX hbl hbA hL z0 _ _ _ _ _ _ _ cl_0 vs_0 rfl (fun fb ft z i r fd fc fr hz vz hli =>
      lw_as C hX hbl hbA hL z i r fd fc fr hz vz hli (fun i' r' hz' =>
        lw_turns C hX hbl hbA hL z i' r' fd fc fr hz' vz hli (fun z i r fd fc fr hz vz hli =>
          lw_tail C hX hbl hbA hL z i r fd fc fr hz vz hli (nI 24) (fun lv ws => lw_end C lv ws))))
  exact K s.heap [] _ (fun k q h => by simp at h) ⟨fun i j p q h => by simp at h, fun k q h => by simp at h⟩ va_S.rf hl
