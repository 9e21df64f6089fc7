/-! calls of constructors: what was beside the callee's cells, then what came back -/
section ZC
variable {p : Program} {l : Launch} {e : Env} {R : Room} {s : State} {m : MethodId} {args : Array Value} {below : List Frame} {meth : Method} {c : Code} {D : va_G} {A : Nat → Prop} {n ce sl : Nat} {Q : State → Prop} {own : String} {cc : ByteArray} {rt : Option FieldType} {cI : ClassId} {tt : Nat × Nat × Nat} {pc : Nat} {lv : List (Nat × Value)} {st : List Value} {ws : va_W}
variable {y : MethodName} {bytes : ByteArray} {nY : Nat} {rY' : Room} {wc wr : va_W} {isC isR : List Nat} {st0 rest : List Value} {idx mc ms : Nat} {Qa : Nat → Array Value → State → Outcome → State → Prop}
def RunsN (p : Program) (l : Launch) (e : Env) (R : Room) (s : State) (m : MethodId) (args : Array Value) (below : List Frame) (meth : Method) (c : Code) (D : va_G) (A : Nat → Prop) (n ce sl mc ms : Nat) (pc : Nat) (st0 rest : List Value) (ws wc : va_W) (Qa : Nat → Array Value → State → Outcome → State → Prop) : Prop :=
  ∀ (H : Heap) (locs : List Loc) (ls : Array Slot), va_P D vwCl ws H → va_D A ws → va_S A s.heap H locs → ls.size = n → ∃ a, va_Run p l e R s m args below meth c H locs ce sl mc ms (F0 m pc ls st0) rest (Qa H.size a) (va_A wc H.size)
theorem z_callN {S : Type} {post : S → Prop} {wf : S → va_W} (C : Cx p s m args meth c own cc n rt D cI tt A) (hC : isC.map (fun i => ws[i]?) = wc.map some) (hR : isR.map (fun i => ws[i]?) = wr.map some) (hn : va_nd isR = true) (hdis : ∀ i ∈ isR, i ∉ isC)
    (hr : RunsN p l e R s m args below meth c D A n ce sl mc ms pc st0 rest ws wc (fun sz => va_Qv post (fun u t => va_P D vwCl (wf u) t.heap ∧ va_D (va_A wc sz) (wf u)) (va_A wc sz)))
    (kk : ∀ u : S, post u → Z p l e R s m args below meth c D A n (ce + mc) (sl + ms) Q (pc + 3) lv rest (wr ++ wf u)) : Z p l e R s m args below meth c D A n ce sl Q pc lv st0 ws := fun H locs ls h1 h2 h3 h4 => by
  obtain ⟨a, hr⟩ := hr H locs ls h1 h2 h3 h4.1
  have hF := va_free h2 h3 C.2.2.2.2.2.2.2.2.2.2 isC hC
  refine va_callv hr h3 (fun q _ h => hF q h) hF (fun u t H1 locs1 ht hvm hw hB hz1 hk1 hS => ?_)
  have hB1 : va_P D vwCl (wf u) H1 := by rw [← ht]; exact hB.1
  obtain ⟨g1, g2⟩ := va_join h1 h2 isC isR hC hR hn hdis hk1 hF hB1 hB.2
  exact kk u hw H1 locs1 ls g1 g2 hS h4
theorem runIN {host : String} {b : Nat} (C : Cx p s m args meth c own cc n rt D cI tt A) (hM : ∀ sz : Nat, Met l y (.code y bytes nY none :: TB) rY' (va_Pc [.ref b] (Pre D cI tt wc sz)) (Qa sz) mc ms (va_A wc sz)) (isC : List Nat) (hC : isC.map (fun i => ws[i]?) = wc.map some) (hnd : va_nd isC = true) (hfit : rY'.cells = mc ∧ rY'.slots = ms ∧ (rY'.frames + 1 ≤ R.frames ∧ 8 + (nY + 11) + rY'.locals ≤ R.locals) ∧ ce + mc ≤ R.cells ∧ sl + ms ≤ R.slots)
    (hl : Cond.methodLinkNest own idx y host ∈ NB) (hm : Cond.instanceMethod y ∈ TB) (hi : Cond.initialized y.cls ∈ TB) (hc : Cond.code y bytes nY none ∈ TB) (hy : y.cls ≠ "java/lang/invoke/MethodHandle" ∧ y.cls ≠ "java/lang/invoke/VarHandle" ∧ (parseMethodDescriptor y.desc).map (fun d => d.parameters.length) = some 0) (hyi : y.name = "<init>")
    (hst : st0 = .ref b :: rest) (hcat : (rest.map fun v => v.category).sum ≤ 8) (hd : decode cc pc = .ok (.invokespecial idx, 3)) : RunsN p l e R s m args below meth c D A n ce sl mc ms pc st0 rest ws wc Qa := fun H locs ls h1 h2 h3 h4 => by
  obtain ⟨f1, f2, f3, f4, f5⟩ := hfit
  exact ⟨#[.ref b], va_runIN (fix_of C) (hM H.size) (n := 0) (As := []) ⟨va_cnB 0 C.2.2.2.2.1 (good_TB hc) rfl f1 f2 (C.2.2.2.2.2.2.1 _ hl) (C.2.2.2.2.1 _ hi) hy f3, hyi, C.2.2.2.2.1 _ hm⟩ ⟨pre_blind wc H.size _, fun U hU hW => ⟨rfl, pre_of C h1 h2 h3 hC hnd U hU hW⟩⟩ rfl rfl h4 hst (lv_room hcat) hd ⟨f4, f5⟩⟩
theorem runI {b : Nat} (C : Cx p s m args meth c own cc n rt D cI tt A) (hM : ∀ sz : Nat, Met l y (.code y bytes nY none :: TB) rY' (va_Pc [.ref b] (Pre D cI tt wc sz)) (Qa sz) mc ms (va_A wc sz)) (isC : List Nat) (hC : isC.map (fun i => ws[i]?) = wc.map some) (hnd : va_nd isC = true) (hfit : rY'.cells = mc ∧ rY'.slots = ms ∧ (rY'.frames + 1 ≤ R.frames ∧ 8 + (nY + 11) + rY'.locals ≤ R.locals) ∧ ce + mc ≤ R.cells ∧ sl + ms ≤ R.slots)
    (hl : Cond.methodLink own idx y ∈ TB) (hm : Cond.instanceMethod y ∈ TB) (hi : Cond.initialized y.cls ∈ TB) (hc : Cond.code y bytes nY none ∈ TB) (hy : y.cls ≠ "java/lang/invoke/MethodHandle" ∧ y.cls ≠ "java/lang/invoke/VarHandle" ∧ (parseMethodDescriptor y.desc).map (fun d => d.parameters.length) = some 0) (hyi : y.name = "<init>")
    (hst : st0 = .ref b :: rest) (hcat : (rest.map fun v => v.category).sum ≤ 8) (hd : decode cc pc = .ok (.invokespecial idx, 3)) : RunsN p l e R s m args below meth c D A n ce sl mc ms pc st0 rest ws wc Qa := fun H locs ls h1 h2 h3 h4 => by
  obtain ⟨f1, f2, f3, f4, f5⟩ := hfit
  exact ⟨#[.ref b], va_runI (fix_of C) (hM H.size) (n := 0) (As := []) (cwI 0 C.2.2.2.2.1 (good_TB hc) rfl f1 f2 (C.2.2.2.2.1 _ hi) (C.2.2.2.2.1 _ hl) (C.2.2.2.2.1 _ hm) hyi hy f3) ⟨pre_blind wc H.size _, fun U hU hW => ⟨rfl, pre_of C h1 h2 h3 hC hnd U hU hW⟩⟩ rfl rfl h4 hst (lv_room hcat) hd ⟨f4, f5⟩⟩
end ZC
theorem df_X0 : ∀ j, j < 2 → defaultValue (tyX0 j) = vp_V [.null, .int 0] j
  | 0, _ => rfl
  | 1, _ => rfl
  | j + 2, h => absurd h (by omega)
theorem df_X1 : ∀ j, j < 8 → defaultValue (tyX1 j) = vp_V [.null, .int 0, .null, .int 0, .int 0, .int 0, .int 0, .int 0] j
  | 0, _ => rfl
  | 1, _ => rfl
  | 2, _ => rfl
  | 3, _ => rfl
  | 4, _ => rfl
  | 5, _ => rfl
  | 6, _ => rfl
  | 7, _ => rfl
  | j + 8, h => absurd h (by omega)
theorem df_X2 : ∀ j, j < 9 → defaultValue (tyX2 j) = vp_V [.int 0, .null, .int 0, .int 0, .int 0, .null, .null, .null, .null] j
  | 0, _ => rfl
  | 1, _ => rfl
  | 2, _ => rfl
  | 3, _ => rfl
  | 4, _ => rfl
  | 5, _ => rfl
  | 6, _ => rfl
  | 7, _ => rfl
  | 8, _ => rfl
  | j + 9, h => absurd h (by omega)
theorem df_X3 : ∀ j, j < 8 → defaultValue (tyX3 j) = vp_V [.null, .null, .null, .null, .null, .int 0, .int 0, .int 0] j
  | 0, _ => rfl
  | 1, _ => rfl
  | 2, _ => rfl
  | 3, _ => rfl
  | 4, _ => rfl
  | 5, _ => rfl
  | 6, _ => rfl
  | 7, _ => rfl
  | j + 8, h => absurd h (by omega)
def ca (x : Nat) (q : Nat → Nat) : Nat → Nat := fun k => match k with
  | 0 => x
  | k + 1 => q k
set_option maxHeartbeats 4000000 in
theorem n_depots (l : Launch) (D : va_G) (cI : ClassId) (tt : Nat × Nat × Nat) (x : Nat) : MetN (S := Nat → Nat) l yX3_init cX3_init 1 { frames := 2, cells := 18, slots := 117, locals := 40 } D cI tt [.ref x] [(x, .inr (3, [.null, .null, .null, .null, .null, .int 0, .int 0, .int 0]))] 18 117 (fun _ => True) (fun q => cW cI (ca x q) (fun _ => 0) (fun _ _ => 0)) := by
  refine met_ofN (by decide) (Nat.le_of_ble_eq_true rfl) ?_
  intro pP eE sS mM aV bB mE cC AA C hin
  refine z_conv (lv' := [(0, .ref x)]) ⟨rfl, trivial⟩ rfl rfl ?_
  refine z_aload_n C (pc := 0) dX3_init_0 rfl ?_
  refine z_objInit C (pc := 1) wl_X3_1 (by decide) (by decide) (by decide) dX3_init_1 ?_
  refine z_aload_n C (pc := 4) dX3_init_4 rfl ?_
  refine z_new C (pc := 5) (ci := 0) rfl wf_X0 tyX0 tyX0_ok wl_X3_7 wn_X0 wi_X0 df_X0 (Nat.le_of_ble_eq_true rfl) (Nat.le_of_ble_eq_true rfl) dX3_init_5 (fun q0 => ?_)
  refine z_ws (ws' := [(x, .inr (3, [.null, .null, .null, .null, .null, .int 0, .int 0, .int 0])), (q0, .inr (0, [.null, .int 0]))]) rfl rfl ?_
  refine z_dup C (pc := 8) dX3_init_8 rfl ?_
  refine z_callN C (pc := 9) (isC := [1]) (isR := [0]) (wc := [(q0, .inr (0, [.null, .int 0]))]) (wr := [(x, .inr (3, [.null, .null, .null, .null, .null, .int 0, .int 0, .int 0]))]) rfl rfl (by decide) (by decide) (runIN C (pc := 9) (n_page l D cI tt q0) [1] rfl (by decide) ⟨rfl, rfl, ⟨Nat.le_of_ble_eq_true rfl, Nat.le_of_ble_eq_true rfl⟩, Nat.le_of_ble_eq_true rfl, Nat.le_of_ble_eq_true rfl⟩ wl_X3_9 wm_X0_init wi_X0 wc_X0_init (by decide +kernel) rfl rfl (Nat.le_of_ble_eq_true rfl) dX3_init_9) (fun u0 _ => ?_)
  refine z_ws (ws' := [(x, .inr (3, [.null, .null, .null, .null, .null, .int 0, .int 0, .int 0])), (q0, .inr (0, [.ref (u0), .int 0])), ((u0), .inl (cI, 15, .inl (fun _ => 0)))]) rfl rfl ?_
  refine z_putF C (pc := 12) 0 rfl rfl wf_X3 0 (by decide) rfl tyX3 tyX3_ok nmX3 rfl rfl rfl (Nat.le_of_ble_eq_true rfl) (ws' := [(x, .inr (3, [.ref q0, .null, .null, .null, .null, .int 0, .int 0, .int 0])), (q0, .inr (0, [.ref (u0), .int 0])), ((u0), .inl (cI, 15, .inl (fun _ => 0)))]) rfl wl_X3_10 (hin rfl) rfl dX3_init_12 ?_
  refine z_aload_n C (pc := 15) dX3_init_15 rfl ?_
  refine z_new C (pc := 16) (ci := 1) rfl wf_X1 tyX1 tyX1_ok wl_X3_16 wn_X1 wi_X1 df_X1 (Nat.le_of_ble_eq_true rfl) (Nat.le_of_ble_eq_true rfl) dX3_init_16 (fun q1 => ?_)
  refine z_ws (ws' := [(x, .inr (3, [.ref q0, .null, .null, .null, .null, .int 0, .int 0, .int 0])), (q0, .inr (0, [.ref (u0), .int 0])), ((u0), .inl (cI, 15, .inl (fun _ => 0))), (q1, .inr (1, [.null, .int 0, .null, .int 0, .int 0, .int 0, .int 0, .int 0]))]) rfl rfl ?_
  refine z_dup C (pc := 19) dX3_init_19 rfl ?_
  refine z_callN C (pc := 20) (isC := [3]) (isR := [0, 1, 2]) (wc := [(q1, .inr (1, [.null, .int 0, .null, .int 0, .int 0, .int 0, .int 0, .int 0]))]) (wr := [(x, .inr (3, [.ref q0, .null, .null, .null, .null, .int 0, .int 0, .int 0])), (q0, .inr (0, [.ref (u0), .int 0])), ((u0), .inl (cI, 15, .inl (fun _ => 0)))]) rfl rfl (by decide) (by decide) (runIN C (pc := 20) (n_party l D cI tt q1) [3] rfl (by decide) ⟨rfl, rfl, ⟨Nat.le_of_ble_eq_true rfl, Nat.le_of_ble_eq_true rfl⟩, Nat.le_of_ble_eq_true rfl, Nat.le_of_ble_eq_true rfl⟩ wl_X3_18 wm_X1_init wi_X1 wc_X1_init (by decide +kernel) rfl rfl (Nat.le_of_ble_eq_true rfl) dX3_init_20) (fun u1 _ => ?_)
  refine z_ws (ws' := [(x, .inr (3, [.ref q0, .null, .null, .null, .null, .int 0, .int 0, .int 0])), (q0, .inr (0, [.ref (u0), .int 0])), ((u0), .inl (cI, 15, .inl (fun _ => 0))), (q1, .inr (1, [.ref (u1 0), .int 0, .ref (u1 1), .int 0, .int 0, .int 0, .int 0, .int 0])), ((u1 0), .inl (cI, 6, .inl (fun _ => 0))), ((u1 1), .inl (cI, 5, .inl (fun _ => 0)))]) rfl rfl ?_
  refine z_putF C (pc := 23) 0 rfl rfl wf_X3 1 (by decide) rfl tyX3 tyX3_ok nmX3 rfl rfl rfl (Nat.le_of_ble_eq_true rfl) (ws' := [(x, .inr (3, [.ref q0, .ref q1, .null, .null, .null, .int 0, .int 0, .int 0])), (q0, .inr (0, [.ref (u0), .int 0])), ((u0), .inl (cI, 15, .inl (fun _ => 0))), (q1, .inr (1, [.ref (u1 0), .int 0, .ref (u1 1), .int 0, .int 0, .int 0, .int 0, .int 0])), ((u1 0), .inl (cI, 6, .inl (fun _ => 0))), ((u1 1), .inl (cI, 5, .inl (fun _ => 0)))]) rfl wl_X3_19 (hin rfl) rfl dX3_init_23 ?_
  refine z_aload_n C (pc := 26) dX3_init_26 rfl ?_
  refine z_new C (pc := 27) (ci := 2) rfl wf_X2 tyX2 tyX2_ok wl_X3_23 wn_X2 wi_X2 df_X2 (Nat.le_of_ble_eq_true rfl) (Nat.le_of_ble_eq_true rfl) dX3_init_27 (fun q2 => ?_)
  refine z_ws (ws' := [(x, .inr (3, [.ref q0, .ref q1, .null, .null, .null, .int 0, .int 0, .int 0])), (q0, .inr (0, [.ref (u0), .int 0])), ((u0), .inl (cI, 15, .inl (fun _ => 0))), (q1, .inr (1, [.ref (u1 0), .int 0, .ref (u1 1), .int 0, .int 0, .int 0, .int 0, .int 0])), ((u1 0), .inl (cI, 6, .inl (fun _ => 0))), ((u1 1), .inl (cI, 5, .inl (fun _ => 0))), (q2, .inr (2, [.int 0, .null, .int 0, .int 0, .int 0, .null, .null, .null, .null]))]) rfl rfl ?_
  refine z_dup C (pc := 30) dX3_init_30 rfl ?_
  refine z_callN C (pc := 31) (isC := [6]) (isR := [0, 1, 2, 3, 4, 5]) (wc := [(q2, .inr (2, [.int 0, .null, .int 0, .int 0, .int 0, .null, .null, .null, .null]))]) (wr := [(x, .inr (3, [.ref q0, .ref q1, .null, .null, .null, .int 0, .int 0, .int 0])), (q0, .inr (0, [.ref (u0), .int 0])), ((u0), .inl (cI, 15, .inl (fun _ => 0))), (q1, .inr (1, [.ref (u1 0), .int 0, .ref (u1 1), .int 0, .int 0, .int 0, .int 0, .int 0])), ((u1 0), .inl (cI, 6, .inl (fun _ => 0))), ((u1 1), .inl (cI, 5, .inl (fun _ => 0)))]) rfl rfl (by decide) (by decide) (runIN C (pc := 31) (n_standing l D cI tt q2) [6] rfl (by decide) ⟨rfl, rfl, ⟨Nat.le_of_ble_eq_true rfl, Nat.le_of_ble_eq_true rfl⟩, Nat.le_of_ble_eq_true rfl, Nat.le_of_ble_eq_true rfl⟩ wl_X3_25 wm_X2_init wi_X2 wc_X2_init (by decide +kernel) rfl rfl (Nat.le_of_ble_eq_true rfl) dX3_init_31) (fun u2 _ => ?_)
  refine z_ws (ws' := [(x, .inr (3, [.ref q0, .ref q1, .null, .null, .null, .int 0, .int 0, .int 0])), (q0, .inr (0, [.ref (u0), .int 0])), ((u0), .inl (cI, 15, .inl (fun _ => 0))), (q1, .inr (1, [.ref (u1 0), .int 0, .ref (u1 1), .int 0, .int 0, .int 0, .int 0, .int 0])), ((u1 0), .inl (cI, 6, .inl (fun _ => 0))), ((u1 1), .inl (cI, 5, .inl (fun _ => 0))), (q2, .inr (2, [.int 0, .ref (u2 0), .int 0, .int 0, .int 0, .ref (u2 1), .ref (u2 2), .ref (u2 3), .ref (u2 4)])), ((u2 0), .inl (cI, 5, .inl (fun _ => 0))), ((u2 1), .inl (cI, 6, .inl (fun _ => 0))), ((u2 2), .inl (cI, 6, .inl (fun _ => 0))), ((u2 3), .inl (cI, 6, .inl (fun _ => 0))), ((u2 4), .inl (cI, 6, .inl (fun _ => 0)))]) rfl rfl ?_
  refine z_putF C (pc := 34) 0 rfl rfl wf_X3 2 (by decide) rfl tyX3 tyX3_ok nmX3 rfl rfl rfl (Nat.le_of_ble_eq_true rfl) (ws' := [(x, .inr (3, [.ref q0, .ref q1, .ref q2, .null, .null, .int 0, .int 0, .int 0])), (q0, .inr (0, [.ref (u0), .int 0])), ((u0), .inl (cI, 15, .inl (fun _ => 0))), (q1, .inr (1, [.ref (u1 0), .int 0, .ref (u1 1), .int 0, .int 0, .int 0, .int 0, .int 0])), ((u1 0), .inl (cI, 6, .inl (fun _ => 0))), ((u1 1), .inl (cI, 5, .inl (fun _ => 0))), (q2, .inr (2, [.int 0, .ref (u2 0), .int 0, .int 0, .int 0, .ref (u2 1), .ref (u2 2), .ref (u2 3), .ref (u2 4)])), ((u2 0), .inl (cI, 5, .inl (fun _ => 0))), ((u2 1), .inl (cI, 6, .inl (fun _ => 0))), ((u2 2), .inl (cI, 6, .inl (fun _ => 0))), ((u2 3), .inl (cI, 6, .inl (fun _ => 0))), ((u2 4), .inl (cI, 6, .inl (fun _ => 0)))]) rfl wl_X3_26 (hin rfl) rfl dX3_init_34 ?_
  refine z_aload_n C (pc := 37) dX3_init_37 rfl ?_
  refine z_new C (pc := 38) (ci := 2) rfl wf_X2 tyX2 tyX2_ok wl_X3_23 wn_X2 wi_X2 df_X2 (Nat.le_of_ble_eq_true rfl) (Nat.le_of_ble_eq_true rfl) dX3_init_38 (fun q3 => ?_)
  refine z_ws (ws' := [(x, .inr (3, [.ref q0, .ref q1, .ref q2, .null, .null, .int 0, .int 0, .int 0])), (q0, .inr (0, [.ref (u0), .int 0])), ((u0), .inl (cI, 15, .inl (fun _ => 0))), (q1, .inr (1, [.ref (u1 0), .int 0, .ref (u1 1), .int 0, .int 0, .int 0, .int 0, .int 0])), ((u1 0), .inl (cI, 6, .inl (fun _ => 0))), ((u1 1), .inl (cI, 5, .inl (fun _ => 0))), (q2, .inr (2, [.int 0, .ref (u2 0), .int 0, .int 0, .int 0, .ref (u2 1), .ref (u2 2), .ref (u2 3), .ref (u2 4)])), ((u2 0), .inl (cI, 5, .inl (fun _ => 0))), ((u2 1), .inl (cI, 6, .inl (fun _ => 0))), ((u2 2), .inl (cI, 6, .inl (fun _ => 0))), ((u2 3), .inl (cI, 6, .inl (fun _ => 0))), ((u2 4), .inl (cI, 6, .inl (fun _ => 0))), (q3, .inr (2, [.int 0, .null, .int 0, .int 0, .int 0, .null, .null, .null, .null]))]) rfl rfl ?_
  refine z_dup C (pc := 41) dX3_init_41 rfl ?_
  refine z_callN C (pc := 42) (isC := [12]) (isR := [0, 1, 2, 3, 4, 5, 6, 7, 8, 9, 10, 11]) (wc := [(q3, .inr (2, [.int 0, .null, .int 0, .int 0, .int 0, .null, .null, .null, .null]))]) (wr := [(x, .inr (3, [.ref q0, .ref q1, .ref q2, .null, .null, .int 0, .int 0, .int 0])), (q0, .inr (0, [.ref (u0), .int 0])), ((u0), .inl (cI, 15, .inl (fun _ => 0))), (q1, .inr (1, [.ref (u1 0), .int 0, .ref (u1 1), .int 0, .int 0, .int 0, .int 0, .int 0])), ((u1 0), .inl (cI, 6, .inl (fun _ => 0))), ((u1 1), .inl (cI, 5, .inl (fun _ => 0))), (q2, .inr (2, [.int 0, .ref (u2 0), .int 0, .int 0, .int 0, .ref (u2 1), .ref (u2 2), .ref (u2 3), .ref (u2 4)])), ((u2 0), .inl (cI, 5, .inl (fun _ => 0))), ((u2 1), .inl (cI, 6, .inl (fun _ => 0))), ((u2 2), .inl (cI, 6, .inl (fun _ => 0))), ((u2 3), .inl (cI, 6, .inl (fun _ => 0))), ((u2 4), .inl (cI, 6, .inl (fun _ => 0)))]) rfl rfl (by decide) (by decide) (runIN C (pc := 42) (n_standing l D cI tt q3) [12] rfl (by decide) ⟨rfl, rfl, ⟨Nat.le_of_ble_eq_true rfl, Nat.le_of_ble_eq_true rfl⟩, Nat.le_of_ble_eq_true rfl, Nat.le_of_ble_eq_true rfl⟩ wl_X3_25 wm_X2_init wi_X2 wc_X2_init (by decide +kernel) rfl rfl (Nat.le_of_ble_eq_true rfl) dX3_init_42) (fun u3 _ => ?_)
  refine z_ws (ws' := [(x, .inr (3, [.ref q0, .ref q1, .ref q2, .null, .null, .int 0, .int 0, .int 0])), (q0, .inr (0, [.ref (u0), .int 0])), ((u0), .inl (cI, 15, .inl (fun _ => 0))), (q1, .inr (1, [.ref (u1 0), .int 0, .ref (u1 1), .int 0, .int 0, .int 0, .int 0, .int 0])), ((u1 0), .inl (cI, 6, .inl (fun _ => 0))), ((u1 1), .inl (cI, 5, .inl (fun _ => 0))), (q2, .inr (2, [.int 0, .ref (u2 0), .int 0, .int 0, .int 0, .ref (u2 1), .ref (u2 2), .ref (u2 3), .ref (u2 4)])), ((u2 0), .inl (cI, 5, .inl (fun _ => 0))), ((u2 1), .inl (cI, 6, .inl (fun _ => 0))), ((u2 2), .inl (cI, 6, .inl (fun _ => 0))), ((u2 3), .inl (cI, 6, .inl (fun _ => 0))), ((u2 4), .inl (cI, 6, .inl (fun _ => 0))), (q3, .inr (2, [.int 0, .ref (u3 0), .int 0, .int 0, .int 0, .ref (u3 1), .ref (u3 2), .ref (u3 3), .ref (u3 4)])), ((u3 0), .inl (cI, 5, .inl (fun _ => 0))), ((u3 1), .inl (cI, 6, .inl (fun _ => 0))), ((u3 2), .inl (cI, 6, .inl (fun _ => 0))), ((u3 3), .inl (cI, 6, .inl (fun _ => 0))), ((u3 4), .inl (cI, 6, .inl (fun _ => 0)))]) rfl rfl ?_
  refine z_putF C (pc := 45) 0 rfl rfl wf_X3 3 (by decide) rfl tyX3 tyX3_ok nmX3 rfl rfl rfl (Nat.le_of_ble_eq_true rfl) (ws' := [(x, .inr (3, [.ref q0, .ref q1, .ref q2, .ref q3, .null, .int 0, .int 0, .int 0])), (q0, .inr (0, [.ref (u0), .int 0])), ((u0), .inl (cI, 15, .inl (fun _ => 0))), (q1, .inr (1, [.ref (u1 0), .int 0, .ref (u1 1), .int 0, .int 0, .int 0, .int 0, .int 0])), ((u1 0), .inl (cI, 6, .inl (fun _ => 0))), ((u1 1), .inl (cI, 5, .inl (fun _ => 0))), (q2, .inr (2, [.int 0, .ref (u2 0), .int 0, .int 0, .int 0, .ref (u2 1), .ref (u2 2), .ref (u2 3), .ref (u2 4)])), ((u2 0), .inl (cI, 5, .inl (fun _ => 0))), ((u2 1), .inl (cI, 6, .inl (fun _ => 0))), ((u2 2), .inl (cI, 6, .inl (fun _ => 0))), ((u2 3), .inl (cI, 6, .inl (fun _ => 0))), ((u2 4), .inl (cI, 6, .inl (fun _ => 0))), (q3, .inr (2, [.int 0, .ref (u3 0), .int 0, .int 0, .int 0, .ref (u3 1), .ref (u3 2), .ref (u3 3), .ref (u3 4)])), ((u3 0), .inl (cI, 5, .inl (fun _ => 0))), ((u3 1), .inl (cI, 6, .inl (fun _ => 0))), ((u3 2), .inl (cI, 6, .inl (fun _ => 0))), ((u3 3), .inl (cI, 6, .inl (fun _ => 0))), ((u3 4), .inl (cI, 6, .inl (fun _ => 0)))]) rfl wl_X3_30 (hin rfl) rfl dX3_init_45 ?_
  refine z_aload_n C (pc := 48) dX3_init_48 rfl ?_
  refine z_iconst C (pc := 49) (v := 5) dX3_init_49 (by decide) ?_
  refine z_newa C (pc := 50) (N := 5) (by decide) (by decide) (by decide) (Nat.le_of_ble_eq_true rfl) (Nat.le_of_ble_eq_true rfl) dX3_init_50 (fun q4 => ?_)
  refine z_ws (ws' := [(x, .inr (3, [.ref q0, .ref q1, .ref q2, .ref q3, .null, .int 0, .int 0, .int 0])), (q0, .inr (0, [.ref (u0), .int 0])), ((u0), .inl (cI, 15, .inl (fun _ => 0))), (q1, .inr (1, [.ref (u1 0), .int 0, .ref (u1 1), .int 0, .int 0, .int 0, .int 0, .int 0])), ((u1 0), .inl (cI, 6, .inl (fun _ => 0))), ((u1 1), .inl (cI, 5, .inl (fun _ => 0))), (q2, .inr (2, [.int 0, .ref (u2 0), .int 0, .int 0, .int 0, .ref (u2 1), .ref (u2 2), .ref (u2 3), .ref (u2 4)])), ((u2 0), .inl (cI, 5, .inl (fun _ => 0))), ((u2 1), .inl (cI, 6, .inl (fun _ => 0))), ((u2 2), .inl (cI, 6, .inl (fun _ => 0))), ((u2 3), .inl (cI, 6, .inl (fun _ => 0))), ((u2 4), .inl (cI, 6, .inl (fun _ => 0))), (q3, .inr (2, [.int 0, .ref (u3 0), .int 0, .int 0, .int 0, .ref (u3 1), .ref (u3 2), .ref (u3 3), .ref (u3 4)])), ((u3 0), .inl (cI, 5, .inl (fun _ => 0))), ((u3 1), .inl (cI, 6, .inl (fun _ => 0))), ((u3 2), .inl (cI, 6, .inl (fun _ => 0))), ((u3 3), .inl (cI, 6, .inl (fun _ => 0))), ((u3 4), .inl (cI, 6, .inl (fun _ => 0))), (q4, .inl (cI, 5, .inl (fun _ => 0)))]) rfl rfl ?_
  refine z_putF C (pc := 52) 0 rfl rfl wf_X3 4 (by decide) rfl tyX3 tyX3_ok nmX3 rfl rfl rfl (Nat.le_of_ble_eq_true rfl) (ws' := [(x, .inr (3, [.ref q0, .ref q1, .ref q2, .ref q3, .ref q4, .int 0, .int 0, .int 0])), (q0, .inr (0, [.ref (u0), .int 0])), ((u0), .inl (cI, 15, .inl (fun _ => 0))), (q1, .inr (1, [.ref (u1 0), .int 0, .ref (u1 1), .int 0, .int 0, .int 0, .int 0, .int 0])), ((u1 0), .inl (cI, 6, .inl (fun _ => 0))), ((u1 1), .inl (cI, 5, .inl (fun _ => 0))), (q2, .inr (2, [.int 0, .ref (u2 0), .int 0, .int 0, .int 0, .ref (u2 1), .ref (u2 2), .ref (u2 3), .ref (u2 4)])), ((u2 0), .inl (cI, 5, .inl (fun _ => 0))), ((u2 1), .inl (cI, 6, .inl (fun _ => 0))), ((u2 2), .inl (cI, 6, .inl (fun _ => 0))), ((u2 3), .inl (cI, 6, .inl (fun _ => 0))), ((u2 4), .inl (cI, 6, .inl (fun _ => 0))), (q3, .inr (2, [.int 0, .ref (u3 0), .int 0, .int 0, .int 0, .ref (u3 1), .ref (u3 2), .ref (u3 3), .ref (u3 4)])), ((u3 0), .inl (cI, 5, .inl (fun _ => 0))), ((u3 1), .inl (cI, 6, .inl (fun _ => 0))), ((u3 2), .inl (cI, 6, .inl (fun _ => 0))), ((u3 3), .inl (cI, 6, .inl (fun _ => 0))), ((u3 4), .inl (cI, 6, .inl (fun _ => 0))), (q4, .inl (cI, 5, .inl (fun _ => 0)))]) rfl wl_X3_33 (hin rfl) rfl dX3_init_52 ?_
  exact z_vretN C (pc := 55) (fun k => match k with | 0 => q0 | 1 => (u0) | 2 => q1 | 3 => (u1 0) | 4 => (u1 1) | 5 => q2 | 6 => (u2 0) | 7 => (u2 1) | 8 => (u2 2) | 9 => (u2 3) | 10 => (u2 4) | 11 => q3 | 12 => (u3 0) | 13 => (u3 1) | 14 => (u3 2) | 15 => (u3 3) | 16 => (u3 4) | _ => q4) dX3_init_55 trivial rfl
