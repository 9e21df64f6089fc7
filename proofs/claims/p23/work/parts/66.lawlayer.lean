/-! the law's layer: longs, stores, dropped cells -/
section ZO
variable {p : Program} {l : Launch} {e : Env} {R : Room} {s : State} {m : MethodId} {args : Array Value} {below : List Frame} {meth : Method} {c : Code} {D : va_G} {A : Nat → Prop} {n ce sl : Nat} {Q : State → Prop} {own : String} {cc : ByteArray} {rt : Option FieldType} {cI : ClassId} {tt : Nat × Nat × Nat} {pc : Nat} {lv : List (Nat × Value)} {st : List Value} {ws : va_W}
theorem z_setl {x y : Int64} (h : x = y) (k : Z p l e R s m args below meth c D A n ce sl Q pc lv (.long y :: st) ws) : Z p l e R s m args below meth c D A n ce sl Q pc lv (.long x :: st) ws := by subst h; exact k
theorem z_astore (C : Cx p s m args meth c own cc n rt D cI tt A) {j : Nat} {x : Nat} {lv' : List (Nat × Value)} (hd : decode cc pc = .ok (.astore j, 2)) (hn : j < n) (ho : (nodup lv && sok1 j lv) = true) (hl : sto j (.ref x) lv = lv') (k : Z p l e R s m args below meth c D A n ce sl Q (pc + 2) lv' st ws) : Z p l e R s m args below meth c D A n ce sl Q pc lv (.ref x :: st) ws := by
  rw [Bool.and_eq_true] at ho
  subst hl
  exact fun H locs ls h1 h2 h3 h4 => lv_astore C.1 C.2.1 hd h4 hn rfl (fun ls' h5 => k H locs ls' h1 h2 h3 (sto_has1 ho.1 ho.2 h5))
theorem z_lstore (C : Cx p s m args meth c own cc n rt D cI tt A) {j : Nat} {x : Int64} {lv' : List (Nat × Value)} (hd : decode cc pc = .ok (.lstore j, 2)) (hn : j + 1 < n) (ho : (nodup lv && sok2 j lv) = true) (hl : sto j (.long x) lv = lv') (k : Z p l e R s m args below meth c D A n ce sl Q (pc + 2) lv' st ws) : Z p l e R s m args below meth c D A n ce sl Q pc lv (.long x :: st) ws := by
  rw [Bool.and_eq_true] at ho
  subst hl
  exact fun H locs ls h1 h2 h3 h4 => lv_lstore C.1 C.2.1 hd h4 hn rfl (fun ls' h5 => k H locs ls' h1 h2 h3 (sto_has2 ho.1 ho.2 h5))
theorem z_ldiv (C : Cx p s m args meth c own cc n rt D cI tt A) {x y : Int64} (hd : decode cc pc = .ok (.ldiv, 1)) (hne : ¬ y = 0) (k : Z p l e R s m args below meth c D A n ce sl Q (pc + 1) lv (.long (x / y) :: st) ws) : Z p l e R s m args below meth c D A n ce sl Q pc lv (.long y :: .long x :: st) ws := fun H locs ls h1 h2 h3 h4 => lv_ldiv C.1 C.2.1 hd hne (k H locs ls h1 h2 h3 h4)
theorem z_lrem (C : Cx p s m args meth c own cc n rt D cI tt A) {x y : Int64} (hd : decode cc pc = .ok (.lrem, 1)) (hne : ¬ y = 0) (k : Z p l e R s m args below meth c D A n ce sl Q (pc + 1) lv (.long (x - x / y * y) :: st) ws) : Z p l e R s m args below meth c D A n ce sl Q pc lv (.long y :: .long x :: st) ws := fun H locs ls h1 h2 h3 h4 => lv_lrem C.1 C.2.1 hd hne (k H locs ls h1 h2 h3 h4)
/-- cells are left out of sight -/
theorem z_sub {wc : va_W} (isC : List Nat) (hC : isC.map (fun i => ws[i]?) = wc.map some) (hnd : va_nd isC = true) (k : Z p l e R s m args below meth c D A n ce sl Q pc lv st wc) : Z p l e R s m args below meth c D A n ce sl Q pc lv st ws := fun H locs ls h1 h2 h3 h4 => by
  have hm : isC.filterMap (fun i => ws[i]?) = wc := by
    have : isC.filterMap (fun i => ws[i]?) = (isC.map (fun i => ws[i]?)).filterMap id := by rw [List.filterMap_map]; rfl
    rw [this, hC, List.filterMap_map]
    simp [Function.comp_def]
  exact k H locs ls (h1.sub isC hm) (h2.sub isC hnd hC) h3 h4
theorem z_widen {ce' sl' : Nat} (h1 : ce ≤ ce') (h2 : sl ≤ sl') (k : Z p l e R s m args below meth c D A n ce' sl' Q pc lv st ws) : Z p l e R s m args below meth c D A n ce sl Q pc lv st ws := fun H locs ls g1 g2 g3 g4 => W.widen h1 h2 (k H locs ls g1 g2 g3 g4)
end ZO
/-! two worlds side by side -/
theorem app_swap {w wb : va_W} {k : Nat} {q : Nat × va_E} (h : (w ++ wb)[k]? = some q) : (wb ++ w)[if k < w.length then wb.length + k else k - w.length]? = some q ∧ k < w.length + wb.length := by
  by_cases hk : k < w.length
  · rw [if_pos hk]
    rw [List.getElem?_append_left hk] at h
    rw [List.getElem?_append_right (by omega), show wb.length + k - wb.length = k by omega]
    exact ⟨h, by omega⟩
  · rw [if_neg hk]
    rw [List.getElem?_append_right (by omega)] at h
    have h2 := (List.getElem?_eq_some_iff.mp h).1
    rw [List.getElem?_append_left h2]
    exact ⟨h, by omega⟩
theorem va_P_swap {D : va_G} {cl : List vw_C} {w wb : va_W} {H : Heap} (h : va_P D cl (wb ++ w) H) : va_P D cl (w ++ wb) H := fun _ q hk => h _ q (app_swap hk).1
theorem va_D_swap {A : Nat → Prop} {w wb : va_W} (h : va_D A (wb ++ w)) : va_D A (w ++ wb) := by
  refine ⟨fun i j x y hx hy e => ?_, fun k q hk => h.2 _ q (app_swap hk).1⟩
  have h1 := h.1 _ _ x y (app_swap hx).1 (app_swap hy).1 e
  have h2 := (app_swap hx).2
  have h3 := (app_swap hy).2
  split at h1 <;> split at h1 <;> omega
def apR (wa wb : va_W) : List Nat := (List.range wb.length).map (fun i => wa.length + i)
theorem apL_hC (wa wb : va_W) : (List.range wa.length).map (fun i => (wa ++ wb)[i]?) = wa.map some := (List.map_congr_left (fun _ hi => List.getElem?_append_left (List.mem_range.mp hi))).trans (full_hC wa)
theorem apR_hC (wa wb : va_W) : (apR wa wb).map (fun i => (wa ++ wb)[i]?) = wb.map some := by
  unfold apR
  rw [List.map_map]
  refine (List.map_congr_left (fun i _ => ?_)).trans (full_hC wb)
  show (wa ++ wb)[wa.length + i]? = wb[i]?
  rw [List.getElem?_append_right (by omega), show wa.length + i - wa.length = i by omega]
theorem apR_nd (wa wb : va_W) : va_nd (apR wa wb) = true := va_nd_of (List.Pairwise.map (fun i => wa.length + i) (fun a b h e => h (Nat.add_left_cancel e)) List.nodup_range)
theorem apR_L (wa wb : va_W) : ∀ i ∈ apR wa wb, i ∉ List.range wa.length := fun i hi h => by
  obtain ⟨j, -, e⟩ := List.mem_map.mp hi
  have e' : wa.length + j = i := e
  have := List.mem_range.mp h
  omega
section ZL
variable {p : Program} {l : Launch} {e : Env} {R : Room} {s : State} {m : MethodId} {args : Array Value} {below : List Frame} {meth : Method} {c : Code} {D : va_G} {A : Nat → Prop} {n ce sl : Nat} {Q : State → Prop} {own : String} {cc : ByteArray} {rt : Option FieldType} {cI : ClassId} {tt : Nat × Nat × Nat} {pc : Nat} {lv : List (Nat × Value)} {st : List Value} {ws : va_W}
theorem z_calliL {S : Type} {post : Int32 → S → Prop} {wf : S → va_W} {wa wb : va_W} {st0 rest : List Value} (C : Cx p s m args meth c own cc n rt D cI tt A) (he : ∀ u, (wf u).map (·.1) = wa.map (·.1)) (hr : Runs p l e R s m args below meth c D A n ce sl pc st0 rest (wa ++ wb) wa (List.range wa.length) (fun sz => va_Qi post (fun u t => va_P D vwCl (wf u) t.heap) (va_A wa sz)))
    (kk : ∀ (r : Int32) (u : S), post r u → Z p l e R s m args below meth c D A n ce sl Q (pc + 3) lv (.int r :: rest) (wf u ++ wb)) : Z p l e R s m args below meth c D A n ce sl Q pc lv st0 (wa ++ wb) := fun H locs ls h1 h2 h3 h4 => by
  obtain ⟨a, hr⟩ := hr H locs ls h1 h2 h3 h4.1
  have hF := va_free h2 h3 C.2.2.2.2.2.2.2.2.2.2 _ (apL_hC wa wb)
  refine va_calli hr h3 (fun q _ h => hF q h) hF (fun r u t H1 locs1 ht hvm hw hB hz1 hk1 hS => ?_)
  have hB1 : va_P D vwCl (wf u) H1 := by rw [← ht]; exact hB
  have hDa : va_D (va_A wa H.size) (wf u) := va_D_addr (h2.sub _ (full_nd wa) (apL_hC wa wb)).self (he u)
  obtain ⟨g1, g2⟩ := va_join (wr := wb) h1 h2 (List.range wa.length) (apR wa wb) (apL_hC wa wb) (apR_hC wa wb) (apR_nd wa wb) (apR_L wa wb) hk1 hF hB1 hDa
  exact kk r u hw H1 locs1 ls (va_P_swap g1) (va_D_swap g2) hS h4
variable {y : MethodName} {bytes : ByteArray} {nY : Nat} {rY : Option FieldType} {rY' : Room} {wc : va_W} {isC : List Nat} {st0 rest : List Value} {idx mc ms : Nat} {Qa : Nat → Array Value → State → Outcome → State → Prop}
/-- a call that makes cells, which are left out of sight behind it -/
theorem z_calliN {S : Type} {post : Int32 → S → Prop} {wf : S → va_W} (C : Cx p s m args meth c own cc n rt D cI tt A) (hC : isC.map (fun i => ws[i]?) = wc.map some) (he : ∀ u, (wf u).map (·.1) = wc.map (·.1)) (hr : RunsN p l e R s m args below meth c D A n ce sl mc ms pc st0 rest ws wc (fun sz => va_Qi post (fun u t => va_P D vwCl (wf u) t.heap) (va_A wc sz)))
    (kk : ∀ (r : Int32) (u : S), post r u → Z p l e R s m args below meth c D A n (ce + mc) (sl + ms) Q (pc + 3) lv (.int r :: rest) (weave ws isC (wf u))) : Z p l e R s m args below meth c D A n ce sl Q pc lv st0 ws := fun H locs ls h1 h2 h3 h4 => by
  obtain ⟨a, hr⟩ := hr H locs ls h1 h2 h3 h4.1
  have hF := va_free h2 h3 C.2.2.2.2.2.2.2.2.2.2 isC hC
  refine va_calli hr h3 (fun q _ h => hF q h) hF (fun r u t H1 locs1 ht hvm hw hB hz1 hk1 hS => ?_)
  have hB1 : va_P D vwCl (wf u) H1 := by rw [← ht]; exact hB
  obtain ⟨g1, g2⟩ := va_weave h1 h2 isC hC (he u) hk1 hB1
  exact kk r u hw H1 locs1 ls g1 g2 hS h4
theorem runSNw {As : List Value} {nn : Nat} (C : Cx p s m args meth c own cc n rt D cI tt A) (hM : ∀ sz : Nat, Met l y (.code y bytes nY rY :: TB) rY' (va_Pc As (Pre D cI tt wc sz)) (Qa sz) mc ms (va_A wc sz)) (hC : isC.map (fun i => ws[i]?) = wc.map some) (hnd : va_nd isC = true) (hfit : rY'.cells = mc ∧ rY'.slots = ms ∧ (rY'.frames + 1 ≤ R.frames ∧ 8 + (nY + 11) + rY'.locals ≤ R.locals) ∧ ce + mc ≤ R.cells ∧ sl + ms ≤ R.slots)
    (hl : Cond.methodLink own idx y ∈ TB) (hm : Cond.static y ∈ TB) (hi : Cond.initialized y.cls ∈ TB) (hc : Cond.code y bytes nY rY ∈ TB) (hy : y.cls ≠ "java/lang/invoke/MethodHandle" ∧ y.cls ≠ "java/lang/invoke/VarHandle" ∧ (parseMethodDescriptor y.desc).map (fun d => d.parameters.length) = some nn) (hAs : As.length = nn)
    (hst : st0 = As.reverse ++ rest) (hcat : (rest.map fun v => v.category).sum ≤ 8) (hd : decode cc pc = .ok (.invokestatic idx, 3)) :
    RunsN p l e R s m args below meth c D A n ce sl mc ms pc st0 rest ws wc Qa := fun H locs ls h1 h2 h3 h4 => by
  obtain ⟨f1, f2, f3, f4, f5⟩ := hfit
  refine ⟨As.toArray, va_runS (fix_of C) (hM H.size) (n := nn) (va_cwS nn C.2.2.2.2.1 (fun w hw => ?_) rfl f1 f2 hy f3) ⟨pre_blind wc H.size _, fun U hU hW => ⟨rfl, pre_of C h1 h2 h3 hC hnd U hU hW⟩⟩ rfl hAs h4 hst (lv_room hcat) hd ⟨f4, f5⟩⟩
  rcases List.mem_append.mp hw with hw | hw
  · have : w = .methodLink own idx y ∨ w = .static y ∨ w = .initialized y.cls := by simpa using hw
    rcases this with rfl | rfl | rfl
    · exact good_TB hl _ List.mem_cons_self
    · exact good_TB hm _ List.mem_cons_self
    · exact good_TB hi _ List.mem_cons_self
  · exact good_TB hc w hw
end ZL
/-- a contract of a method that makes cells and keeps them for itself -/
abbrev MetW {S : Type} (l : Launch) (y : MethodName) (cc : ByteArray) (n : Nat) (rt : Option FieldType) (R : Room) (D : va_G) (cI : ClassId) (tt : Nat × Nat × Nat) (av : List Value) (ws : va_W) (mc ms : Nat) (post : Int32 → S → Prop) (wf : S → va_W) : Prop :=
  ∀ sz : Nat, Met l y (.code y cc n rt :: TB) R (va_Pc av (Pre D cI tt ws sz)) (va_Qi post (fun u t => va_P D vwCl (wf u) t.heap) (va_A ws sz)) mc ms (va_A ws sz)
theorem met_ofW {S : Type} {l : Launch} {y : MethodName} {cc : ByteArray} {nY : Nat} {rt : Option FieldType} {R : Room} {D : va_G} {cI : ClassId} {tt : Nat × Nat × Nat} {av : List Value} {ws : va_W} {mc ms : Nat} {post : Int32 → S → Prop} {wf : S → va_W} (hy : plainName y.cls = true) (hn : (lg_sl av).length ≤ nY)
    (body : ∀ (p : Program) (e : Env) (s : State) (m : MethodId) (args : Array Value) (below : List Frame) (meth : Method) (c : Code) (A : Nat → Prop), Cx p s m args meth c y.cls cc nY rt D cI tt A → (y.name = "<init>" → meth.name = "<init>") → Z p l e R s m args below meth c D A nY 0 0 (MQ below (va_Qi post (fun u t => va_P D vwCl (wf u) t.heap) A) args s mc ms A) 0 (lv_args 0 av) [] ws) :
    MetW l y cc nY rt R D cI tt av ws mc ms post wf := fun sz => by
  refine Met.ofW (cc := cc) (maxL := nY) (ret := rt) hy rfl ?_
  intro p e s m args below meth c s₁ B hml hv
  obtain ⟨rfl, hsz, hP, hD, hK, hN, hST⟩ := hv
  have hts : ∀ w ∈ (.code y cc nY rt :: TB : List Cond), w.before av.toArray s = true := atoms_spec (ws := .code y cc nY rt :: TB) B.pre
  have hown : s.vm.findClass y.cls = some m.cls := findClass_of_methodNamed B.named
  subst hsz
  have hl := lv_entry av (n := nY) hn
  rw [lg_entry_eq]
  exact body p e s m av.toArray below meth c (va_A ws s.heap.size) ⟨B.exec, B.bytes, hml, hown, fun w hw => hts w (List.mem_cons_of_mem _ hw), hK, hN, hST, B.returns, B.notSynchronized, fun q hq => Or.inr hq⟩ (fun h => by rw [← h]; exact (name_of_methodNamed B.named B.method).1) s.heap [] _ hP hD.self va_S.rf hl
/-! the script: a row that is old -/
section ZX
variable {p : Program} {l : Launch} {e : Env} {R : Room} {s : State} {m : MethodId} {args : Array Value} {below : List Frame} {meth : Method} {c : Code} {D : va_G} {A : Nat → Prop} {n ce sl : Nat} {Q : State → Prop} {own : String} {cc : ByteArray} {rt : Option FieldType} {cI : ClassId} {tt : Nat × Nat × Nat} {pc : Nat} {lv : List (Nat × Value)} {st : List Value} {ws : va_W}
theorem in_nI {q L : Nat} (hq : q < L) (hL : L ≤ 260) : vp_in (nI q) L := fun h => by
  rcases h with h | h
  · rw [Int32.lt_iff_toInt_lt, nI_toInt (by omega)] at h
    have h0 : (0 : Int32).toInt = 0 := rfl
    omega
  · rw [nI_clamp (by omega)] at h
    omega
theorem z_sld (C : Cx p s m args meth c own cc n rt D cI tt A) {b L : Nat} {xs : Nat → Int32} (hX : va_X b L xs s s.heap) (hbl : b < s.heap.size) (hbA : ¬ A b) (hL : L ≤ 260) {q : Nat} (hq : q < L) (hd : decode cc pc = .ok (.iaload, 1)) (k : Z p l e R s m args below meth c D A n ce sl Q (pc + 1) lv (.int (xs q) :: st) ws) : Z p l e R s m args below meth c D A n ce sl Q pc lv (.int (nI q) :: .ref b :: st) ws := fun H locs ls h1 h2 h3 h4 =>
  va_sld C.1 C.2.1 hX hbl hbA h3 (in_nI hq hL) hd (by rw [nI_clamp (by omega)]; exact k H locs ls h1 h2 h3 h4)
theorem z_slen (C : Cx p s m args meth c own cc n rt D cI tt A) {b L : Nat} {xs : Nat → Int32} (hX : va_X b L xs s s.heap) (hbl : b < s.heap.size) (hbA : ¬ A b) (hd : decode cc pc = .ok (.arraylength, 1)) (k : Z p l e R s m args below meth c D A n ce sl Q (pc + 1) lv (.int (nI L) :: st) ws) : Z p l e R s m args below meth c D A n ce sl Q pc lv (.ref b :: st) ws := fun H locs ls h1 h2 h3 h4 =>
  va_slen C.1 C.2.1 hX hbl hbA h3 hd (k H locs ls h1 h2 h3 h4)
/-- what the reader of the script is told -/
def PreX (D : va_G) (cI : ClassId) (tt : Nat × Nat × Nat) (b L : Nat) (xs : Nat → Int32) (sz : Nat) (U : State) : Prop := Pre D cI tt [] sz U ∧ va_X b L xs U U.heap ∧ b < sz
theorem preX_blind (b L : Nat) (xs : Nat → Int32) (sz : Nat) (av : List Value) : FrameBlind (va_Pc av (PreX D cI tt b L xs sz)) := fun a U g mk q => by
  obtain ⟨q0, ⟨q1, q2, q3, q4, q5, q6⟩, q7, q8⟩ := q
  exact ⟨q0, ⟨q1, q2, q3, va_K.moved (u := U) (U := U.calling g mk a) (Vm.Alike.refl U.vm) q4, NN.vm (u := U) (U := U.calling g mk a) rfl q5, ST.moved (u := U) (U := U.calling g mk a) (Vm.Alike.refl U.vm) q6⟩, va_X.moved (u := U) (U := U.calling g mk a) (Vm.Alike.refl U.vm) q7, q8⟩
end ZX
set_option maxHeartbeats 4000000 in
/-- cell(s, k): some number -/
theorem g_cell (l : Launch) (D : va_G) (cI : ClassId) (tt : Nat × Nat × Nat) (b L : Nat) (xs : Nat → Int32) (hL : L ≤ 260) (k : Nat) (hk : k < 1000) : ∀ sz : Nat, Met l yL_cell (.code yL_cell cL_cell 2 (some .int) :: TB) (rm 0 0) (va_Pc [.ref b, .int (nI k)] (PreX D cI tt b L xs sz)) (va_Qi (fun _ (_ : Unit) => True) (fun _ t => va_P D vwCl [] t.heap) (va_A [] sz)) 0 0 (va_A [] sz) := fun sz => by
  refine Met.ofW (cc := cL_cell) (maxL := 2) (ret := some .int) (by decide) rfl ?_
  intro p e s m args below meth c s₁ B hml hv
  obtain ⟨rfl, ⟨hsz, hP, hD, hK, hN, hST⟩, hX, hbl⟩ := hv
  have hts : ∀ w ∈ (.code yL_cell cL_cell 2 (some .int) :: TB : List Cond), w.before [.ref b, .int (nI k)].toArray s = true := atoms_spec (ws := .code yL_cell cL_cell 2 (some .int) :: TB) B.pre
  have hown : s.vm.findClass yL_cell.cls = some m.cls := findClass_of_methodNamed B.named
  subst hsz
  have hl := lv_entry [.ref b, .int (nI k)] (n := 2) (Nat.le_of_ble_eq_true rfl)
  rw [lg_entry_eq]
  have C : Cx p s m [.ref b, .int (nI k)].toArray meth c yL_cell.cls cL_cell 2 (some .int) D cI tt (va_A [] s.heap.size) := ⟨B.exec, B.bytes, hml, hown, fun w hw => hts w (List.mem_cons_of_mem _ hw), hK, hN, hST, B.returns, B.notSynchronized, fun q hq => Or.inr hq⟩
  have hbA : ¬ va_A [] s.heap.size b := fun h => by
    rcases h with h | h
    · obtain ⟨k, q, hq, -⟩ := h
    · omega
  have K : Z p l e (rm 0 0) s m [.ref b, .int (nI k)].toArray below meth c D (va_A [] s.heap.size) 2 0 0 (MQ below (va_Qi (fun _ (_ : Unit) => True) (fun _ t => va_P D vwCl [] t.heap) (va_A [] s.heap.size)) [.ref b, .int (nI k)].toArray s 0 0 (va_A [] s.heap.size)) 0 [(0, .ref b), (1, .int (nI k))] [] [] := by
    refine z_iload_n C (pc := 0) dL_cell_0 rfl ?_
    refine z_aload_n C (pc := 1) dL_cell_1 rfl ?_
    refine z_slen C (pc := 2) hX hbl hbA dL_cell_2 ?_
    refine z_icmp_ge C (pc := 3) (tgt := 12) dL_cell_3 rfl (fun _ => ?_) (fun c1 => ?_)
    · refine z_ldc C (pc := 12) (v := 747796405) wl_L_7 dL_cell_12 ?_
      refine z_iload_n C (pc := 14) dL_cell_14 rfl ?_
      refine z_iconst C (pc := 15) (v := 1) dL_cell_15 (by decide) ?_
      refine z_iadd C (pc := 16) dL_cell_16 ?_
      refine z_imul C (pc := 17) dL_cell_17 ?_
      exact z_iret C (pc := 18) () dL_cell_18 trivial rfl
    · have hkL : k < L := by
        rcases Nat.lt_or_ge k L with q | q
        · exact q
        · exact absurd (nI_le q (by omega)) c1
      refine z_aload_n C (pc := 6) dL_cell_6 rfl ?_
      refine z_iload_n C (pc := 7) dL_cell_7 rfl ?_
      refine z_sld C (pc := 8) hX hbl hbA hL hkL dL_cell_8 ?_
      refine z_goto C (pc := 9) (tgt := 18) dL_cell_9 rfl ?_
      exact z_iret C (pc := 18) () dL_cell_18 trivial rfl
  exact K s.heap [] _ hP hD.self va_S.rf hl
section ZY
variable {p : Program} {l : Launch} {e : Env} {R : Room} {s : State} {m : MethodId} {args : Array Value} {below : List Frame} {meth : Method} {c : Code} {D : va_G} {A : Nat → Prop} {n ce sl : Nat} {Q : State → Prop} {own : String} {cc : ByteArray} {rt : Option FieldType} {cI : ClassId} {tt : Nat × Nat × Nat} {pc : Nat} {lv : List (Nat × Value)} {st : List Value} {ws : va_W}
theorem z_callcell (C : Cx p s m args meth c own cc n rt D cI tt A) {rest : List Value} {b L : Nat} {xs : Nat → Int32} (hX : va_X b L xs s s.heap) (hbl : b < s.heap.size) (hbA : ¬ A b) (hL : L ≤ 260) {k : Nat} (hk : k < 1000) (hR : 1 ≤ R.frames ∧ 21 ≤ R.locals ∧ ce ≤ R.cells ∧ sl ≤ R.slots) (ho : own = RL) (hd : decode cc pc = .ok (.invokestatic 73, 3)) (hcat : (rest.map fun v => v.category).sum ≤ 8)
    (kk : ∀ r : Int32, Z p l e R s m args below meth c D A n ce sl Q (pc + 3) lv (.int r :: rest) ws) : Z p l e R s m args below meth c D A n ce sl Q pc lv (.int (nI k) :: .ref b :: rest) ws := fun H locs ls h1 h2 h3 h4 => by
  subst ho
  have hbH : H[b]? = s.heap[b]? := h3.2.1 b hbl hbA
  have hF := va_free h2 h3 C.2.2.2.2.2.2.2.2.2.2 [] (wc := []) rfl
  have hr : va_Run p l e R s m args below meth c H locs ce sl 0 0 (F0 m pc ls (.int (nI k) :: .ref b :: rest)) rest (va_Qi (fun _ (_ : Unit) => True) (fun _ t => va_P D vwCl [] t.heap) (va_A [] H.size) [.ref b, .int (nI k)].toArray) (va_A [] H.size) := by
    refine va_runS (fix_of C) (g_cell l D cI tt b L xs hL k hk H.size) (n := 2) (va_cwS 2 C.2.2.2.2.1 (fun w hw => ?_) rfl rfl rfl (by decide +kernel) ⟨hR.1, hR.2.1⟩) ⟨preX_blind b L xs H.size _, fun U hU hW => ⟨rfl, pre_of C h1 h2 h3 (isC := []) rfl rfl U hU hW, by rw [hU]; exact va_X.moved hW.alike (hX.kept hbH), Nat.lt_of_lt_of_le hbl h3.1⟩⟩ rfl rfl h4.1 rfl (lv_room hcat) hd ⟨hR.2.2.1, hR.2.2.2⟩
    rcases List.mem_append.mp hw with hw | hw
    · have : w = .methodLink RL 73 yL_cell ∨ w = .static yL_cell ∨ w = .initialized yL_cell.cls := by simpa using hw
      rcases this with rfl | rfl | rfl
      · exact good_TB wl_L_73 _ List.mem_cons_self
      · exact good_TB ws_L_cell _ List.mem_cons_self
      · exact good_TB wi_L _ List.mem_cons_self
    · exact good_TB wc_L_cell w hw
  refine va_calli hr h3 (fun q _ h => hF q h) hF (fun r u t H1 locs1 ht hvm hw hB hz1 hk1 hS => ?_)
  have hB1 : va_P D vwCl [] H1 := by rw [← ht]; exact hB
  obtain ⟨g1, g2⟩ := va_weave h1 h2 [] (wc := []) (w1 := []) rfl rfl hk1 hB1
  exact kk r H1 locs1 ls g1 g2 hS h4
end ZY
