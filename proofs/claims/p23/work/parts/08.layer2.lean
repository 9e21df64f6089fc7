section ZM
variable {S : Type} {l : Launch} {y : MethodName} {cc : ByteArray} {nY : Nat} {rt : Option FieldType} {R : Room} {D : va_G} {cI : ClassId} {tt : Nat × Nat × Nat} {av : List Value} {ws : va_W} {wf : S → va_W}
theorem met_ofI {post : Int32 → S → Prop} (hy : plainName y.cls = true) (hn : (lg_sl av).length ≤ nY)
    (body : ∀ (p : Program) (e : Env) (s : State) (m : MethodId) (args : Array Value) (below : List Frame) (meth : Method) (c : Code) (A : Nat → Prop), Cx p s m args meth c y.cls cc nY rt D cI tt A → (y.name = "<init>" → meth.name = "<init>") → Z p l e R s m args below meth c D A nY 0 0 (MQ below (va_Qi post (fun u t => va_P D vwCl (wf u) t.heap) A) args s 0 0 A) 0 (lv_args 0 av) [] ws) :
    MetI l y cc nY rt R D cI tt av ws post wf := met_of (S := S) (Qc := fun A => va_Qi post (fun u t => va_P D vwCl (wf u) t.heap) A) hy hn body
theorem met_ofL {post : Int64 → S → Prop} (hy : plainName y.cls = true) (hn : (lg_sl av).length ≤ nY)
    (body : ∀ (p : Program) (e : Env) (s : State) (m : MethodId) (args : Array Value) (below : List Frame) (meth : Method) (c : Code) (A : Nat → Prop), Cx p s m args meth c y.cls cc nY rt D cI tt A → (y.name = "<init>" → meth.name = "<init>") → Z p l e R s m args below meth c D A nY 0 0 (MQ below (va_Ql post (fun u t => va_P D vwCl (wf u) t.heap) A) args s 0 0 A) 0 (lv_args 0 av) [] ws) :
    MetL l y cc nY rt R D cI tt av ws post wf := met_of (S := S) (Qc := fun A => va_Ql post (fun u t => va_P D vwCl (wf u) t.heap) A) hy hn body
theorem met_ofV {post : S → Prop} (hy : plainName y.cls = true) (hn : (lg_sl av).length ≤ nY)
    (body : ∀ (p : Program) (e : Env) (s : State) (m : MethodId) (args : Array Value) (below : List Frame) (meth : Method) (c : Code) (A : Nat → Prop), Cx p s m args meth c y.cls cc nY rt D cI tt A → (y.name = "<init>" → meth.name = "<init>") → Z p l e R s m args below meth c D A nY 0 0 (MQ below (va_Qv post (fun u t => va_P D vwCl (wf u) t.heap) A) args s 0 0 A) 0 (lv_args 0 av) [] ws) :
    MetV l y cc nY rt R D cI tt av ws post wf := met_of (S := S) (Qc := fun A => va_Qv post (fun u t => va_P D vwCl (wf u) t.heap) A) hy hn body
end ZM
section ZN
variable {p : Program} {l : Launch} {e : Env} {R : Room} {s : State} {m : MethodId} {args : Array Value} {below : List Frame} {meth : Method} {c : Code} {D : va_G} {A : Nat → Prop} {n ce sl : Nat} {Q : State → Prop} {pc : Nat} {lv : List (Nat × Value)} {st : List Value} {ws : va_W}
theorem z_ws {ws' : va_W} {st' : List Value} (hw : ws = ws') (hs : st = st') (k : Z p l e R s m args below meth c D A n ce sl Q pc lv st' ws') : Z p l e R s m args below meth c D A n ce sl Q pc lv st ws := by
  subst hw; subst hs
  exact k
theorem z_lv {lv' : List (Nat × Value)} (hl : lsub lv lv') (k : Z p l e R s m args below meth c D A n ce sl Q pc lv' st ws) : Z p l e R s m args below meth c D A n ce sl Q pc lv st ws := fun H locs ls h1 h2 h3 h4 => k H locs ls h1 h2 h3 (lsub_has h4 hl)
theorem z_topi {x : Int32} (k : ∀ y : Int32, y = x → Z p l e R s m args below meth c D A n ce sl Q pc lv (.int y :: st) ws) : Z p l e R s m args below meth c D A n ce sl Q pc lv (.int x :: st) ws := k x rfl
theorem z_topl {x : Int64} (k : ∀ y : Int64, y = x → Z p l e R s m args below meth c D A n ce sl Q pc lv (.long y :: st) ws) : Z p l e R s m args below meth c D A n ce sl Q pc lv (.long x :: st) ws := k x rfl
theorem z_seti {x y : Int32} (h : x = y) (k : Z p l e R s m args below meth c D A n ce sl Q pc lv (.int y :: st) ws) : Z p l e R s m args below meth c D A n ce sl Q pc lv (.int x :: st) ws := by subst h; exact k
end ZN
/-! calls over the whole world -/
theorem va_nd_of {l : List Nat} : l.Nodup → va_nd l = true := by
  induction l with
  | nil => intro _; rfl
  | cons a t ih =>
    intro h
    rw [List.nodup_cons] at h
    show (decide (a ∉ t) && va_nd t) = true
    rw [ih h.2, Bool.and_true]
    exact decide_eq_true h.1
theorem full_nd (ws : va_W) : va_nd (List.range ws.length) = true := va_nd_of List.nodup_range
theorem full_hC (ws : va_W) : (List.range ws.length).map (fun i => ws[i]?) = ws.map some := by
  apply List.ext_getElem?
  intro k
  rw [List.getElem?_map, List.getElem?_map]
  by_cases h : k < ws.length
  · rw [List.getElem?_range h]
    simp [h]
  · have h1 : (List.range ws.length)[k]? = none := by rw [List.getElem?_eq_none]; simp; omega
    rw [h1, List.getElem?_eq_none (by omega)]
    rfl
section ZF
variable {S : Type} {p : Program} {l : Launch} {e : Env} {R : Room} {s : State} {m : MethodId} {args : Array Value} {below : List Frame} {meth : Method} {c : Code} {D : va_G} {A : Nat → Prop} {n ce sl : Nat} {Q : State → Prop} {own : String} {cc : ByteArray} {rt : Option FieldType} {cI : ClassId} {tt : Nat × Nat × Nat} {pc : Nat} {lv : List (Nat × Value)} {st0 rest : List Value} {ws : va_W} {wf : S → va_W}
theorem z_calliF {post : Int32 → S → Prop} (C : Cx p s m args meth c own cc n rt D cI tt A) (he : ∀ u, (wf u).map (·.1) = ws.map (·.1)) (hr : Runs p l e R s m args below meth c D A n ce sl pc st0 rest ws ws (List.range ws.length) (fun sz => va_Qi post (fun u t => va_P D vwCl (wf u) t.heap) (va_A ws sz)))
    (kk : ∀ (r : Int32) (u : S), post r u → Z p l e R s m args below meth c D A n ce sl Q (pc + 3) lv (.int r :: rest) (wf u)) : Z p l e R s m args below meth c D A n ce sl Q pc lv st0 ws := fun H locs ls h1 h2 h3 h4 => by
  obtain ⟨a, hr⟩ := hr H locs ls h1 h2 h3 h4.1
  have hF := va_free h2 h3 C.2.2.2.2.2.2.2.2.2.2 _ (full_hC ws)
  refine va_calli hr h3 (fun q _ h => hF q h) hF (fun r u t H1 locs1 ht hvm hw hB hz1 hk1 hS => ?_)
  have hB1 : va_P D vwCl (wf u) H1 := by rw [← ht]; exact hB
  exact kk r u hw H1 locs1 ls hB1 (va_D_addr h2 (he u)) hS h4
theorem z_calllF {post : Int64 → S → Prop} (C : Cx p s m args meth c own cc n rt D cI tt A) (he : ∀ u, (wf u).map (·.1) = ws.map (·.1)) (hr : Runs p l e R s m args below meth c D A n ce sl pc st0 rest ws ws (List.range ws.length) (fun sz => va_Ql post (fun u t => va_P D vwCl (wf u) t.heap) (va_A ws sz)))
    (kk : ∀ (r : Int64) (u : S), post r u → Z p l e R s m args below meth c D A n ce sl Q (pc + 3) lv (.long r :: rest) (wf u)) : Z p l e R s m args below meth c D A n ce sl Q pc lv st0 ws := fun H locs ls h1 h2 h3 h4 => by
  obtain ⟨a, hr⟩ := hr H locs ls h1 h2 h3 h4.1
  have hF := va_free h2 h3 C.2.2.2.2.2.2.2.2.2.2 _ (full_hC ws)
  refine va_calll hr h3 (fun q _ h => hF q h) hF (fun r u t H1 locs1 ht hvm hw hB hz1 hk1 hS => ?_)
  have hB1 : va_P D vwCl (wf u) H1 := by rw [← ht]; exact hB
  exact kk r u hw H1 locs1 ls hB1 (va_D_addr h2 (he u)) hS h4
theorem z_callvF {post : S → Prop} (C : Cx p s m args meth c own cc n rt D cI tt A) (he : ∀ u, (wf u).map (·.1) = ws.map (·.1)) (hr : Runs p l e R s m args below meth c D A n ce sl pc st0 rest ws ws (List.range ws.length) (fun sz => va_Qv post (fun u t => va_P D vwCl (wf u) t.heap) (va_A ws sz)))
    (kk : ∀ (u : S), post u → Z p l e R s m args below meth c D A n ce sl Q (pc + 3) lv rest (wf u)) : Z p l e R s m args below meth c D A n ce sl Q pc lv st0 ws := fun H locs ls h1 h2 h3 h4 => by
  obtain ⟨a, hr⟩ := hr H locs ls h1 h2 h3 h4.1
  have hF := va_free h2 h3 C.2.2.2.2.2.2.2.2.2.2 _ (full_hC ws)
  refine va_callv hr h3 (fun q _ h => hF q h) hF (fun u t H1 locs1 ht hvm hw hB hz1 hk1 hS => ?_)
  have hB1 : va_P D vwCl (wf u) H1 := by rw [← ht]; exact hB
  exact kk u hw H1 locs1 ls hB1 (va_D_addr h2 (he u)) hS h4
end ZF
/-- the class's world, and the reference's -/
def cW (cI : ClassId) (a : Nat → Nat) (i : Nat → Int32) (r : Nat → Nat → Int32) : va_W :=
  [(a 0, .inr (3, [.ref (a 1), .ref (a 3), .ref (a 6), .ref (a 12), .ref (a 18), .int (i 0), .int (i 1), .int (i 2)])),
   (a 1, .inr (0, [.ref (a 2), .int (i 3)])), (a 2, .inl (cI, 15, .inl (r 0))),
   (a 3, .inr (1, [.ref (a 4), .int (i 4), .ref (a 5), .int (i 5), .int (i 6), .int (i 7), .int (i 8), .int (i 9)])), (a 4, .inl (cI, 6, .inl (r 1))), (a 5, .inl (cI, 5, .inl (r 2))),
   (a 6, .inr (2, [.int (i 10), .ref (a 7), .int (i 11), .int (i 12), .int (i 13), .ref (a 8), .ref (a 9), .ref (a 10), .ref (a 11)])), (a 7, .inl (cI, 5, .inl (r 3))), (a 8, .inl (cI, 6, .inl (r 4))), (a 9, .inl (cI, 6, .inl (r 5))), (a 10, .inl (cI, 6, .inl (r 6))), (a 11, .inl (cI, 6, .inl (r 7))),
   (a 12, .inr (2, [.int (i 14), .ref (a 13), .int (i 15), .int (i 16), .int (i 17), .ref (a 14), .ref (a 15), .ref (a 16), .ref (a 17)])), (a 13, .inl (cI, 5, .inl (r 8))), (a 14, .inl (cI, 6, .inl (r 9))), (a 15, .inl (cI, 6, .inl (r 10))), (a 16, .inl (cI, 6, .inl (r 11))), (a 17, .inl (cI, 6, .inl (r 12))),
   (a 18, .inl (cI, 5, .inl (r 13)))]
def mW (cI : ClassId) (b : Nat → Nat) (i : Nat → Int32) (r : Nat → Nat → Int32) (h : Int64) : va_W :=
  [(b 0, .inr (4, [.ref (b 1), .int (i 1), .int (i 2), .int (i 3), .int (i 4), .int (i 5), .int (i 6), .int (i 7), .ref (b 2), .ref (b 3), .int (i 10), .int (i 11), .int (i 12), .ref (b 4), .int (i 14), .int (i 15), .ref (b 5), .ref (b 6), .int (i 18), .ref (b 7), .int (i 20), .int (i 21), .int (i 22), .int (i 23), .int (i 24), .ref (b 8), .ref (b 9), .long h])),
   (b 1, .inl (cI, 15, .inl (r 0))), (b 2, .inl (cI, 6, .inl (r 1))), (b 3, .inl (cI, 7, .inl (r 2))), (b 4, .inl (cI, 7, .inl (r 3))), (b 5, .inl (cI, 24, .inl (r 4))), (b 6, .inl (cI, 7, .inl (r 5))), (b 7, .inl (cI, 7, .inl (r 6))), (b 8, .inl (cI, 7, .inl (r 7))), (b 9, .inl (cI, 24, .inl (r 8)))]
theorem cW_ad {cI : ClassId} {a : Nat → Nat} {i i' : Nat → Int32} {r r' : Nat → Nat → Int32} : (cW cI a i r).map (·.1) = (cW cI a i' r').map (·.1) := rfl
theorem mW_ad {cI : ClassId} {a : Nat → Nat} {i i' : Nat → Int32} {r r' : Nat → Nat → Int32} {h h' : Int64} : (mW cI a i r h).map (·.1) = (mW cI a i' r' h').map (·.1) := rfl
