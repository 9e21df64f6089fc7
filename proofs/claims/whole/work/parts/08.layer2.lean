section ZM
variable {S : Type} {l : Launch} {y : MethodName} {cc : ByteArray} {nY : Nat} {rt : Option FieldType} {R : Room} {D : va_G} {cI : ClassId} {tt : Nat × Nat × Nat} {av : List Value} {ws : va_W} {wf : S → va_W}
theorem met_ofI {post : Int32 → S → Prop} (hy : plainName y.cls = true) (hn : (lg_sl av).length ≤ nY)
    (body : ∀ (p : Program) (e : Env) (s : State) (m : MethodId) (args : Array Value) (below : List Frame) (meth : Method) (c : Code) (A : Nat → Prop), Cx p s m args meth c y.cls cc nY rt D cI tt A → (y.name = "<init>" → meth.name = "<init>") → Z p l e R s m args below meth c D A nY 0 0 (MQ below (va_Qi post (fun u t => va_P D vwCl (wf u) t.heap) A) args s 0 0 A) 0 (lv_args 0 av) [] ws) :
    MetI l y cc nY rt R D cI tt av ws post wf := met_of (S := S) (Qc := fun A => va_Qi post (fun u t => va_P D vwCl (wf u) t.heap) A) hy hn body
theorem met_ofL {post : Int64 → S → Prop} (hy : plainName y.cls = true) (hn : (lg_sl av).length ≤ nY)
    (body : ∀ (p : Program) (e : Env) (s : State) (m : MethodId) (args : Array Value) (below : List Frame) (meth : Method) (c : Code) (A : Nat → Prop), Cx p s m args meth c y.cls cc nY rt D cI tt A → (y.name = "<init>" → meth.name = "<init>") → Z p l e R s m args below meth c D A nY 0 0 (MQ below (va_Ql post (fun u t => va_P D vwCl (wf u) t.heap) A) args s 0 0 A) 0 (lv_args 0 av) [] ws) :
    MetL l y cc nY rt R D cI tt av ws post wf := met_of (S := S) (Qc := fun A => va_Ql post (fun u t => va_P D vwCl (wf u) t.heap) A) hy hn body
theorem met_ofV {post : S → Prop} (hy : plainName y.cls = true) (hn : (lg_sl av).length ≤ nY)
    (body : ∀ (p : Program) (e : Env) (s : State) (m : MethodId) (args : Array Value) (below : List Frame) (meth : Method) (c : Code) (A : Nat → Prop), Cx p s m args meth c y.cls cc nY rt D cI tt A → (y.name = "<init>" → meth.name = "<init>") → Z p l e R s m args below meth c D A nY 0 0 (MQ below (va_Qv post (fun u t => va_P D vwCl (wf u) t.heap) A) args s 0 0 A) 0 (lv_args 0 av) [] ws) :
    MetV l y cc nY rt R D cI tt av ws post wf := met_of (S := S) (Qc := fun A => va_Qv post (fun u t => va_P D vwCl (wf u) t.heap) A) hy hn body
end ZM
section ZN
variable {p : Program} {l : Launch} {e : Env} {R : Room} {s : State} {m : MethodId} {args : Array Value} {below : List Frame} {meth : Method} {c : Code} {D : va_G} {A : Nat → Prop} {n ce sl : Nat} {Q : State → Prop} {pc : Nat} {lv : List (Nat × Value)} {st : List Value} {ws : va_W}
theorem z_ws {ws' : va_W} {st' : List Value} (hw : ws = ws') (hs : st = st') (k : Z p l e R s m args below meth c D A n ce sl Q pc lv st' ws') : Z p l e R s m args below meth c D A n ce sl Q pc lv st ws := by
  subst hw; subst hs
  exact k
theorem z_lv {lv' : List (Nat × Value)} (hl : lsub lv lv') (k : Z p l e R s m args below meth c D A n ce sl Q pc lv' st ws) : Z p l e R s m args below meth c D A n ce sl Q pc lv st ws := fun H locs ls h1 h2 h3 h4 => k H locs ls h1 h2 h3 (lsub_has h4 hl)
theorem z_topi {x : Int32} (k : ∀ y : Int32, y = x → Z p l e R s m args below meth c D A n ce sl Q pc lv (.int y :: st) ws) : Z p l e R s m args below meth c D A n ce sl Q pc lv (.int x :: st) ws := k x rfl
theorem z_topl {x : Int64} (k : ∀ y : Int64, y = x → Z p l e R s m args below meth c D A n ce sl Q pc lv (.long y :: st) ws) : Z p l e R s m args below meth c D A n ce sl Q pc lv (.long x :: st) ws := k x rfl
theorem z_seti {x y : Int32} (h : x = y) (k : Z p l e R s m args below meth c D A n ce sl Q pc lv (.int y :: st) ws) : Z p l e R s m args below meth c D A n ce sl Q pc lv (.int x :: st) ws := by subst h; exact k
end ZN
/-- the class's world, and the reference's -/
def cW (cI : ClassId) (a : Nat → Nat) (i : Nat → Int32) (r : Nat → Nat → Int32) : va_W :=
  [(a 0, .inr (3, [.ref (a 1), .ref (a 3), .ref (a 6), .ref (a 12), .ref (a 18), .int (i 0), .int (i 1), .int (i 2)])),
   (a 1, .inr (0, [.ref (a 2), .int (i 3)])), (a 2, .inl (cI, 15, .inl (r 0))),
   (a 3, .inr (1, [.ref (a 4), .int (i 4), .ref (a 5), .int (i 5), .int (i 6), .int (i 7), .int (i 8), .int (i 9)])), (a 4, .inl (cI, 6, .inl (r 1))), (a 5, .inl (cI, 5, .inl (r 2))),
   (a 6, .inr (2, [.int (i 10), .ref (a 7), .int (i 11), .int (i 12), .int (i 13), .ref (a 8), .ref (a 9), .ref (a 10), .ref (a 11)])), (a 7, .inl (cI, 5, .inl (r 3))), (a 8, .inl (cI, 6, .inl (r 4))), (a 9, .inl (cI, 6, .inl (r 5))), (a 10, .inl (cI, 6, .inl (r 6))), (a 11, .inl (cI, 6, .inl (r 7))),
   (a 12, .inr (2, [.int (i 14), .ref (a 13), .int (i 15), .int (i 16), .int (i 17), .ref (a 14), .ref (a 15), .ref (a 16), .ref (a 17)])), (a 13, .inl (cI, 5, .inl (r 8))), (a 14, .inl (cI, 6, .inl (r 9))), (a 15, .inl (cI, 6, .inl (r 10))), (a 16, .inl (cI, 6, .inl (r 11))), (a 17, .inl (cI, 6, .inl (r 12))),
   (a 18, .inl (cI, 5, .inl (r 13)))]
def mW (cI : ClassId) (b : Nat → Nat) (i : Nat → Int32) (r : Nat → Nat → Int32) (h : Int64) : va_W :=
  [(b 0, .inr (4, [.ref (b 1), .int (i 1), .int (i 2), .int (i 3), .int (i 4), .int (i 5), .int (i 6), .int (i 7), .ref (b 2), .ref (b 3), .int (i 10), .int (i 11), .int (i 12), .ref (b 4), .int (i 14), .int (i 15), .ref (b 5), .ref (b 6), .int (i 18), .ref (b 7), .int (i 20), .int (i 21), .int (i 22), .int (i 23), .int (i 24), .ref (b 8), .ref (b 9), .long h])),
   (b 1, .inl (cI, 15, .inl (r 0))), (b 2, .inl (cI, 6, .inl (r 1))), (b 3, .inl (cI, 7, .inl (r 2))), (b 4, .inl (cI, 7, .inl (r 3))), (b 5, .inl (cI, 24, .inl (r 4))), (b 6, .inl (cI, 7, .inl (r 5))), (b 7, .inl (cI, 7, .inl (r 6))), (b 8, .inl (cI, 7, .inl (r 7))), (b 9, .inl (cI, 24, .inl (r 8)))]
