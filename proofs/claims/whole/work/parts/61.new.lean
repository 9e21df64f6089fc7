/-! new arrays: the cell stands at the world's end -/
section ZA
variable {p : Program} {l : Launch} {e : Env} {R : Room} {s : State} {m : MethodId} {args : Array Value} {below : List Frame} {meth : Method} {c : Code} {D : va_G} {A : Nat → Prop} {n ce sl : Nat} {Q : State → Prop} {own : String} {cc : ByteArray} {rt : Option FieldType} {cI : ClassId} {tt : Nat × Nat × Nat} {pc : Nat} {lv : List (Nat × Value)} {st : List Value} {ws : va_W}
theorem z_newa (C : Cx p s m args meth c own cc n rt D cI tt A) {N : Nat} {v : Int32} (hn : ¬ v < 0) (hN : v.toNatClampNeg = N) (hb : N * 4 ≤ 536870912) (hc : ce + 1 ≤ R.cells) (hs : sl + N ≤ R.slots) (hd : decode cc pc = .ok (.newarray .int, 2))
    (k : ∀ q : Nat, Z p l e R s m args below meth c D A n (ce + 1) (sl + N) Q (pc + 2) lv (.ref q :: st) (ws ++ [(q, .inl (cI, N, .inl (fun _ => 0)))])) : Z p l e R s m args below meth c D A n ce sl Q pc lv (.int v :: st) ws := fun H locs ls h1 h2 h3 h4 => by
  refine va_newaK (atype := .int) C.1 C.2.1 (C.2.2.2.2.1 _ w_arr) rfl hd rfl hn hN hb hc hs rfl fun H1 cA e1 z1 o1 hAr hNm => ?_
  have ec : cA = cI := Option.some.inj (hNm.symm.trans (C.2.2.2.2.2.1.2 0 (cI, .int) rfl).2)
  subst ec
  refine k H.size H1 locs ls (va_P.app (h1.kept (fun j x hx => o1 x.1 ((h1 j x hx).lt))) (fun j x hx => ?_)) (h2.push h1 rfl (C.2.2.2.2.2.2.2.2.2.2 _ h3.1)) ⟨Nat.le_trans h3.1 (by omega), fun x a b => (o1 x (Nat.lt_of_lt_of_le a h3.1)).trans (h3.2.1 x a b), h3.2.2⟩ h4
  have hz : j < 1 := (List.getElem?_eq_some_iff.mp hx).1
  rw [show j = 0 by omega] at hx
  cases hx
  exact e1
theorem z_objInit (C : Cx p s m args meth c own cc n rt D cI tt A) {idx : Nat} (hw : Cond.methodLink own idx objectInit ∈ TB) {a : Nat} (hf : 1 ≤ R.frames) (hst : (st.map fun v => v.category).sum ≤ 8) (hl : 20 ≤ R.locals) (hd : decode cc pc = .ok (.invokespecial idx, 3))
    (k : Z p l e R s m args below meth c D A n ce sl Q (pc + 3) lv st ws) : Z p l e R s m args below meth c D A n ce sl Q pc lv (.ref a :: st) ws := fun H locs ls h1 h2 h3 h4 =>
  W.objInit C.1 C.2.1 C.2.2.2.1 (C.2.2.2.2.1 _ hw) (C.2.2.2.2.1 _ wm_obj) (C.2.2.2.2.1 _ wc_obj) rfl (h4.1.trans C.2.2.1.symm) rfl hd hf (by have := lv_room (m := m) (pc := pc) (ls := ls) (rest := .ref a :: st) (st := st) hst; omega) (k H locs ls h1 h2 h3 h4)
end ZA
