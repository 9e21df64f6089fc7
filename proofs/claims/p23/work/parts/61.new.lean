/-! new arrays: the cell stands at the world's end -/
section ZA
variable {p : Program} {l : Launch} {e : Env} {R : Room} {s : State} {m : MethodId} {args : Array Value} {below : List Frame} {meth : Method} {c : Code} {D : va_G} {A : Nat → Prop} {n ce sl : Nat} {Q : State → Prop} {own : String} {cc : ByteArray} {rt : Option FieldType} {cI : ClassId} {tt : Nat × Nat × Nat} {pc : Nat} {lv : List (Nat × Value)} {st : List Value} {ws : va_W}
theorem z_newa (C : Cx p s m args meth c own cc n rt D cI tt A) {N : Nat} {v : Int32} (hn : ¬ v < 0) (hN : v.toNatClampNeg = N) (hb : N * 4 ≤ 536870912) (hc : ce + 1 ≤ R.cells) (hs : sl + N ≤ R.slots) (hd : decode cc pc = .ok (.newarray .int, 2))
    (k : ∀ q : Nat, Z p l e R s m args below meth c D A n (ce + 1) (sl + N) Q (pc + 2) lv (.ref q :: st) (ws ++ [(q, .inl (cI, N, .inl (fun _ => 0)))])) : Z p l e R s m args below meth c D A n ce sl Q pc lv (.int v :: st) ws := fun H locs ls h1 h2 h3 h4 => by
  refine va_newaK (atype := .int) C.1 C.2.1 (C.2.2.2.2.1 _ w_arr) rfl hd rfl hn hN hb hc hs rfl fun H1 cA e1 z1 o1 hAr hNm => ?_
  have ec : cA = cI := Option.some.inj (hNm.symm.trans (C.2.2.2.2.2.1.2 0 (cI, .int) rfl).2)
  subst ec
  refine k H.size H1 locs ls (va_P.app (h1.kept (fun j x hx => o1 x.1 ((h1 j x hx).lt))) (fun j x hx => ?_)) (h2.push h1 rfl (C.2.2.2.2.2.2.2.2.2.2 _ h3.1)) ⟨Nat.le_trans h3.1 (by omega), fun x a b => (o1 x (Nat.lt_of_lt_of_le a h3.1)).trans (h3.2.1 x a b), h3.2.2⟩ h4
  have hz : j < 1 := (List.getElem?_eq_some_iff.mp hx).1
  rw [show j = 0 by omega] at hx
  cases hx
  exact e1
theorem z_objInit (C : Cx p s m args meth c own cc n rt D cI tt A) {idx : Nat} (hw : Cond.methodLink own idx objectInit ∈ TB) {a : Nat} (hf : 1 ≤ R.frames) (hst : (st.map fun v => v.category).sum ≤ 8) (hl : 20 ≤ R.locals) (hd : decode cc pc = .ok (.invokespecial idx, 3))
    (k : Z p l e R s m args below meth c D A n ce sl Q (pc + 3) lv st ws) : Z p l e R s m args below meth c D A n ce sl Q pc lv (.ref a :: st) ws := fun H locs ls h1 h2 h3 h4 =>
  W.objInit C.1 C.2.1 C.2.2.2.1 (C.2.2.2.2.1 _ hw) (C.2.2.2.2.1 _ wm_obj) (C.2.2.2.2.1 _ wc_obj) rfl (h4.1.trans C.2.2.1.symm) rfl hd hf (by have := lv_room (m := m) (pc := pc) (ls := ls) (rest := .ref a :: st) (st := st) hst; omega) (k H locs ls h1 h2 h3 h4)
theorem z_vretN {S : Type} {post : S → Prop} {wf : S → va_W} (C : Cx p s m args meth c own cc n none D cI tt A) (u : S) (hd : decode cc pc = .ok (.return_, 1)) (hp : post u) (hw : wf u = ws) : Z p l e R s m args below meth c D A n ce sl (MQ below (va_Qv post (fun u t => va_P D vwCl (wf u) t.heap ∧ va_D A (wf u)) A) args s ce sl A) pc lv [] ws := by
  subst hw
  exact fun H locs ls h1 h2 h3 h4 => W.vret C.1 C.2.1 C.2.2.2.2.2.2.2.2.1 (fun t ht hW => ⟨⟨u, rfl, hp, by show va_P D vwCl (wf u) t.heap; rw [ht]; exact h1, h2⟩, h3.F ht⟩) h3.2.2 hd C.2.2.2.2.2.2.2.2.2.1
end ZA
/-- a constructor: mc cells and ms slots are new behind it -/
abbrev MetN {S : Type} (l : Launch) (y : MethodName) (cc : ByteArray) (n : Nat) (R : Room) (D : va_G) (cI : ClassId) (tt : Nat × Nat × Nat) (av : List Value) (ws : va_W) (mc ms : Nat) (post : S → Prop) (wf : S → va_W) : Prop :=
  ∀ sz : Nat, Met l y (.code y cc n none :: TB) R (va_Pc av (Pre D cI tt ws sz)) (va_Qv post (fun u t => va_P D vwCl (wf u) t.heap ∧ va_D (va_A ws sz) (wf u)) (va_A ws sz)) mc ms (va_A ws sz)
theorem met_ofN {S : Type} {l : Launch} {y : MethodName} {cc : ByteArray} {nY : Nat} {R : Room} {D : va_G} {cI : ClassId} {tt : Nat × Nat × Nat} {av : List Value} {ws : va_W} {mc ms : Nat} {post : S → Prop} {wf : S → va_W} (hy : plainName y.cls = true) (hn : (lg_sl av).length ≤ nY)
    (body : ∀ (p : Program) (e : Env) (s : State) (m : MethodId) (args : Array Value) (below : List Frame) (meth : Method) (c : Code) (A : Nat → Prop), Cx p s m args meth c y.cls cc nY none D cI tt A → (y.name = "<init>" → meth.name = "<init>") → Z p l e R s m args below meth c D A nY 0 0 (MQ below (va_Qv post (fun u t => va_P D vwCl (wf u) t.heap ∧ va_D A (wf u)) A) args s mc ms A) 0 (lv_args 0 av) [] ws) :
    MetN l y cc nY R D cI tt av ws mc ms post wf := fun sz => by
  refine Met.ofW (cc := cc) (maxL := nY) (ret := none) hy rfl ?_
  intro p e s m args below meth c s₁ B hml hv
  obtain ⟨rfl, hsz, hP, hD, hK, hN, hST⟩ := hv
  have hts : ∀ w ∈ (.code y cc nY none :: TB : List Cond), w.before av.toArray s = true := atoms_spec (ws := .code y cc nY none :: TB) B.pre
  have hown : s.vm.findClass y.cls = some m.cls := findClass_of_methodNamed B.named
  subst hsz
  have hl := lv_entry av (n := nY) hn
  rw [lg_entry_eq]
  exact body p e s m av.toArray below meth c (va_A ws s.heap.size) ⟨B.exec, B.bytes, hml, hown, fun w hw => hts w (List.mem_cons_of_mem _ hw), hK, hN, hST, B.returns, B.notSynchronized, fun q hq => Or.inr hq⟩ (fun h => by rw [← h]; exact (name_of_methodNamed B.named B.method).1) s.heap [] _ hP hD.self va_S.rf hl
theorem n_page (l : Launch) (D : va_G) (cI : ClassId) (tt : Nat × Nat × Nat) (a : Nat) : MetN (S := Nat) l yX0_init cX0_init 1 { frames := 1, cells := 1, slots := 15, locals := 20 } D cI tt [.ref a] [(a, .inr (0, [.null, .int 0]))] 1 15 (fun _ => True) (fun q => [(a, .inr (0, [.ref q, .int 0])), (q, .inl (cI, 15, .inl (fun _ => 0)))]) := by
  refine met_ofN (by decide) (Nat.le_of_ble_eq_true rfl) ?_
  intro pP eE sS mM aV bB mE cC AA C hin
  refine z_conv (lv' := [(0, .ref a)]) ⟨rfl, trivial⟩ rfl rfl ?_
  refine z_aload_n C (pc := 0) dX0_init_0 rfl ?_
  refine z_objInit C (pc := 1) wl_X0_3 (by decide) (by decide) (by decide) dX0_init_1 ?_
  refine z_aload_n C (pc := 4) dX0_init_4 rfl ?_
  refine z_bipush C (pc := 5) (v := 15) dX0_init_5 (by decide) ?_
  refine z_newa C (pc := 7) (N := 15) (by decide) (by decide) (by decide) (Nat.le_of_ble_eq_true rfl) (Nat.le_of_ble_eq_true rfl) dX0_init_7 (fun q => ?_)
  refine z_putF C (pc := 9) 0 rfl rfl wf_X0 0 (by decide) rfl tyX0 tyX0_ok nmX0 rfl rfl rfl (Nat.le_of_ble_eq_true rfl) (ws' := [(a, .inr (0, [.ref q, .int 0])), (q, .inl (cI, 15, .inl (fun _ => 0)))]) rfl wl_X0_9 (hin rfl) rfl dX0_init_9 ?_
  exact z_vretN C (pc := 12) q dX0_init_12 trivial rfl
