/-! THE Z LAYER: a method's walk over its world alone (heap, written places and locals' array are hidden) -/
theorem nest_forms {w : Cond} (h : nestWord w = true) : (∃ a i b n d t, w = .fieldLinkNest a i b n d t) ∨ (∃ a i x t, w = .methodLinkNest a i x t) := by
  cases w <;> first | exact Or.inl ⟨_, _, _, _, _, _, rfl⟩ | exact Or.inr ⟨_, _, _, _, rfl⟩ | exact absurd h (by simp [nestWord])
def NN (U : State) : Prop := ∀ w ∈ NB, va_Nw w U
theorem NN.vm {u U : State} (h : u.vm = U.vm) (hn : NN u) : NN U := fun w hw => by
  rcases nest_forms (List.mem_filter.mp hw).2 with ⟨a, i, b, n, d, t, rfl⟩ | ⟨a, i, x, t, rfl⟩
  · exact va_Nw.same rfl h (hn _ hw)
  · exact va_Nw.same rfl h (hn _ hw)
theorem NN.warm {s U : State} (hW : s.WarmedH U.vm) (hn : NN s) : NN U := fun w hw => by
  rcases nest_forms (List.mem_filter.mp hw).2 with ⟨a, i, b, n, d, t, rfl⟩ | ⟨a, i, x, t, rfl⟩
  · exact va_Nw.warmF hW (hn _ hw)
  · exact va_Nw.warmM hW (hn _ hw)
def pullsV : Nat → Int32 := fun k => match k with | 0 => 4 | 1 => 8 | 2 => 2 | 3 => 2 | _ => 3
def eatsV : Nat → Int32 := fun k => match k with | 1 => 2 | _ => 1
def feedsV : Nat → Int32 := fun k => match k with | 1 => 6 | 2 => 2 | 4 => 3 | _ => 0
def ST (tt : Nat × Nat × Nat) (A : Nat → Prop) (U : State) (H : Heap) : Prop :=
  (va_Z RX3 "PULLS" "[I" (.ref tt.1) A U H ∧ va_T .int tt.1 5 (fun j => .int (pullsV j)) A U H) ∧
  (va_Z RX3 "EATS" "[I" (.ref tt.2.1) A U H ∧ va_T .int tt.2.1 5 (fun j => .int (eatsV j)) A U H) ∧
  (va_Z RX3 "FEEDS" "[I" (.ref tt.2.2) A U H ∧ va_T .int tt.2.2 5 (fun j => .int (feedsV j)) A U H)
theorem ST.moved {tt : Nat × Nat × Nat} {A : Nat → Prop} {u U : State} {H : Heap} (hvm : u.vm.Alike U.vm) (h : ST tt A u H) : ST tt A U H :=
  ⟨⟨va_Z.moved hvm h.1.1, va_T.moved hvm h.1.2⟩, ⟨va_Z.moved hvm h.2.1.1, va_T.moved hvm h.2.1.2⟩, va_Z.moved hvm h.2.2.1, va_T.moved hvm h.2.2.2⟩
theorem ST.kept {tt : Nat × Nat × Nat} {A : Nat → Prop} {U : State} {H H1 : Heap} (h : ST tt A U H) (hq : ∀ a : Nat, a < H.size → ¬ A a → H1[a]? = H[a]?) : ST tt A U H1 :=
  ⟨⟨h.1.1.kept hq, h.1.2.kept hq⟩, ⟨h.2.1.1.kept hq, h.2.1.2.kept hq⟩, h.2.2.1.kept hq, h.2.2.2.kept hq⟩
theorem ST.narrow {tt : Nat × Nat × Nat} {A B : Nat → Prop} {U : State} {H : Heap} (h : ST tt A U H) (hAB : ∀ q, B q → A q) : ST tt B U H :=
  ⟨⟨h.1.1.narrow hAB, h.1.2.narrow hAB⟩, ⟨h.2.1.1.narrow hAB, h.2.1.2.narrow hAB⟩, h.2.2.1.narrow hAB, h.2.2.2.narrow hAB⟩
/-- what a method is told at its start: its world ws, and nothing else -/
def Pre (D : va_G) (cI : ClassId) (tt : Nat × Nat × Nat) (ws : va_W) (sz : Nat) (U : State) : Prop :=
  U.heap.size = sz ∧ va_P D vwCl ws U.heap ∧ va_D (fun _ => True) ws ∧ va_K D vwCl [(cI, .int)] U ∧ NN U ∧ ST tt (va_A ws sz) U U.heap
def rm (F L : Nat) : Room := { frames := F, cells := 0, slots := 0, locals := L }
/-- contracts: the method returns an int, a long, nothing; 'post' says what of the answer and of the u of the world 'wf u' behind it -/
abbrev MetI {S : Type} (l : Launch) (y : MethodName) (cc : ByteArray) (n : Nat) (rt : Option FieldType) (R : Room) (D : va_G) (cI : ClassId) (tt : Nat × Nat × Nat) (av : List Value) (ws : va_W) (post : Int32 → S → Prop) (wf : S → va_W) : Prop :=
  ∀ sz : Nat, Met l y (.code y cc n rt :: TB) R (va_Pc av (Pre D cI tt ws sz)) (va_Qi post (fun u t => va_P D vwCl (wf u) t.heap) (va_A ws sz)) 0 0 (va_A ws sz)
abbrev MetL {S : Type} (l : Launch) (y : MethodName) (cc : ByteArray) (n : Nat) (rt : Option FieldType) (R : Room) (D : va_G) (cI : ClassId) (tt : Nat × Nat × Nat) (av : List Value) (ws : va_W) (post : Int64 → S → Prop) (wf : S → va_W) : Prop :=
  ∀ sz : Nat, Met l y (.code y cc n rt :: TB) R (va_Pc av (Pre D cI tt ws sz)) (va_Ql post (fun u t => va_P D vwCl (wf u) t.heap) (va_A ws sz)) 0 0 (va_A ws sz)
abbrev MetV {S : Type} (l : Launch) (y : MethodName) (cc : ByteArray) (n : Nat) (rt : Option FieldType) (R : Room) (D : va_G) (cI : ClassId) (tt : Nat × Nat × Nat) (av : List Value) (ws : va_W) (post : S → Prop) (wf : S → va_W) : Prop :=
  ∀ sz : Nat, Met l y (.code y cc n rt :: TB) R (va_Pc av (Pre D cI tt ws sz)) (va_Qv post (fun u t => va_P D vwCl (wf u) t.heap) (va_A ws sz)) 0 0 (va_A ws sz)
/-- what holds all through a method's body -/
def Cx (p : Program) (s : State) (m : MethodId) (args : Array Value) (meth : Method) (c : Code) (own : String) (cc : ByteArray) (n : Nat) (rt : Option FieldType) (D : va_G) (cI : ClassId) (tt : Nat × Nat × Nat) (A : Nat → Prop) : Prop :=
  p.tables.exec = Jvm.exec ∧ c.code = cc ∧ c.maxLocals = n ∧ s.vm.findClass own = some m.cls ∧ (∀ w ∈ TB, w.before args s = true) ∧ va_K D vwCl [(cI, .int)] s ∧ NN s ∧ ST tt A s s.heap ∧ meth.sig.returnType = rt ∧ meth.locks = false ∧ (∀ q : Nat, s.heap.size ≤ q → A q)
def Z (p : Program) (l : Launch) (e : Env) (R : Room) (s : State) (m : MethodId) (args : Array Value) (below : List Frame) (meth : Method) (c : Code) (D : va_G) (A : Nat → Prop) (n ce sl : Nat) (Q : State → Prop) (pc : Nat) (lv : List (Nat × Value)) (st : List Value) (ws : va_W) : Prop :=
  ∀ (H : Heap) (locs : List Loc) (ls : Array Slot), va_P D vwCl ws H → va_D A ws → va_S A s.heap H locs → lv_has ls n lv → W p l e R s m args below meth c H locs ce sl Q (F0 m pc ls st)
/-- a local's value, by its number -/
def lk : List (Nat × Value) → Nat → Option Value
  | [], _ => none
  | q :: t, i => if q.1 = i then some q.2 else lk t i
theorem lk_mem : ∀ {lv : List (Nat × Value)} {i : Nat} {v : Value}, lk lv i = some v → (i, v) ∈ lv
  | [], _, _, h => by cases h
  | q :: t, i, v, h => by
    unfold lk at h
    by_cases e : q.1 = i
    · rw [if_pos e] at h
      cases h
      subst e
      exact List.mem_cons_self
    · rw [if_neg e] at h
      exact List.mem_cons_of_mem _ (lk_mem h)
theorem lk_at {ls : Array Slot} {n : Nat} {lv : List (Nat × Value)} {i : Nat} {v : Value} (h : lv_has ls n lv) (hl : lk lv i = some v) : ls[i]? = some (.val v) := h.2.2 (i, v) (lk_mem hl)
/-- fewer locals, in another order: checked by lookup -/
def lsub (lv : List (Nat × Value)) : List (Nat × Value) → Prop
  | [] => True
  | q :: t => lk lv q.1 = some q.2 ∧ lsub lv t
theorem lsub_has {ls : Array Slot} {n : Nat} {lv : List (Nat × Value)} (h : lv_has ls n lv) : ∀ {lv' : List (Nat × Value)}, lsub lv lv' → lv_has ls n lv'
  | [], _ => ⟨h.1, h.2.1, fun q hq => by cases hq⟩
  | q :: t, hs => ⟨h.1, h.2.1, fun q' hq => by
      rcases List.mem_cons.mp hq with rfl | hq
      · exact lk_at h hs.1
      · exact (lsub_has h hs.2).2.2 q' hq⟩
/-- a store keeps the list's order; the list's other locals are not its neighbours' halves -/
def sto (i : Nat) (v : Value) : List (Nat × Value) → List (Nat × Value)
  | [] => [(i, v)]
  | q :: t => if q.1 = i then (i, v) :: t else q :: sto i v t
def sok1 (i : Nat) (lv : List (Nat × Value)) : Bool := lv.all (fun q => !(q.1 + 1 == i && q.2.category == 2))
def sok2 (i : Nat) (lv : List (Nat × Value)) : Bool := lv.all (fun q => !(q.1 == i + 1) && !(q.1 + 1 == i && q.2.category == 2))
def nodup (lv : List (Nat × Value)) : Bool := match lv with | [] => true | q :: t => t.all (fun r => !(r.1 == q.1)) && nodup t
theorem sto_mem (i : Nat) (v : Value) : ∀ (lv : List (Nat × Value)), nodup lv = true → ∀ q ∈ sto i v lv, q = (i, v) ∨ (q ∈ lv ∧ q.1 ≠ i)
  | [], _, q, h => Or.inl (by simpa [sto] using h)
  | r :: t, hn, q, h => by
    have hn' : t.all (fun x => !(x.1 == r.1)) = true ∧ nodup t = true := by simpa [nodup] using hn
    unfold sto at h
    by_cases e : r.1 = i
    · rw [if_pos e] at h
      rcases List.mem_cons.mp h with h | h
      · exact Or.inl h
      · refine Or.inr ⟨List.mem_cons_of_mem _ h, fun e2 => ?_⟩
        have h3 := List.all_eq_true.mp hn'.1 q h
        simp [e2, e] at h3
    · rw [if_neg e] at h
      rcases List.mem_cons.mp h with rfl | h
      · exact Or.inr ⟨List.mem_cons_self, e⟩
      · rcases sto_mem i v t hn'.2 q h with h | ⟨h1, h2⟩
        · exact Or.inl h
        · exact Or.inr ⟨List.mem_cons_of_mem _ h1, h2⟩
theorem sto_has1 {ls : Array Slot} {n i : Nat} {v : Value} {lv : List (Nat × Value)} (hn : nodup lv = true) (ho : sok1 i lv = true) (h : lv_has ls n ((i, v) :: lv.filter (fun q => !(q.1 == i) && !(q.1 + 1 == i && q.2.category == 2)))) : lv_has ls n (sto i v lv) := by
  refine ⟨h.1, h.2.1, fun q hq => h.2.2 q ?_⟩
  rcases sto_mem i v lv hn q hq with rfl | ⟨h1, h2⟩
  · exact List.mem_cons_self
  · refine List.mem_cons_of_mem _ (List.mem_filter.mpr ⟨h1, ?_⟩)
    have h3 := List.all_eq_true.mp ho q h1
    have h4 : (!(q.1 == i)) = true := by simp [h2]
    rw [h4, Bool.true_and]
    exact h3
theorem sto_has2 {ls : Array Slot} {n i : Nat} {v : Value} {lv : List (Nat × Value)} (hn : nodup lv = true) (ho : sok2 i lv = true) (h : lv_has ls n ((i, v) :: lv.filter (fun q => !(q.1 == i) && (!(q.1 == i + 1) && !(q.1 + 1 == i && q.2.category == 2))))) : lv_has ls n (sto i v lv) := by
  refine ⟨h.1, h.2.1, fun q hq => h.2.2 q ?_⟩
  rcases sto_mem i v lv hn q hq with rfl | ⟨h1, h2⟩
  · exact List.mem_cons_self
  · refine List.mem_cons_of_mem _ (List.mem_filter.mpr ⟨h1, ?_⟩)
    have h3 := List.all_eq_true.mp ho q h1
    have h4 : (!(q.1 == i)) = true := by simp [h2]
    rw [h4, Bool.true_and]
    exact h3
/-- a world with some cells replaced, by their places -/
def weave (ws : va_W) : List Nat → va_W → va_W
  | i :: is, c :: cs => weave (ws.set i c) is cs
  | [], _ => ws
  | _ :: _, [] => ws
theorem weave_at : ∀ (is : List Nat) (cs ws : va_W) (k : Nat) (q : Nat × va_E), is.length = cs.length → (weave ws is cs)[k]? = some q → (k ∉ is ∧ ws[k]? = some q) ∨ ∃ j : Nat, is[j]? = some k ∧ cs[j]? = some q
  | [], cs, ws, k, q, _, h => Or.inl ⟨List.not_mem_nil, by simpa [weave] using h⟩
  | _ :: _, [], _, _, _, hl, _ => by simp at hl
  | i :: is, c :: cs, ws, k, q, hl, h => by
    unfold weave at h
    rcases weave_at is cs (ws.set i c) k q (by simpa using hl) h with ⟨h1, h2⟩ | ⟨j, h1, h2⟩
    · by_cases e : i = k
      · subst e
        rw [List.getElem?_set] at h2
        simp only [if_true] at h2
        split at h2
        · exact Or.inr ⟨0, rfl, h2⟩
        · cases h2
      · rw [List.getElem?_set, if_neg e] at h2
        refine Or.inl ⟨fun hm => ?_, h2⟩
        rcases List.mem_cons.mp hm with r | r
        · exact e r.symm
        · exact h1 r
    · exact Or.inr ⟨j + 1, by simpa using h1, by simpa using h2⟩
theorem va_D_addr {A : Nat → Prop} {ws ws' : va_W} (h : va_D A ws) (e : ws'.map (·.1) = ws.map (·.1)) : va_D A ws' := by
  have key : ∀ (k : Nat) (q : Nat × va_E), ws'[k]? = some q → ∃ q', ws[k]? = some q' ∧ q'.1 = q.1 := by
    intro k q hk
    have h1 : (ws'.map (·.1))[k]? = some q.1 := by rw [List.getElem?_map, hk]; rfl
    rw [e, List.getElem?_map] at h1
    cases hw : ws[k]? with
    | none => rw [hw] at h1; cases h1
    | some q' => rw [hw] at h1; exact ⟨q', rfl, Option.some.inj h1⟩
  refine ⟨fun i j x y hx hy hxy => ?_, fun k q hk => ?_⟩
  · obtain ⟨x', h1, h2⟩ := key i x hx
    obtain ⟨y', h3, h4⟩ := key j y hy
    exact h.1 i j x' y' h1 h3 (by rw [h2, h4]; exact hxy)
  · obtain ⟨q', h1, h2⟩ := key k q hk
    rw [← h2]
    exact h.2 k q' h1
theorem weave_addr : ∀ (is : List Nat) (cs wc ws : va_W), is.map (fun i => ws[i]?) = wc.map some → cs.map (·.1) = wc.map (·.1) → (weave ws is cs).map (·.1) = ws.map (·.1)
  | [], _, _, _, _, _ => by simp [weave]
  | _ :: _, [], _, _, _, _ => by simp [weave]
  | _ :: _, _ :: _, [], _, h, _ => by simp at h
  | i :: is, c :: cs, d :: wc, ws, h, e => by
    have h1 : ws[i]? = some d := by
      have h0 := congrArg List.head? h
      simpa using h0
    have h2 : is.map (fun i => ws[i]?) = wc.map some := by
      have h0 := congrArg List.tail h
      simpa using h0
    have e1 : c.1 = d.1 := by
      have h0 := congrArg List.head? e
      simpa using h0
    have e2 : cs.map (·.1) = wc.map (·.1) := by
      have h0 := congrArg List.tail e
      simpa using h0
    have hmap : (ws.set i c).map (·.1) = ws.map (·.1) := by
      apply List.ext_getElem?
      intro k
      simp only [List.getElem?_map, List.getElem?_set]
      by_cases hk : i = k
      · subst hk
        by_cases hl : i < ws.length
        · simp [hl, h1, e1]
          have := (List.getElem?_eq_some_iff.mp h1).2
          simp [this]
        · simp at hl
          rw [List.getElem?_eq_none hl] at h1
          cases h1
      · simp [hk]
    have key : ∀ (is' : List Nat) (cs' ws1 ws2 : va_W), ws1.map (·.1) = ws2.map (·.1) → (∀ (j : Nat) (i' : Nat) (c' : Nat × va_E), is'[j]? = some i' → cs'[j]? = some c' → (ws1.map (·.1))[i']? = some c'.1) → (weave ws1 is' cs').map (·.1) = ws2.map (·.1) := by
      intro is'
      induction is' with
      | nil => intro cs' ws1 ws2 h3 _; simpa [weave] using h3
      | cons i' is' ih =>
        intro cs' ws1 ws2 h3 h4
        cases cs' with
        | nil => simpa [weave] using h3
        | cons c' cs' =>
          unfold weave
          have h5 := h4 0 i' c' rfl rfl
          have h6 : (ws1.set i' c').map (·.1) = ws1.map (·.1) := by
            apply List.ext_getElem?
            intro k
            simp only [List.getElem?_map, List.getElem?_set]
            by_cases hk : i' = k
            · subst hk
              rw [List.getElem?_map] at h5
              by_cases hl : i' < ws1.length
              · simp only [if_true, hl]
                rw [h5]; rfl
              · simp at hl
                rw [List.getElem?_eq_none hl] at h5
                cases h5
            · simp [hk]
          refine ih cs' _ ws2 (h6.trans h3) (fun j i2 c2 q1 q2 => ?_)
          rw [h6]
          exact h4 (j + 1) i2 c2 (by simpa using q1) (by simpa using q2)
    unfold weave
    refine key is cs _ ws hmap (fun j i' c' q1 q2 => ?_)
    rw [hmap, List.getElem?_map]
    have q3 : (is.map (fun i => ws[i]?))[j]? = some (ws[i']?) := by rw [List.getElem?_map, q1]; rfl
    rw [h2, List.getElem?_map] at q3
    have q4 : (cs.map (·.1))[j]? = some c'.1 := by rw [List.getElem?_map, q2]; rfl
    rw [e2, List.getElem?_map] at q4
    cases hw : wc[j]? with
    | none => rw [hw] at q4; cases q4
    | some d' =>
      rw [hw] at q3 q4
      have q5 : some d' = ws[i']? := by simpa using q3
      rw [← q5]
      exact q4
theorem va_weave {A : Nat → Prop} {D : va_G} {cl : List vw_C} {ws wc w1 : va_W} {H H1 : Heap} (hP : va_P D cl ws H) (hD : va_D A ws) (is : List Nat) (hC : is.map (fun i => ws[i]?) = wc.map some) (he : w1.map (·.1) = wc.map (·.1))
    (hk : ∀ q : Nat, q < H.size → ¬ va_A wc H.size q → H1[q]? = H[q]?) (hP1 : va_P D cl w1 H1) : va_P D cl (weave ws is w1) H1 ∧ va_D A (weave ws is w1) := by
  have hl : is.length = w1.length := by
    have h1 := congrArg List.length hC
    have h2 := congrArg List.length he
    simp at h1 h2
    omega
  refine ⟨fun k q hq => ?_, va_D_addr hD (weave_addr is w1 wc ws hC he)⟩
  rcases weave_at is w1 ws k q hl hq with ⟨h1, h2⟩ | ⟨j, h1, h2⟩
  · have hlt := (hP k q h2).lt
    refine (hP k q h2).kept (hk q.1 hlt (fun h => ?_))
    rcases h with ⟨j, e, h⟩ | h
    · have h3 : (is.map (fun i => ws[i]?))[j]? = some (some (q.1, e)) := by rw [hC, List.getElem?_map, h]; rfl
      rw [List.getElem?_map] at h3
      cases hi : is[j]? with
      | none => rw [hi] at h3; cases h3
      | some i =>
        rw [hi] at h3
        have h4 : ws[i]? = some (q.1, e) := Option.some.inj h3
        have h5 := hD.1 k i q (q.1, e) h2 h4 rfl
        subst h5
        exact h1 (List.mem_of_getElem? hi)
    · omega
  · exact hP1 j q h2
section ZR
variable {p : Program} {l : Launch} {e : Env} {R : Room} {s : State} {m : MethodId} {args : Array Value} {below : List Frame} {meth : Method} {c : Code} {D : va_G} {A : Nat → Prop} {n ce sl : Nat} {Q : State → Prop} {own : String} {cc : ByteArray} {rt : Option FieldType} {cI : ClassId} {tt : Nat × Nat × Nat} {pc : Nat} {lv : List (Nat × Value)} {st : List Value} {ws : va_W}

theorem z_iconst (C : Cx p s m args meth c own cc n rt D cI tt A) {k : Int} {v : Int32} (hd : decode cc pc = .ok (.iconst k, 1)) (hv : Int32.ofInt k = v) (k : Z p l e R s m args below meth c D A n ce sl Q (pc + 1) lv (.int v :: st) ws) : Z p l e R s m args below meth c D A n ce sl Q pc lv st ws := fun H locs ls h1 h2 h3 h4 => lv_iconst C.1 C.2.1 hd hv (k H locs ls h1 h2 h3 h4)
theorem z_bipush (C : Cx p s m args meth c own cc n rt D cI tt A) {k : Int} {v : Int32} (hd : decode cc pc = .ok (.bipush k, 2)) (hv : (Int8.ofInt k).toInt32 = v) (k : Z p l e R s m args below meth c D A n ce sl Q (pc + 2) lv (.int v :: st) ws) : Z p l e R s m args below meth c D A n ce sl Q pc lv st ws := fun H locs ls h1 h2 h3 h4 => lv_bipush C.1 C.2.1 hd hv (k H locs ls h1 h2 h3 h4)
theorem z_sipush (C : Cx p s m args meth c own cc n rt D cI tt A) {k : Int} {v : Int32} (hd : decode cc pc = .ok (.sipush k, 3)) (hv : (Int16.ofInt k).toInt32 = v) (k : Z p l e R s m args below meth c D A n ce sl Q (pc + 3) lv (.int v :: st) ws) : Z p l e R s m args below meth c D A n ce sl Q pc lv st ws := fun H locs ls h1 h2 h3 h4 => lv_sipush C.1 C.2.1 hd hv (k H locs ls h1 h2 h3 h4)
theorem z_lconst (C : Cx p s m args meth c own cc n rt D cI tt A) {k : Fin 2} {v : Int64} (hd : decode cc pc = .ok (.lconst k, 1)) (hv : Int64.ofNat (k : Nat) = v) (k : Z p l e R s m args below meth c D A n ce sl Q (pc + 1) lv (.long v :: st) ws) : Z p l e R s m args below meth c D A n ce sl Q pc lv st ws := fun H locs ls h1 h2 h3 h4 => lv_lconst C.1 C.2.1 hd hv (k H locs ls h1 h2 h3 h4)
theorem z_iload_n (C : Cx p s m args meth c own cc n rt D cI tt A) {j : Fin 4} {x : Int32} (hd : decode cc pc = .ok (.iload_n j, 1)) (hl : lk lv (j : Nat) = some (.int x)) (k : Z p l e R s m args below meth c D A n ce sl Q (pc + 1) lv (.int x :: st) ws) : Z p l e R s m args below meth c D A n ce sl Q pc lv st ws := fun H locs ls h1 h2 h3 h4 => lv_iload_n C.1 C.2.1 hd rfl (lk_at h4 hl) (k H locs ls h1 h2 h3 h4)
theorem z_iload (C : Cx p s m args meth c own cc n rt D cI tt A) {j : Nat} {x : Int32} (hd : decode cc pc = .ok (.iload j, 2)) (hl : lk lv j = some (.int x)) (k : Z p l e R s m args below meth c D A n ce sl Q (pc + 2) lv (.int x :: st) ws) : Z p l e R s m args below meth c D A n ce sl Q pc lv st ws := fun H locs ls h1 h2 h3 h4 => lv_iload C.1 C.2.1 hd (lk_at h4 hl) (k H locs ls h1 h2 h3 h4)
theorem z_lload_n (C : Cx p s m args meth c own cc n rt D cI tt A) {j : Fin 4} {x : Int64} (hd : decode cc pc = .ok (.lload_n j, 1)) (hl : lk lv (j : Nat) = some (.long x)) (k : Z p l e R s m args below meth c D A n ce sl Q (pc + 1) lv (.long x :: st) ws) : Z p l e R s m args below meth c D A n ce sl Q pc lv st ws := fun H locs ls h1 h2 h3 h4 => lv_lload_n C.1 C.2.1 hd rfl (lk_at h4 hl) (k H locs ls h1 h2 h3 h4)
theorem z_lload (C : Cx p s m args meth c own cc n rt D cI tt A) {j : Nat} {x : Int64} (hd : decode cc pc = .ok (.lload j, 2)) (hl : lk lv j = some (.long x)) (k : Z p l e R s m args below meth c D A n ce sl Q (pc + 2) lv (.long x :: st) ws) : Z p l e R s m args below meth c D A n ce sl Q pc lv st ws := fun H locs ls h1 h2 h3 h4 => lv_lload C.1 C.2.1 hd (lk_at h4 hl) (k H locs ls h1 h2 h3 h4)
theorem z_aload_n (C : Cx p s m args meth c own cc n rt D cI tt A) {j : Fin 4} {x : Nat} (hd : decode cc pc = .ok (.aload_n j, 1)) (hl : lk lv (j : Nat) = some (.ref x)) (k : Z p l e R s m args below meth c D A n ce sl Q (pc + 1) lv (.ref x :: st) ws) : Z p l e R s m args below meth c D A n ce sl Q pc lv st ws := fun H locs ls h1 h2 h3 h4 => lv_aload_n C.1 C.2.1 hd rfl (lk_at h4 hl) (k H locs ls h1 h2 h3 h4)
theorem z_aload (C : Cx p s m args meth c own cc n rt D cI tt A) {j : Nat} {x : Nat} (hd : decode cc pc = .ok (.aload j, 2)) (hl : lk lv j = some (.ref x)) (k : Z p l e R s m args below meth c D A n ce sl Q (pc + 2) lv (.ref x :: st) ws) : Z p l e R s m args below meth c D A n ce sl Q pc lv st ws := fun H locs ls h1 h2 h3 h4 => lv_aload C.1 C.2.1 hd (lk_at h4 hl) (k H locs ls h1 h2 h3 h4)
theorem z_istore_n (C : Cx p s m args meth c own cc n rt D cI tt A) {j : Fin 4} {x : Int32} {lv' : List (Nat × Value)} (hd : decode cc pc = .ok (.istore_n j, 1)) (hn : (j : Nat) < n) (ho : (nodup lv && sok1 (j : Nat) lv) = true) (hl : sto (j : Nat) (.int x) lv = lv') (k : Z p l e R s m args below meth c D A n ce sl Q (pc + 1) lv' st ws) : Z p l e R s m args below meth c D A n ce sl Q pc lv (.int x :: st) ws := by
  rw [Bool.and_eq_true] at ho
  subst hl
  exact fun H locs ls h1 h2 h3 h4 => lv_istore_n C.1 C.2.1 hd rfl h4 hn rfl (fun ls' h5 => k H locs ls' h1 h2 h3 (sto_has1 ho.1 ho.2 h5))
theorem z_istore (C : Cx p s m args meth c own cc n rt D cI tt A) {j : Nat} {x : Int32} {lv' : List (Nat × Value)} (hd : decode cc pc = .ok (.istore j, 2)) (hn : j < n) (ho : (nodup lv && sok1 j lv) = true) (hl : sto j (.int x) lv = lv') (k : Z p l e R s m args below meth c D A n ce sl Q (pc + 2) lv' st ws) : Z p l e R s m args below meth c D A n ce sl Q pc lv (.int x :: st) ws := by
  rw [Bool.and_eq_true] at ho
  subst hl
  exact fun H locs ls h1 h2 h3 h4 => lv_istore C.1 C.2.1 hd h4 hn rfl (fun ls' h5 => k H locs ls' h1 h2 h3 (sto_has1 ho.1 ho.2 h5))
theorem z_lstore_n (C : Cx p s m args meth c own cc n rt D cI tt A) {j : Fin 4} {x : Int64} {lv' : List (Nat × Value)} (hd : decode cc pc = .ok (.lstore_n j, 1)) (hn : (j : Nat) + 1 < n) (ho : (nodup lv && sok2 (j : Nat) lv) = true) (hl : sto (j : Nat) (.long x) lv = lv') (k : Z p l e R s m args below meth c D A n ce sl Q (pc + 1) lv' st ws) : Z p l e R s m args below meth c D A n ce sl Q pc lv (.long x :: st) ws := by
  rw [Bool.and_eq_true] at ho
  subst hl
  exact fun H locs ls h1 h2 h3 h4 => lv_lstore_n C.1 C.2.1 hd rfl h4 hn rfl (fun ls' h5 => k H locs ls' h1 h2 h3 (sto_has2 ho.1 ho.2 h5))
theorem z_astore_n (C : Cx p s m args meth c own cc n rt D cI tt A) {j : Fin 4} {x : Nat} {lv' : List (Nat × Value)} (hd : decode cc pc = .ok (.astore_n j, 1)) (hn : (j : Nat) < n) (ho : (nodup lv && sok1 (j : Nat) lv) = true) (hl : sto (j : Nat) (.ref x) lv = lv') (k : Z p l e R s m args below meth c D A n ce sl Q (pc + 1) lv' st ws) : Z p l e R s m args below meth c D A n ce sl Q pc lv (.ref x :: st) ws := by
  rw [Bool.and_eq_true] at ho
  subst hl
  exact fun H locs ls h1 h2 h3 h4 => lv_astore_n C.1 C.2.1 hd rfl h4 hn rfl (fun ls' h5 => k H locs ls' h1 h2 h3 (sto_has1 ho.1 ho.2 h5))
theorem lk_idx : ∀ {lv : List (Nat × Value)} {i : Nat} {v : Value}, lk lv i = some v → ∃ k : Nat, lv[k]? = some (i, v) := fun h => List.getElem?_of_mem (lk_mem h)
theorem z_iinc (C : Cx p s m args meth c own cc n rt D cI tt A) {j : Nat} {i : Int} {x v : Int32} {lv' : List (Nat × Value)} (hd : decode cc pc = .ok (.iinc j i, 3)) (hx : lk lv j = some (.int x)) (hv : x + Int32.ofInt i = v) (hn : j < n) (ho : (nodup lv && sok1 j lv) = true) (hl : sto j (.int v) lv = lv') (k : Z p l e R s m args below meth c D A n ce sl Q (pc + 3) lv' st ws) : Z p l e R s m args below meth c D A n ce sl Q pc lv st ws := by
  rw [Bool.and_eq_true] at ho
  subst hl
  obtain ⟨q, hq⟩ := lk_idx hx
  exact fun H locs ls h1 h2 h3 h4 => lv_iinc C.1 C.2.1 hd h4 hq hv hn rfl (fun ls' h5 => k H locs ls' h1 h2 h3 (sto_has1 ho.1 ho.2 h5))
theorem z_iadd (C : Cx p s m args meth c own cc n rt D cI tt A) {x y : Int32} (hd : decode cc pc = .ok (.iadd, 1)) (k : Z p l e R s m args below meth c D A n ce sl Q (pc + 1) lv (.int (x + y) :: st) ws) : Z p l e R s m args below meth c D A n ce sl Q pc lv (.int y :: .int x :: st) ws := fun H locs ls h1 h2 h3 h4 => lv_iadd C.1 C.2.1 hd (k H locs ls h1 h2 h3 h4)
theorem z_isub (C : Cx p s m args meth c own cc n rt D cI tt A) {x y : Int32} (hd : decode cc pc = .ok (.isub, 1)) (k : Z p l e R s m args below meth c D A n ce sl Q (pc + 1) lv (.int (x - y) :: st) ws) : Z p l e R s m args below meth c D A n ce sl Q pc lv (.int y :: .int x :: st) ws := fun H locs ls h1 h2 h3 h4 => lv_isub C.1 C.2.1 hd (k H locs ls h1 h2 h3 h4)
theorem z_imul (C : Cx p s m args meth c own cc n rt D cI tt A) {x y : Int32} (hd : decode cc pc = .ok (.imul, 1)) (k : Z p l e R s m args below meth c D A n ce sl Q (pc + 1) lv (.int (x * y) :: st) ws) : Z p l e R s m args below meth c D A n ce sl Q pc lv (.int y :: .int x :: st) ws := fun H locs ls h1 h2 h3 h4 => lv_imul C.1 C.2.1 hd (k H locs ls h1 h2 h3 h4)
theorem z_iand (C : Cx p s m args meth c own cc n rt D cI tt A) {x y : Int32} (hd : decode cc pc = .ok (.iand, 1)) (k : Z p l e R s m args below meth c D A n ce sl Q (pc + 1) lv (.int (x &&& y) :: st) ws) : Z p l e R s m args below meth c D A n ce sl Q pc lv (.int y :: .int x :: st) ws := fun H locs ls h1 h2 h3 h4 => lv_iand C.1 C.2.1 hd (k H locs ls h1 h2 h3 h4)
theorem z_ior (C : Cx p s m args meth c own cc n rt D cI tt A) {x y : Int32} (hd : decode cc pc = .ok (.ior, 1)) (k : Z p l e R s m args below meth c D A n ce sl Q (pc + 1) lv (.int (x ||| y) :: st) ws) : Z p l e R s m args below meth c D A n ce sl Q pc lv (.int y :: .int x :: st) ws := fun H locs ls h1 h2 h3 h4 => lv_ior C.1 C.2.1 hd (k H locs ls h1 h2 h3 h4)
theorem z_ixor (C : Cx p s m args meth c own cc n rt D cI tt A) {x y : Int32} (hd : decode cc pc = .ok (.ixor, 1)) (k : Z p l e R s m args below meth c D A n ce sl Q (pc + 1) lv (.int (x ^^^ y) :: st) ws) : Z p l e R s m args below meth c D A n ce sl Q pc lv (.int y :: .int x :: st) ws := fun H locs ls h1 h2 h3 h4 => lv_ixor C.1 C.2.1 hd (k H locs ls h1 h2 h3 h4)
theorem z_idiv (C : Cx p s m args meth c own cc n rt D cI tt A) {x y : Int32} (hd : decode cc pc = .ok (.idiv, 1)) (hne : ¬ y = 0) (k : Z p l e R s m args below meth c D A n ce sl Q (pc + 1) lv (.int (x / y) :: st) ws) : Z p l e R s m args below meth c D A n ce sl Q pc lv (.int y :: .int x :: st) ws := fun H locs ls h1 h2 h3 h4 => lv_idiv C.1 C.2.1 hd hne (k H locs ls h1 h2 h3 h4)
theorem z_irem (C : Cx p s m args meth c own cc n rt D cI tt A) {x y : Int32} (hd : decode cc pc = .ok (.irem, 1)) (hne : ¬ y = 0) (k : Z p l e R s m args below meth c D A n ce sl Q (pc + 1) lv (.int (x - x / y * y) :: st) ws) : Z p l e R s m args below meth c D A n ce sl Q pc lv (.int y :: .int x :: st) ws := fun H locs ls h1 h2 h3 h4 => lv_irem C.1 C.2.1 hd hne (k H locs ls h1 h2 h3 h4)
theorem z_ishl (C : Cx p s m args meth c own cc n rt D cI tt A) {x y : Int32} (hd : decode cc pc = .ok (.ishl, 1)) (k : Z p l e R s m args below meth c D A n ce sl Q (pc + 1) lv (.int (x <<< (y &&& 31)) :: st) ws) : Z p l e R s m args below meth c D A n ce sl Q pc lv (.int y :: .int x :: st) ws := fun H locs ls h1 h2 h3 h4 => lv_ishl C.1 C.2.1 hd (k H locs ls h1 h2 h3 h4)
theorem z_ishr (C : Cx p s m args meth c own cc n rt D cI tt A) {x y : Int32} (hd : decode cc pc = .ok (.ishr, 1)) (k : Z p l e R s m args below meth c D A n ce sl Q (pc + 1) lv (.int (x >>> (y &&& 31)) :: st) ws) : Z p l e R s m args below meth c D A n ce sl Q pc lv (.int y :: .int x :: st) ws := fun H locs ls h1 h2 h3 h4 => lv_ishr C.1 C.2.1 hd (k H locs ls h1 h2 h3 h4)
theorem z_iushr (C : Cx p s m args meth c own cc n rt D cI tt A) {x y v : Int32} (hd : decode cc pc = .ok (.iushr, 1)) (hv : (x.toUInt32 >>> (y.toUInt32 &&& Int32.toUInt32 31)).toInt32 = v) (k : Z p l e R s m args below meth c D A n ce sl Q (pc + 1) lv (.int v :: st) ws) : Z p l e R s m args below meth c D A n ce sl Q pc lv (.int y :: .int x :: st) ws := fun H locs ls h1 h2 h3 h4 => lv_iushr C.1 C.2.1 hd hv (k H locs ls h1 h2 h3 h4)
theorem z_ladd (C : Cx p s m args meth c own cc n rt D cI tt A) {x y : Int64} (hd : decode cc pc = .ok (.ladd, 1)) (k : Z p l e R s m args below meth c D A n ce sl Q (pc + 1) lv (.long (x + y) :: st) ws) : Z p l e R s m args below meth c D A n ce sl Q pc lv (.long y :: .long x :: st) ws := fun H locs ls h1 h2 h3 h4 => lv_ladd C.1 C.2.1 hd (k H locs ls h1 h2 h3 h4)
theorem z_lmul (C : Cx p s m args meth c own cc n rt D cI tt A) {x y : Int64} (hd : decode cc pc = .ok (.lmul, 1)) (k : Z p l e R s m args below meth c D A n ce sl Q (pc + 1) lv (.long (x * y) :: st) ws) : Z p l e R s m args below meth c D A n ce sl Q pc lv (.long y :: .long x :: st) ws := fun H locs ls h1 h2 h3 h4 => lv_lmul C.1 C.2.1 hd (k H locs ls h1 h2 h3 h4)
theorem z_land (C : Cx p s m args meth c own cc n rt D cI tt A) {x y : Int64} (hd : decode cc pc = .ok (.land, 1)) (k : Z p l e R s m args below meth c D A n ce sl Q (pc + 1) lv (.long (x &&& y) :: st) ws) : Z p l e R s m args below meth c D A n ce sl Q pc lv (.long y :: .long x :: st) ws := fun H locs ls h1 h2 h3 h4 => lv_land C.1 C.2.1 hd (k H locs ls h1 h2 h3 h4)
theorem z_lcmp (C : Cx p s m args meth c own cc n rt D cI tt A) {x y : Int64} (hd : decode cc pc = .ok (.lcmp, 1)) (k : Z p l e R s m args below meth c D A n ce sl Q (pc + 1) lv (.int (lg_cmp x y) :: st) ws) : Z p l e R s m args below meth c D A n ce sl Q pc lv (.long y :: .long x :: st) ws := fun H locs ls h1 h2 h3 h4 => W.lcmp C.1 C.2.1 hd (k H locs ls h1 h2 h3 h4)
theorem z_i2l (C : Cx p s m args meth c own cc n rt D cI tt A) {x : Int32} (hd : decode cc pc = .ok (.i2l, 1)) (k : Z p l e R s m args below meth c D A n ce sl Q (pc + 1) lv (.long x.toInt64 :: st) ws) : Z p l e R s m args below meth c D A n ce sl Q pc lv (.int x :: st) ws := fun H locs ls h1 h2 h3 h4 => lv_i2l C.1 C.2.1 hd rfl (k H locs ls h1 h2 h3 h4)
theorem z_l2i (C : Cx p s m args meth c own cc n rt D cI tt A) {x : Int64} (hd : decode cc pc = .ok (.l2i, 1)) (k : Z p l e R s m args below meth c D A n ce sl Q (pc + 1) lv (.int x.toInt32 :: st) ws) : Z p l e R s m args below meth c D A n ce sl Q pc lv (.long x :: st) ws := fun H locs ls h1 h2 h3 h4 => lv_l2i C.1 C.2.1 hd rfl (k H locs ls h1 h2 h3 h4)
theorem z_dup (C : Cx p s m args meth c own cc n rt D cI tt A) {v : Value} (hd : decode cc pc = .ok (.dup, 1)) (hv : v.category = 1) (k : Z p l e R s m args below meth c D A n ce sl Q (pc + 1) lv (v :: v :: st) ws) : Z p l e R s m args below meth c D A n ce sl Q pc lv (v :: st) ws := fun H locs ls h1 h2 h3 h4 => lv_dup C.1 C.2.1 hd hv (k H locs ls h1 h2 h3 h4)
theorem z_pop (C : Cx p s m args meth c own cc n rt D cI tt A) {v : Value} (hd : decode cc pc = .ok (.pop, 1)) (hv : v.category = 1) (k : Z p l e R s m args below meth c D A n ce sl Q (pc + 1) lv st ws) : Z p l e R s m args below meth c D A n ce sl Q pc lv (v :: st) ws := fun H locs ls h1 h2 h3 h4 => lv_pop C.1 C.2.1 hd hv (k H locs ls h1 h2 h3 h4)
theorem z_dup2 (C : Cx p s m args meth c own cc n rt D cI tt A) {v w : Value} (hd : decode cc pc = .ok (.dup2, 1)) (hv : v.category = 1) (hw : w.category = 1) (k : Z p l e R s m args below meth c D A n ce sl Q (pc + 1) lv (v :: w :: v :: w :: st) ws) : Z p l e R s m args below meth c D A n ce sl Q pc lv (v :: w :: st) ws := fun H locs ls h1 h2 h3 h4 => lv_dup2_11 C.1 C.2.1 hd hv hw (k H locs ls h1 h2 h3 h4)
theorem z_if_eq (C : Cx p s m args meth c own cc n rt D cI tt A) {x : Int32} {off : Int} {tgt : Nat} (hd : decode cc pc = .ok (.ifCond .eq off, 3)) (ht : (pc : Int) + off = (tgt : Int)) (kt : x = 0 → Z p l e R s m args below meth c D A n ce sl Q tgt lv st ws) (kf : ¬ x = 0 → Z p l e R s m args below meth c D A n ce sl Q (pc + 3) lv st ws) : Z p l e R s m args below meth c D A n ce sl Q pc lv (.int x :: st) ws := fun H locs ls h1 h2 h3 h4 => lv_if_eq C.1 C.2.1 hd ht (fun q => kt q H locs ls h1 h2 h3 h4) (fun q => kf q H locs ls h1 h2 h3 h4)
theorem z_if_ne (C : Cx p s m args meth c own cc n rt D cI tt A) {x : Int32} {off : Int} {tgt : Nat} (hd : decode cc pc = .ok (.ifCond .ne off, 3)) (ht : (pc : Int) + off = (tgt : Int)) (kt : ¬ x = 0 → Z p l e R s m args below meth c D A n ce sl Q tgt lv st ws) (kf : x = 0 → Z p l e R s m args below meth c D A n ce sl Q (pc + 3) lv st ws) : Z p l e R s m args below meth c D A n ce sl Q pc lv (.int x :: st) ws := fun H locs ls h1 h2 h3 h4 => lv_if_ne C.1 C.2.1 hd ht (fun q => kt q H locs ls h1 h2 h3 h4) (fun q => kf q H locs ls h1 h2 h3 h4)
theorem z_if_lt (C : Cx p s m args meth c own cc n rt D cI tt A) {x : Int32} {off : Int} {tgt : Nat} (hd : decode cc pc = .ok (.ifCond .lt off, 3)) (ht : (pc : Int) + off = (tgt : Int)) (kt : x < 0 → Z p l e R s m args below meth c D A n ce sl Q tgt lv st ws) (kf : ¬ x < 0 → Z p l e R s m args below meth c D A n ce sl Q (pc + 3) lv st ws) : Z p l e R s m args below meth c D A n ce sl Q pc lv (.int x :: st) ws := fun H locs ls h1 h2 h3 h4 => lv_if_lt C.1 C.2.1 hd ht (fun q => kt q H locs ls h1 h2 h3 h4) (fun q => kf q H locs ls h1 h2 h3 h4)
theorem z_if_ge (C : Cx p s m args meth c own cc n rt D cI tt A) {x : Int32} {off : Int} {tgt : Nat} (hd : decode cc pc = .ok (.ifCond .ge off, 3)) (ht : (pc : Int) + off = (tgt : Int)) (kt : 0 ≤ x → Z p l e R s m args below meth c D A n ce sl Q tgt lv st ws) (kf : ¬ 0 ≤ x → Z p l e R s m args below meth c D A n ce sl Q (pc + 3) lv st ws) : Z p l e R s m args below meth c D A n ce sl Q pc lv (.int x :: st) ws := fun H locs ls h1 h2 h3 h4 => lv_if_ge C.1 C.2.1 hd ht (fun q => kt q H locs ls h1 h2 h3 h4) (fun q => kf q H locs ls h1 h2 h3 h4)
theorem z_if_gt (C : Cx p s m args meth c own cc n rt D cI tt A) {x : Int32} {off : Int} {tgt : Nat} (hd : decode cc pc = .ok (.ifCond .gt off, 3)) (ht : (pc : Int) + off = (tgt : Int)) (kt : 0 < x → Z p l e R s m args below meth c D A n ce sl Q tgt lv st ws) (kf : ¬ 0 < x → Z p l e R s m args below meth c D A n ce sl Q (pc + 3) lv st ws) : Z p l e R s m args below meth c D A n ce sl Q pc lv (.int x :: st) ws := fun H locs ls h1 h2 h3 h4 => lv_if_gt C.1 C.2.1 hd ht (fun q => kt q H locs ls h1 h2 h3 h4) (fun q => kf q H locs ls h1 h2 h3 h4)
theorem z_if_le (C : Cx p s m args meth c own cc n rt D cI tt A) {x : Int32} {off : Int} {tgt : Nat} (hd : decode cc pc = .ok (.ifCond .le off, 3)) (ht : (pc : Int) + off = (tgt : Int)) (kt : x ≤ 0 → Z p l e R s m args below meth c D A n ce sl Q tgt lv st ws) (kf : ¬ x ≤ 0 → Z p l e R s m args below meth c D A n ce sl Q (pc + 3) lv st ws) : Z p l e R s m args below meth c D A n ce sl Q pc lv (.int x :: st) ws := fun H locs ls h1 h2 h3 h4 => lv_if_le C.1 C.2.1 hd ht (fun q => kt q H locs ls h1 h2 h3 h4) (fun q => kf q H locs ls h1 h2 h3 h4)
theorem z_icmp_eq (C : Cx p s m args meth c own cc n rt D cI tt A) {x y : Int32} {off : Int} {tgt : Nat} (hd : decode cc pc = .ok (.if_icmp .eq off, 3)) (ht : (pc : Int) + off = (tgt : Int)) (kt : x = y → Z p l e R s m args below meth c D A n ce sl Q tgt lv st ws) (kf : ¬ x = y → Z p l e R s m args below meth c D A n ce sl Q (pc + 3) lv st ws) : Z p l e R s m args below meth c D A n ce sl Q pc lv (.int y :: .int x :: st) ws := fun H locs ls h1 h2 h3 h4 => lv_icmp_eq C.1 C.2.1 hd ht (fun q => kt q H locs ls h1 h2 h3 h4) (fun q => kf q H locs ls h1 h2 h3 h4)
theorem z_icmp_ne (C : Cx p s m args meth c own cc n rt D cI tt A) {x y : Int32} {off : Int} {tgt : Nat} (hd : decode cc pc = .ok (.if_icmp .ne off, 3)) (ht : (pc : Int) + off = (tgt : Int)) (kt : ¬ x = y → Z p l e R s m args below meth c D A n ce sl Q tgt lv st ws) (kf : x = y → Z p l e R s m args below meth c D A n ce sl Q (pc + 3) lv st ws) : Z p l e R s m args below meth c D A n ce sl Q pc lv (.int y :: .int x :: st) ws := fun H locs ls h1 h2 h3 h4 => lv_icmp_ne C.1 C.2.1 hd ht (fun q => kt q H locs ls h1 h2 h3 h4) (fun q => kf q H locs ls h1 h2 h3 h4)
theorem z_icmp_lt (C : Cx p s m args meth c own cc n rt D cI tt A) {x y : Int32} {off : Int} {tgt : Nat} (hd : decode cc pc = .ok (.if_icmp .lt off, 3)) (ht : (pc : Int) + off = (tgt : Int)) (kt : x < y → Z p l e R s m args below meth c D A n ce sl Q tgt lv st ws) (kf : ¬ x < y → Z p l e R s m args below meth c D A n ce sl Q (pc + 3) lv st ws) : Z p l e R s m args below meth c D A n ce sl Q pc lv (.int y :: .int x :: st) ws := fun H locs ls h1 h2 h3 h4 => lv_icmp_lt C.1 C.2.1 hd ht (fun q => kt q H locs ls h1 h2 h3 h4) (fun q => kf q H locs ls h1 h2 h3 h4)
theorem z_icmp_ge (C : Cx p s m args meth c own cc n rt D cI tt A) {x y : Int32} {off : Int} {tgt : Nat} (hd : decode cc pc = .ok (.if_icmp .ge off, 3)) (ht : (pc : Int) + off = (tgt : Int)) (kt : y ≤ x → Z p l e R s m args below meth c D A n ce sl Q tgt lv st ws) (kf : ¬ y ≤ x → Z p l e R s m args below meth c D A n ce sl Q (pc + 3) lv st ws) : Z p l e R s m args below meth c D A n ce sl Q pc lv (.int y :: .int x :: st) ws := fun H locs ls h1 h2 h3 h4 => lv_icmp_ge C.1 C.2.1 hd ht (fun q => kt q H locs ls h1 h2 h3 h4) (fun q => kf q H locs ls h1 h2 h3 h4)
theorem z_icmp_gt (C : Cx p s m args meth c own cc n rt D cI tt A) {x y : Int32} {off : Int} {tgt : Nat} (hd : decode cc pc = .ok (.if_icmp .gt off, 3)) (ht : (pc : Int) + off = (tgt : Int)) (kt : y < x → Z p l e R s m args below meth c D A n ce sl Q tgt lv st ws) (kf : ¬ y < x → Z p l e R s m args below meth c D A n ce sl Q (pc + 3) lv st ws) : Z p l e R s m args below meth c D A n ce sl Q pc lv (.int y :: .int x :: st) ws := fun H locs ls h1 h2 h3 h4 => lv_icmp_gt C.1 C.2.1 hd ht (fun q => kt q H locs ls h1 h2 h3 h4) (fun q => kf q H locs ls h1 h2 h3 h4)
theorem z_icmp_le (C : Cx p s m args meth c own cc n rt D cI tt A) {x y : Int32} {off : Int} {tgt : Nat} (hd : decode cc pc = .ok (.if_icmp .le off, 3)) (ht : (pc : Int) + off = (tgt : Int)) (kt : x ≤ y → Z p l e R s m args below meth c D A n ce sl Q tgt lv st ws) (kf : ¬ x ≤ y → Z p l e R s m args below meth c D A n ce sl Q (pc + 3) lv st ws) : Z p l e R s m args below meth c D A n ce sl Q pc lv (.int y :: .int x :: st) ws := fun H locs ls h1 h2 h3 h4 => lv_icmp_le C.1 C.2.1 hd ht (fun q => kt q H locs ls h1 h2 h3 h4) (fun q => kf q H locs ls h1 h2 h3 h4)
theorem z_lookup (C : Cx p s m args meth c own cc n rt D cI tt A) {dflt : Int} {ps : Array (Int × Int)} {len : Nat} {x : Int32} {off : Int} {tgt : Nat} (hd : decode cc pc = .ok (.lookupswitch dflt ps, len)) (hp : (ps.toList.zip (ps.toList.drop 1)).all (fun (a, next) => a.1 < next.1) = true) (ho : Op.lookupswitch.offset ps.toList dflt x.toInt = off) (ht : (pc : Int) + off = (tgt : Int)) (k : Z p l e R s m args below meth c D A n ce sl Q tgt lv st ws) : Z p l e R s m args below meth c D A n ce sl Q pc lv (.int x :: st) ws := fun H locs ls h1 h2 h3 h4 => lv_lookup C.1 C.2.1 hd hp ho ht (k H locs ls h1 h2 h3 h4)
theorem z_tableOut (C : Cx p s m args meth c own cc n rt D cI tt A) {dflt lo hi : Int} {offs : Array Int} {len : Nat} {x : Int32} {tgt : Nat} (hd : decode cc pc = .ok (.tableswitch dflt lo hi offs, len)) (h : x.toInt < lo ∨ hi < x.toInt) (ht : (pc : Int) + dflt = (tgt : Int)) (k : Z p l e R s m args below meth c D A n ce sl Q tgt lv st ws) : Z p l e R s m args below meth c D A n ce sl Q pc lv (.int x :: st) ws := fun H locs ls h1 h2 h3 h4 => lv_tableOut C.1 C.2.1 hd h ht (k H locs ls h1 h2 h3 h4)
theorem z_tableIn (C : Cx p s m args meth c own cc n rt D cI tt A) {dflt lo hi : Int} {offs : Array Int} {len : Nat} {x : Int32} {off : Int} {tgt : Nat} (hd : decode cc pc = .ok (.tableswitch dflt lo hi offs, len)) (g1 : ¬ x.toInt < lo) (g2 : ¬ hi < x.toInt) (ho : offs[(x.toInt - lo).toNat]? = some off) (ht : (pc : Int) + off = (tgt : Int)) (k : Z p l e R s m args below meth c D A n ce sl Q tgt lv st ws) : Z p l e R s m args below meth c D A n ce sl Q pc lv (.int x :: st) ws := fun H locs ls h1 h2 h3 h4 => lv_tableIn C.1 C.2.1 hd g1 g2 ho ht (k H locs ls h1 h2 h3 h4)
theorem z_goto (C : Cx p s m args meth c own cc n rt D cI tt A) {off : Int} {tgt : Nat} (hd : decode cc pc = .ok (.goto off, 3)) (ht : (pc : Int) + off = (tgt : Int)) (k : Z p l e R s m args below meth c D A n ce sl Q tgt lv st ws) : Z p l e R s m args below meth c D A n ce sl Q pc lv st ws := fun H locs ls h1 h2 h3 h4 => lv_goto C.1 C.2.1 hd ht (k H locs ls h1 h2 h3 h4)
theorem z_ifnull (C : Cx p s m args meth c own cc n rt D cI tt A) {x : Nat} {off : Int} (hd : decode cc pc = .ok (.ifnull off, 3)) (k : Z p l e R s m args below meth c D A n ce sl Q (pc + 3) lv st ws) : Z p l e R s m args below meth c D A n ce sl Q pc lv (.ref x :: st) ws := fun H locs ls h1 h2 h3 h4 => lv_ifnull C.1 C.2.1 hd (k H locs ls h1 h2 h3 h4)
theorem z_ifnonnull (C : Cx p s m args meth c own cc n rt D cI tt A) {x : Nat} {off : Int} {tgt : Nat} (hd : decode cc pc = .ok (.ifnonnull off, 3)) (ht : (pc : Int) + off = (tgt : Int)) (k : Z p l e R s m args below meth c D A n ce sl Q tgt lv st ws) : Z p l e R s m args below meth c D A n ce sl Q pc lv (.ref x :: st) ws := fun H locs ls h1 h2 h3 h4 => lv_ifnonnull C.1 C.2.1 hd ht (k H locs ls h1 h2 h3 h4)
theorem z_ldc2 (C : Cx p s m args meth c own cc n rt D cI tt A) {i : Nat} {v : Int64} (hw : Cond.constantLong own i v ∈ TB) (hd : decode cc pc = .ok (.ldc2_w i, 3)) (k : Z p l e R s m args below meth c D A n ce sl Q (pc + 3) lv (.long v :: st) ws) : Z p l e R s m args below meth c D A n ce sl Q pc lv st ws := fun H locs ls h1 h2 h3 h4 => lv_ldc2 C.1 C.2.1 C.2.2.2.1 (C.2.2.2.2.1 _ hw) hd (k H locs ls h1 h2 h3 h4)
theorem z_ldcw (C : Cx p s m args meth c own cc n rt D cI tt A) {i : Nat} {v : Int32} (hw : Cond.constant own i v ∈ TB) (hd : decode cc pc = .ok (.ldc_w i, 3)) (k : Z p l e R s m args below meth c D A n ce sl Q (pc + 3) lv (.int v :: st) ws) : Z p l e R s m args below meth c D A n ce sl Q pc lv st ws := fun H locs ls h1 h2 h3 h4 => lv_ldcw C.1 C.2.1 C.2.2.2.1 (C.2.2.2.2.1 _ hw) hd (k H locs ls h1 h2 h3 h4)
theorem z_ldc (C : Cx p s m args meth c own cc n rt D cI tt A) {i : Nat} {v : Int32} (hw : Cond.constant own i v ∈ TB) (hd : decode cc pc = .ok (.ldc i, 2)) (k : Z p l e R s m args below meth c D A n ce sl Q (pc + 2) lv (.int v :: st) ws) : Z p l e R s m args below meth c D A n ce sl Q pc lv st ws := fun H locs ls h1 h2 h3 h4 => lv_ldc C.1 C.2.1 C.2.2.2.1 (C.2.2.2.2.1 _ hw) hd (k H locs ls h1 h2 h3 h4)
theorem z_get (C : Cx p s m args meth c own cc n rt D cI tt A) (q0 : Nat) {a ci : Nat} {fs : List Value} {CN : String} {T : u_T} {N : Nat} (he : ws[q0]? = some (a, .inr (ci, fs))) (hc : vwCl[ci]? = some (CN, T, N)) (hin : ∀ w ∈ u_ws CN T N, w ∈ TB) (k : Nat) (hk : k < N) {idx : Nat} {ref : String} (hr : (T k).1 = ref) (hw : Cond.fieldLink own idx ref (T k).2.1 (T k).2.2.1 ∈ TB) {v : Value} (hv : fs[k]? = some v) (hd : decode cc pc = .ok (.getfield idx, 3)) (kk : Z p l e R s m args below meth c D A n ce sl Q (pc + 3) lv (v :: st) ws) : Z p l e R s m args below meth c D A n ce sl Q pc lv (.ref a :: st) ws := fun H locs ls h1 h2 h3 h4 => va_get C.1 C.2.1 C.2.2.2.2.1 hin C.2.2.2.1 C.2.2.2.2.2.1 h1 q0 he hc k hk (C.2.2.2.2.1 _ hw) (fun x hx => by rw [← hr]; exact hx) hv hd (kk H locs ls h1 h2 h3 h4)
theorem z_getN (C : Cx p s m args meth c own cc n rt D cI tt A) (q0 : Nat) {a ci : Nat} {fs : List Value} {CN : String} {T : u_T} {N : Nat} (he : ws[q0]? = some (a, .inr (ci, fs))) (hc : vwCl[ci]? = some (CN, T, N)) (hin : ∀ w ∈ u_ws CN T N, w ∈ TB) (k : Nat) (hk : k < N) {idx : Nat} {ref : String} (hr : (T k).1 = ref) {host : String} (hw : Cond.fieldLinkNest own idx ref (T k).2.1 (T k).2.2.1 host ∈ NB) {v : Value} (hv : fs[k]? = some v) (hd : decode cc pc = .ok (.getfield idx, 3)) (kk : Z p l e R s m args below meth c D A n ce sl Q (pc + 3) lv (v :: st) ws) : Z p l e R s m args below meth c D A n ce sl Q pc lv (.ref a :: st) ws := fun H locs ls h1 h2 h3 h4 => va_getN C.1 C.2.1 C.2.2.2.2.1 hin C.2.2.2.1 C.2.2.2.2.2.1 h1 q0 he hc k hk (va_Nw.use rfl (C.2.2.2.2.2.2.1 _ hw)) (fun x hx => by rw [← hr]; exact hx) hv hd (kk H locs ls h1 h2 h3 h4)
theorem z_put (C : Cx p s m args meth c own cc n rt D cI tt A) (q0 : Nat) {a ci : Nat} {fs : List Value} {CN : String} {T : u_T} {N : Nat} (he : ws[q0]? = some (a, .inr (ci, fs))) (hc : vwCl[ci]? = some (CN, T, N)) (hin : ∀ w ∈ u_ws CN T N, w ∈ TB) (k : Nat) (hk : k < N) {idx : Nat} {ref : String} (hr : (T k).1 = ref) (ty0 : Nat → FieldType) (hty : ∀ k, k < N → parseFieldDescriptor (T k).2.2.1 = some (ty0 k)) (hnm : ∀ a, a < N → ∀ b, b < N → a ≠ b → (T a).2.1 ≠ (T b).2.1) (hfin : (T k).2.2.2 = false) {v : Value} (hn : narrow (ty0 k) v = v) (hfit : fits (ty0 k) v = true) (hl : k < fs.length) {ws' : va_W} (hws : ws.set q0 (a, .inr (ci, fs.set k v)) = ws') (hw : Cond.fieldLink own idx ref (T k).2.1 (T k).2.2.1 ∈ TB) (hd : decode cc pc = .ok (.putfield idx, 3)) (kk : Z p l e R s m args below meth c D A n ce sl Q (pc + 3) lv st ws') : Z p l e R s m args below meth c D A n ce sl Q pc lv (v :: .ref a :: st) ws := by
  subst hws
  exact fun H locs ls h1 h2 h3 h4 => va_put C.1 C.2.1 C.2.2.2.2.1 hin ty0 hty hnm C.2.2.2.1 C.2.2.2.2.2.1 h1 h2 h3 q0 he hc k hk (C.2.2.2.2.1 _ hw) (fun x hx => by rw [← hr]; exact hx) hfin (hty k hk) hn hfit hl hd (fun H1 locs1 g1 g2 g3 => kk H1 locs1 ls g1 g2 g3 h4)
theorem z_putN (C : Cx p s m args meth c own cc n rt D cI tt A) (q0 : Nat) {a ci : Nat} {fs : List Value} {CN : String} {T : u_T} {N : Nat} (he : ws[q0]? = some (a, .inr (ci, fs))) (hc : vwCl[ci]? = some (CN, T, N)) (hin : ∀ w ∈ u_ws CN T N, w ∈ TB) (k : Nat) (hk : k < N) {idx : Nat} {ref : String} (hr : (T k).1 = ref) (ty0 : Nat → FieldType) (hty : ∀ k, k < N → parseFieldDescriptor (T k).2.2.1 = some (ty0 k)) (hnm : ∀ a, a < N → ∀ b, b < N → a ≠ b → (T a).2.1 ≠ (T b).2.1) (hfin : (T k).2.2.2 = false) {v : Value} (hn : narrow (ty0 k) v = v) (hfit : fits (ty0 k) v = true) (hl : k < fs.length) {ws' : va_W} (hws : ws.set q0 (a, .inr (ci, fs.set k v)) = ws') {host : String} (hw : Cond.fieldLinkNest own idx ref (T k).2.1 (T k).2.2.1 host ∈ NB) (hd : decode cc pc = .ok (.putfield idx, 3)) (kk : Z p l e R s m args below meth c D A n ce sl Q (pc + 3) lv st ws') : Z p l e R s m args below meth c D A n ce sl Q pc lv (v :: .ref a :: st) ws := by
  subst hws
  exact fun H locs ls h1 h2 h3 h4 => va_putN C.1 C.2.1 C.2.2.2.2.1 hin ty0 hty hnm C.2.2.2.1 C.2.2.2.2.2.1 h1 h2 h3 q0 he hc k hk (va_Nw.use rfl (C.2.2.2.2.2.2.1 _ hw)) (fun x hx => by rw [← hr]; exact hx) hfin (hty k hk) hn hfit hl hd (fun H1 locs1 g1 g2 g3 => kk H1 locs1 ls g1 g2 g3 h4)
theorem z_putF (C : Cx p s m args meth c own cc n rt D cI tt A) (q0 : Nat) {a ci : Nat} {fs : List Value} {CN : String} {T : u_T} {N : Nat} (he : ws[q0]? = some (a, .inr (ci, fs))) (hc : vwCl[ci]? = some (CN, T, N)) (hin : ∀ w ∈ u_ws CN T N, w ∈ TB) (k : Nat) (hk : k < N) {idx : Nat} {ref : String} (hr : (T k).1 = ref) (ty0 : Nat → FieldType) (hty : ∀ k, k < N → parseFieldDescriptor (T k).2.2.1 = some (ty0 k)) (hnm : ∀ a, a < N → ∀ b, b < N → a ≠ b → (T a).2.1 ≠ (T b).2.1) (hfin : (T k).2.2.2 = true) {v : Value} (hn : narrow (ty0 k) v = v) (hfit : fits (ty0 k) v = true) (hl : k < fs.length) {ws' : va_W} (hws : ws.set q0 (a, .inr (ci, fs.set k v)) = ws') (hw : Cond.fieldLink own idx ref (T k).2.1 (T k).2.2.1 ∈ TB) (hi : meth.name = "<init>") (hdecl : (T k).1 = own) (hd : decode cc pc = .ok (.putfield idx, 3)) (kk : Z p l e R s m args below meth c D A n ce sl Q (pc + 3) lv st ws') : Z p l e R s m args below meth c D A n ce sl Q pc lv (v :: .ref a :: st) ws := by
  subst hws
  exact fun H locs ls h1 h2 h3 h4 => va_putF C.1 C.2.1 C.2.2.2.2.1 hin ty0 hty hnm C.2.2.2.1 C.2.2.2.2.2.1 h1 h2 h3 q0 he hc k hk (C.2.2.2.2.1 _ hw) (fun x hx => by rw [← hr]; exact hx) hfin hi hdecl (hty k hk) hn hfit hl hd (fun H1 locs1 g1 g2 g3 => kk H1 locs1 ls g1 g2 g3 h4)
theorem z_iald (C : Cx p s m args meth c own cc n rt D cI tt A) (q0 : Nat) {a N : Nat} {f : Nat → Int32} (ha : ws[q0]? = some (a, .inl (cI, N, .inl f))) {i : Int32} (hi : vp_in i N) (hd : decode cc pc = .ok (.iaload, 1)) (kk : Z p l e R s m args below meth c D A n ce sl Q (pc + 1) lv (.int (f i.toNatClampNeg) :: st) ws) : Z p l e R s m args below meth c D A n ce sl Q pc lv (.int i :: .ref a :: st) ws := fun H locs ls h1 h2 h3 h4 => va_iald C.1 C.2.1 C.2.2.2.2.2.1 h1 q0 0 ha rfl hi hd (kk H locs ls h1 h2 h3 h4)
theorem z_iast (C : Cx p s m args meth c own cc n rt D cI tt A) (q0 : Nat) {a N : Nat} {f : Nat → Int32} (ha : ws[q0]? = some (a, .inl (cI, N, .inl f))) {i x : Int32} (hi : vp_in i N) {ws' : va_W} (hws : ws.set q0 (a, .inl (cI, N, .inl (upd f i.toNatClampNeg x))) = ws') (hd : decode cc pc = .ok (.iastore, 1)) (kk : Z p l e R s m args below meth c D A n ce sl Q (pc + 1) lv st ws') : Z p l e R s m args below meth c D A n ce sl Q pc lv (.int x :: .int i :: .ref a :: st) ws := by
  subst hws
  exact fun H locs ls h1 h2 h3 h4 => va_iast C.1 C.2.1 C.2.2.2.2.2.1 h1 h2 h3 q0 0 ha rfl hi hd (fun H1 locs1 g1 g2 g3 => kk H1 locs1 ls g1 g2 g3 h4)
theorem z_alen (C : Cx p s m args meth c own cc n rt D cI tt A) (q0 : Nat) {a N : Nat} {f : Nat → Int32} (ha : ws[q0]? = some (a, .inl (cI, N, .inl f))) {v : Int32} (hv : Int32.ofNat N = v) (hd : decode cc pc = .ok (.arraylength, 1)) (kk : Z p l e R s m args below meth c D A n ce sl Q (pc + 1) lv (.int v :: st) ws) : Z p l e R s m args below meth c D A n ce sl Q pc lv (.ref a :: st) ws := fun H locs ls h1 h2 h3 h4 => va_alen C.1 C.2.1 C.2.2.2.2.2.1 h1 q0 0 ha rfl hv hd (kk H locs ls h1 h2 h3 h4)
theorem z_tald (C : Cx p s m args meth c own cc n rt D cI tt A) {t N : Nat} {f : Nat → Value} (hT : va_T .int t N f A s s.heap) {i : Int32} (hi : vp_in i N) {v : Value} (hv : f i.toNatClampNeg = v) (hd : decode cc pc = .ok (.iaload, 1)) (kk : Z p l e R s m args below meth c D A n ce sl Q (pc + 1) lv (v :: st) ws) : Z p l e R s m args below meth c D A n ce sl Q pc lv (.int i :: .ref t :: st) ws := fun H locs ls h1 h2 h3 h4 => va_ti C.1 C.2.1 hT h3 hi hv hd (kk H locs ls h1 h2 h3 h4)
theorem z_tlen (C : Cx p s m args meth c own cc n rt D cI tt A) {t N : Nat} {f : Nat → Value} (hT : va_T .int t N f A s s.heap) {v : Int32} (hv : Int32.ofNat N = v) (hd : decode cc pc = .ok (.arraylength, 1)) (kk : Z p l e R s m args below meth c D A n ce sl Q (pc + 1) lv (.int v :: st) ws) : Z p l e R s m args below meth c D A n ce sl Q pc lv (.ref t :: st) ws := fun H locs ls h1 h2 h3 h4 => va_tlen C.1 C.2.1 hT h3 hv hd (kk H locs ls h1 h2 h3 h4)
theorem z_gets (C : Cx p s m args meth c own cc n rt D cI tt A) {nm : String} {t : Nat} (hZ : va_Z RX3 nm "[I" (.ref t) A s s.heap) {idx : Nat} (hw : Cond.fieldLink own idx RX3 nm "[I" ∈ TB) (hd : decode cc pc = .ok (.getstatic idx, 3)) (kk : Z p l e R s m args below meth c D A n ce sl Q (pc + 3) lv (.ref t :: st) ws) : Z p l e R s m args below meth c D A n ce sl Q pc lv st ws := fun H locs ls h1 h2 h3 h4 => va_gets C.1 C.2.1 hZ h3 C.2.2.2.1 (C.2.2.2.2.1 _ hw) (fun _ h => h) hd (kk H locs ls h1 h2 h3 h4)
theorem z_getsN (C : Cx p s m args meth c own cc n rt D cI tt A) {nm : String} {t : Nat} (hZ : va_Z RX3 nm "[I" (.ref t) A s s.heap) {idx : Nat} {host : String} (hw : Cond.fieldLinkNest own idx RX3 nm "[I" host ∈ NB) (hd : decode cc pc = .ok (.getstatic idx, 3)) (kk : Z p l e R s m args below meth c D A n ce sl Q (pc + 3) lv (.ref t :: st) ws) : Z p l e R s m args below meth c D A n ce sl Q pc lv st ws := fun H locs ls h1 h2 h3 h4 => va_getsN C.1 C.2.1 hZ h3 C.2.2.2.1 (va_Nw.use rfl (C.2.2.2.2.2.2.1 _ hw)) (fun _ h => h) hd (kk H locs ls h1 h2 h3 h4)
theorem z_mmin (C : Cx p s m args meth c own cc n rt D cI tt A) {x y : Int32} {idx : Nat} (hw : Cond.methodLink own idx yJ9_min_7cf53 ∈ TB) (hfr : 1 ≤ R.frames) (hlo : (st.map fun v => v.category).sum + 13 ≤ R.locals) (hce : ce ≤ R.cells) (hsl : sl ≤ R.slots) (hd : decode cc pc = .ok (.invokestatic idx, 3)) (kk : Z p l e R s m args below meth c D A n ce sl Q (pc + 3) lv (.int (if y < x then y else x) :: st) ws) : Z p l e R s m args below meth c D A n ce sl Q pc lv (.int y :: .int x :: st) ws := fun H locs ls h1 h2 h3 h4 => va_mmin C.1 C.2.1 (C.2.2.1.trans h4.1.symm) C.2.2.2.1 (C.2.2.2.2.1 _ hw) (C.2.2.2.2.1 _ ws_J9_min_7cf53) (C.2.2.2.2.1 _ wi_J9) (C.2.2.2.2.1 _ wc_J9_min_7cf53) hfr hlo hce hsl hd (kk H locs ls h1 h2 h3 h4)
theorem z_mmax (C : Cx p s m args meth c own cc n rt D cI tt A) {x y : Int32} {idx : Nat} (hw : Cond.methodLink own idx yJ9_max_7cf53 ∈ TB) (hfr : 1 ≤ R.frames) (hlo : (st.map fun v => v.category).sum + 13 ≤ R.locals) (hce : ce ≤ R.cells) (hsl : sl ≤ R.slots) (hd : decode cc pc = .ok (.invokestatic idx, 3)) (kk : Z p l e R s m args below meth c D A n ce sl Q (pc + 3) lv (.int (if x < y then y else x) :: st) ws) : Z p l e R s m args below meth c D A n ce sl Q pc lv (.int y :: .int x :: st) ws := fun H locs ls h1 h2 h3 h4 => va_mmax C.1 C.2.1 (C.2.2.1.trans h4.1.symm) C.2.2.2.1 (C.2.2.2.2.1 _ hw) (C.2.2.2.2.1 _ ws_J9_max_7cf53) (C.2.2.2.2.1 _ wi_J9) (C.2.2.2.2.1 _ wc_J9_max_7cf53) hfr hlo hce hsl hd (kk H locs ls h1 h2 h3 h4)
theorem z_conv {lv' : List (Nat × Value)} {ws' : va_W} {st' : List Value} (hl : lsub lv lv') (hw : ws = ws') (hs : st = st') (k : Z p l e R s m args below meth c D A n ce sl Q pc lv' st' ws') : Z p l e R s m args below meth c D A n ce sl Q pc lv st ws := by
  subst hw; subst hs
  exact fun H locs ls h1 h2 h3 h4 => k H locs ls h1 h2 h3 (lsub_has h4 hl)
theorem z_iret {S : Type} {post : Int32 → S → Prop} {wf : S → va_W} {v : Int32} (C : Cx p s m args meth c own cc n (some .int) D cI tt A) (u : S) (hd : decode cc pc = .ok (.ireturn, 1)) (hp : post v u) (hw : wf u = ws) : Z p l e R s m args below meth c D A n ce sl (MQ below (va_Qi post (fun u t => va_P D vwCl (wf u) t.heap) A) args s ce sl A) pc lv [.int v] ws := by
  subst hw
  exact fun H locs ls h1 h2 h3 h4 => W.iret C.1 C.2.1 C.2.2.2.2.2.2.2.2.1 (fun t ht hW => ⟨⟨v, u, rfl, hp, by show va_P D vwCl (wf u) t.heap; rw [ht]; exact h1⟩, h3.F ht⟩) h3.2.2 hd C.2.2.2.2.2.2.2.2.2.1
theorem z_zret {S : Type} {post : Int32 → S → Prop} {wf : S → va_W} {v : Int32} (C : Cx p s m args meth c own cc n (some .boolean) D cI tt A) (u : S) (hd : decode cc pc = .ok (.ireturn, 1)) (hn : narrow .boolean (.int v) = .int v) (hp : post v u) (hw : wf u = ws) : Z p l e R s m args below meth c D A n ce sl (MQ below (va_Qi post (fun u t => va_P D vwCl (wf u) t.heap) A) args s ce sl A) pc lv [.int v] ws := by
  subst hw
  exact fun H locs ls h1 h2 h3 h4 => W.zret C.1 C.2.1 C.2.2.2.2.2.2.2.2.1 hn (fun t ht hW => ⟨⟨v, u, rfl, hp, by show va_P D vwCl (wf u) t.heap; rw [ht]; exact h1⟩, h3.F ht⟩) h3.2.2 hd C.2.2.2.2.2.2.2.2.2.1
theorem z_lret {S : Type} {post : Int64 → S → Prop} {wf : S → va_W} {v : Int64} (C : Cx p s m args meth c own cc n (some .long) D cI tt A) (u : S) (hd : decode cc pc = .ok (.lreturn, 1)) (hp : post v u) (hw : wf u = ws) : Z p l e R s m args below meth c D A n ce sl (MQ below (va_Ql post (fun u t => va_P D vwCl (wf u) t.heap) A) args s ce sl A) pc lv [.long v] ws := by
  subst hw
  exact fun H locs ls h1 h2 h3 h4 => W.lret C.1 C.2.1 C.2.2.2.2.2.2.2.2.1 (fun t ht hW => ⟨⟨v, u, rfl, hp, by show va_P D vwCl (wf u) t.heap; rw [ht]; exact h1⟩, h3.F ht⟩) h3.2.2 hd C.2.2.2.2.2.2.2.2.2.1
theorem z_vret {S : Type} {post : S → Prop} {wf : S → va_W} (C : Cx p s m args meth c own cc n none D cI tt A) (u : S) (hd : decode cc pc = .ok (.return_, 1)) (hp : post u) (hw : wf u = ws) : Z p l e R s m args below meth c D A n ce sl (MQ below (va_Qv post (fun u t => va_P D vwCl (wf u) t.heap) A) args s ce sl A) pc lv [] ws := by
  subst hw
  exact fun H locs ls h1 h2 h3 h4 => W.vret C.1 C.2.1 C.2.2.2.2.2.2.2.2.1 (fun t ht hW => ⟨⟨u, rfl, hp, by show va_P D vwCl (wf u) t.heap; rw [ht]; exact h1⟩, h3.F ht⟩) h3.2.2 hd C.2.2.2.2.2.2.2.2.2.1

theorem pre_blind (wc : va_W) (sz : Nat) (av : List Value) : FrameBlind (va_Pc av (Pre D cI tt wc sz)) := fun a U g mk q => by
  obtain ⟨q0, q1, q2, q3, q4, q5, q6⟩ := q
  exact ⟨q0, q1, q2, q3, va_K.moved (u := U) (U := U.calling g mk a) (Vm.Alike.refl U.vm) q4, NN.vm (u := U) (U := U.calling g mk a) rfl q5, ST.moved (u := U) (U := U.calling g mk a) (Vm.Alike.refl U.vm) q6⟩
theorem pre_of {H : Heap} {locs : List Loc} {wc : va_W} {isC : List Nat} (C : Cx p s m args meth c own cc n rt D cI tt A) (h1 : va_P D vwCl ws H) (h2 : va_D A ws) (h3 : va_S A s.heap H locs) (hC : isC.map (fun i => ws[i]?) = wc.map some) (hnd : va_nd isC = true) : ∀ U : State, U.heap = H → s.WarmedH U.vm → Pre D cI tt wc H.size U := by
  have hm : isC.filterMap (fun i => ws[i]?) = wc := by
    have : isC.filterMap (fun i => ws[i]?) = (isC.map (fun i => ws[i]?)).filterMap id := by rw [List.filterMap_map]; rfl
    rw [this, hC, List.filterMap_map]
    simp [Function.comp_def]
  intro U hU hW
  refine ⟨by rw [hU], by rw [hU]; exact h1.sub isC hm, (h2.sub isC hnd hC).weaken (fun _ _ _ _ => trivial), va_K.moved hW.alike C.2.2.2.2.2.1, NN.warm hW C.2.2.2.2.2.2.1, ?_⟩
  rw [hU]
  exact ((ST.moved hW.alike (C.2.2.2.2.2.2.2.1.kept (fun q hq hA => h3.2.1 q hq hA)))).narrow (va_free h2 h3 C.2.2.2.2.2.2.2.2.2.2 isC hC)
theorem fix_of (C : Cx p s m args meth c own cc n rt D cI tt A) : CallFix p m c cc n s args TB own := ⟨C.1, C.2.1, C.2.2.1, C.2.2.2.1, C.2.2.2.2.1⟩
theorem good_TB {w : Cond} (h : w ∈ TB) : GoodIn TB (w :: TB) := fun x hx => by
  rcases List.mem_cons.mp hx with rfl | hx
  · exact ⟨h, good_of_word (List.mem_filter.mp h).2⟩
  · exact ⟨hx, good_of_word (List.mem_filter.mp hx).2⟩
/-- how a call is run, whatever its kind: Run st0 rest wc F says that from a state with the stack st0 over the world's heap H, the callee with the world wc comes to F's end -/
def Runs (p : Program) (l : Launch) (e : Env) (R : Room) (s : State) (m : MethodId) (args : Array Value) (below : List Frame) (meth : Method) (c : Code) (D : va_G) (A : Nat → Prop) (n ce sl : Nat) (pc : Nat) (st0 rest : List Value) (ws wc : va_W) (isC : List Nat) (Qa : Nat → Array Value → State → Outcome → State → Prop) : Prop :=
  ∀ (H : Heap) (locs : List Loc) (ls : Array Slot), va_P D vwCl ws H → va_D A ws → va_S A s.heap H locs → ls.size = n → ∃ a, va_Run p l e R s m args below meth c H locs ce sl 0 0 (F0 m pc ls st0) rest (Qa H.size a) (va_A wc H.size)
theorem z_calli {S : Type} {post : Int32 → S → Prop} {wf : S → va_W} {st0 rest : List Value} {wc : va_W} {isC : List Nat} (C : Cx p s m args meth c own cc n rt D cI tt A) (hC : isC.map (fun i => ws[i]?) = wc.map some) (he : ∀ u, (wf u).map (·.1) = wc.map (·.1)) (hr : Runs p l e R s m args below meth c D A n ce sl pc st0 rest ws wc isC (fun sz => va_Qi post (fun u t => va_P D vwCl (wf u) t.heap) (va_A wc sz)))
    (kk : ∀ (r : Int32) (u : S), post r u → Z p l e R s m args below meth c D A n ce sl Q (pc + 3) lv (.int r :: rest) (weave ws isC (wf u))) : Z p l e R s m args below meth c D A n ce sl Q pc lv st0 ws := fun H locs ls h1 h2 h3 h4 => by
  obtain ⟨a, hr⟩ := hr H locs ls h1 h2 h3 h4.1
  have hF := va_free h2 h3 C.2.2.2.2.2.2.2.2.2.2 isC hC
  refine va_calli hr h3 (fun q _ h => hF q h) hF (fun r u t H1 locs1 ht hvm hw hB hz1 hk1 hS => ?_)
  have hB1 : va_P D vwCl (wf u) H1 := by rw [← ht]; exact hB
  obtain ⟨g1, g2⟩ := va_weave h1 h2 isC hC (he u) hk1 hB1
  exact kk r u hw H1 locs1 ls g1 g2 hS h4
theorem z_calll {S : Type} {post : Int64 → S → Prop} {wf : S → va_W} {st0 rest : List Value} {wc : va_W} {isC : List Nat} (C : Cx p s m args meth c own cc n rt D cI tt A) (hC : isC.map (fun i => ws[i]?) = wc.map some) (he : ∀ u, (wf u).map (·.1) = wc.map (·.1)) (hr : Runs p l e R s m args below meth c D A n ce sl pc st0 rest ws wc isC (fun sz => va_Ql post (fun u t => va_P D vwCl (wf u) t.heap) (va_A wc sz)))
    (kk : ∀ (r : Int64) (u : S), post r u → Z p l e R s m args below meth c D A n ce sl Q (pc + 3) lv (.long r :: rest) (weave ws isC (wf u))) : Z p l e R s m args below meth c D A n ce sl Q pc lv st0 ws := fun H locs ls h1 h2 h3 h4 => by
  obtain ⟨a, hr⟩ := hr H locs ls h1 h2 h3 h4.1
  have hF := va_free h2 h3 C.2.2.2.2.2.2.2.2.2.2 isC hC
  refine va_calll hr h3 (fun q _ h => hF q h) hF (fun r u t H1 locs1 ht hvm hw hB hz1 hk1 hS => ?_)
  have hB1 : va_P D vwCl (wf u) H1 := by rw [← ht]; exact hB
  obtain ⟨g1, g2⟩ := va_weave h1 h2 isC hC (he u) hk1 hB1
  exact kk r u hw H1 locs1 ls g1 g2 hS h4
theorem z_callv {S : Type} {post : S → Prop} {wf : S → va_W} {st0 rest : List Value} {wc : va_W} {isC : List Nat} (C : Cx p s m args meth c own cc n rt D cI tt A) (hC : isC.map (fun i => ws[i]?) = wc.map some) (he : ∀ u, (wf u).map (·.1) = wc.map (·.1)) (hr : Runs p l e R s m args below meth c D A n ce sl pc st0 rest ws wc isC (fun sz => va_Qv post (fun u t => va_P D vwCl (wf u) t.heap) (va_A wc sz)))
    (kk : ∀ (u : S), post u → Z p l e R s m args below meth c D A n ce sl Q (pc + 3) lv rest (weave ws isC (wf u))) : Z p l e R s m args below meth c D A n ce sl Q pc lv st0 ws := fun H locs ls h1 h2 h3 h4 => by
  obtain ⟨a, hr⟩ := hr H locs ls h1 h2 h3 h4.1
  have hF := va_free h2 h3 C.2.2.2.2.2.2.2.2.2.2 isC hC
  refine va_callv hr h3 (fun q _ h => hF q h) hF (fun u t H1 locs1 ht hvm hw hB hz1 hk1 hS => ?_)
  have hB1 : va_P D vwCl (wf u) H1 := by rw [← ht]; exact hB
  obtain ⟨g1, g2⟩ := va_weave h1 h2 isC hC (he u) hk1 hB1
  exact kk u hw H1 locs1 ls g1 g2 hS h4
variable {y : MethodName} {bytes : ByteArray} {nY : Nat} {rY : Option FieldType} {rY' : Room} {av : List Value} {wc : va_W} {Qa : Nat → Array Value → State → Outcome → State → Prop} {isC : List Nat} {st0 rest : List Value} {idx : Nat}
/-- what a call asks of the room -/
def Fit (R rY : Room) (nY ce sl : Nat) : Prop := rY.cells = 0 ∧ rY.slots = 0 ∧ (rY.frames + 1 ≤ R.frames ∧ 8 + (nY + 11) + rY.locals ≤ R.locals) ∧ ce ≤ R.cells ∧ sl ≤ R.slots
theorem runV {CN : String} {b : Nat} {As : List Value} {nn : Nat} {ci : Nat} {q : vw_C} {fs : List Value} (C : Cx p s m args meth c own cc n rt D cI tt A) (hM : ∀ sz : Nat, Met l y (.code y bytes nY rY :: TB) rY' (va_Pc (.ref b :: As) (Pre D cI tt wc sz)) (Qa sz) 0 0 (va_A wc sz)) (hC : isC.map (fun i => ws[i]?) = wc.map some) (hnd : va_nd isC = true) (hfit : Fit R rY' nY ce sl)
    (hl : Cond.methodLink own idx y ∈ TB) (hm : Cond.instanceMethod y ∈ TB) (hs : Cond.selects CN y y ∈ TB) (hi : Cond.initialized CN ∈ TB) (hc : Cond.code y bytes nY rY ∈ TB) (hy : y.cls = CN ∧ y.cls ≠ "java/lang/invoke/MethodHandle" ∧ y.cls ≠ "java/lang/invoke/VarHandle" ∧ (parseMethodDescriptor y.desc).map (fun d => d.parameters.length) = some nn) (hAs : As.length = nn)
    (q0 : Nat) (hq : ws[q0]? = some (b, .inr (ci, fs))) (hcl : vwCl[ci]? = some q) (hqn : q.1 = CN) (hst : st0 = As.reverse ++ .ref b :: rest) (hcat : (rest.map fun v => v.category).sum ≤ 8) (hd : decode cc pc = .ok (.invokevirtual idx, 3)) :
    Runs p l e R s m args below meth c D A n ce sl pc st0 rest ws wc isC Qa := fun H locs ls h1 h2 h3 h4 => by
  subst hqn
  obtain ⟨f1, f2, f3, f4, f5⟩ := hfit
  refine ⟨(.ref b :: As).toArray, va_runV (fix_of C) (hM H.size) (C := q.1) (n := nn) (cwV nn C.2.2.2.2.1 (fun w hw => ?_) rfl f1 f2 hy f3) ⟨pre_blind wc H.size _, va_recv C.2.2.2.2.2.1 h1 hcl hq, fun U hU hW => ⟨rfl, pre_of C h1 h2 h3 hC hnd U hU hW⟩⟩ rfl hAs h4 hst (lv_room hcat) hd ⟨f4, f5⟩⟩
  rcases List.mem_append.mp hw with hw | hw
  · have : w = .methodLink own idx y ∨ w = .instanceMethod y ∨ w = .selects q.1 y y ∨ w = .initialized q.1 := by simpa [wsV] using hw
    rcases this with rfl | rfl | rfl | rfl
    · exact good_TB hl _ List.mem_cons_self
    · exact good_TB hm _ List.mem_cons_self
    · exact good_TB hs _ List.mem_cons_self
    · exact good_TB hi _ List.mem_cons_self
  · exact good_TB hc w hw
theorem runVN {CN host : String} {b : Nat} {As : List Value} {nn : Nat} {ci : Nat} {q : vw_C} {fs : List Value} (C : Cx p s m args meth c own cc n rt D cI tt A) (hM : ∀ sz : Nat, Met l y (.code y bytes nY rY :: TB) rY' (va_Pc (.ref b :: As) (Pre D cI tt wc sz)) (Qa sz) 0 0 (va_A wc sz)) (hC : isC.map (fun i => ws[i]?) = wc.map some) (hnd : va_nd isC = true) (hfit : Fit R rY' nY ce sl)
    (hl : Cond.methodLinkNest own idx y host ∈ NB) (hm : Cond.instanceMethod y ∈ TB) (hs : Cond.selects CN y y ∈ TB) (hi : Cond.initialized CN ∈ TB) (hc : Cond.code y bytes nY rY ∈ TB) (hy : y.cls = CN ∧ y.cls ≠ "java/lang/invoke/MethodHandle" ∧ y.cls ≠ "java/lang/invoke/VarHandle" ∧ (parseMethodDescriptor y.desc).map (fun d => d.parameters.length) = some nn) (hAs : As.length = nn)
    (q0 : Nat) (hq : ws[q0]? = some (b, .inr (ci, fs))) (hcl : vwCl[ci]? = some q) (hqn : q.1 = CN) (hst : st0 = As.reverse ++ .ref b :: rest) (hcat : (rest.map fun v => v.category).sum ≤ 8) (hd : decode cc pc = .ok (.invokevirtual idx, 3)) :
    Runs p l e R s m args below meth c D A n ce sl pc st0 rest ws wc isC Qa := fun H locs ls h1 h2 h3 h4 => by
  subst hqn
  obtain ⟨f1, f2, f3, f4, f5⟩ := hfit
  obtain ⟨y1, y2⟩ := hy
  exact ⟨(.ref b :: As).toArray, va_runVN (fix_of C) (hM H.size) (C := q.1) (n := nn) ⟨va_cnB nn C.2.2.2.2.1 (good_TB hc) rfl f1 f2 (C.2.2.2.2.2.2.1 _ hl) (by rw [y1]; exact C.2.2.2.2.1 _ hi) y2 f3, C.2.2.2.2.1 _ hm, C.2.2.2.2.1 _ hs⟩ ⟨pre_blind wc H.size _, va_recv C.2.2.2.2.2.1 h1 hcl hq, fun U hU hW => ⟨rfl, pre_of C h1 h2 h3 hC hnd U hU hW⟩⟩ rfl hAs h4 hst (lv_room hcat) hd ⟨f4, f5⟩⟩
theorem runS {As : List Value} {nn : Nat} (C : Cx p s m args meth c own cc n rt D cI tt A) (hM : ∀ sz : Nat, Met l y (.code y bytes nY rY :: TB) rY' (va_Pc As (Pre D cI tt wc sz)) (Qa sz) 0 0 (va_A wc sz)) (hC : isC.map (fun i => ws[i]?) = wc.map some) (hnd : va_nd isC = true) (hfit : Fit R rY' nY ce sl)
    (hl : Cond.methodLink own idx y ∈ TB) (hm : Cond.static y ∈ TB) (hi : Cond.initialized y.cls ∈ TB) (hc : Cond.code y bytes nY rY ∈ TB) (hy : y.cls ≠ "java/lang/invoke/MethodHandle" ∧ y.cls ≠ "java/lang/invoke/VarHandle" ∧ (parseMethodDescriptor y.desc).map (fun d => d.parameters.length) = some nn) (hAs : As.length = nn)
    (hst : st0 = As.reverse ++ rest) (hcat : (rest.map fun v => v.category).sum ≤ 8) (hd : decode cc pc = .ok (.invokestatic idx, 3)) :
    Runs p l e R s m args below meth c D A n ce sl pc st0 rest ws wc isC Qa := fun H locs ls h1 h2 h3 h4 => by
  obtain ⟨f1, f2, f3, f4, f5⟩ := hfit
  refine ⟨As.toArray, va_runS (fix_of C) (hM H.size) (n := nn) (va_cwS nn C.2.2.2.2.1 (fun w hw => ?_) rfl f1 f2 hy f3) ⟨pre_blind wc H.size _, fun U hU hW => ⟨rfl, pre_of C h1 h2 h3 hC hnd U hU hW⟩⟩ rfl hAs h4 hst (lv_room hcat) hd ⟨f4, f5⟩⟩
  rcases List.mem_append.mp hw with hw | hw
  · have : w = .methodLink own idx y ∨ w = .static y ∨ w = .initialized y.cls := by simpa using hw
    rcases this with rfl | rfl | rfl
    · exact good_TB hl _ List.mem_cons_self
    · exact good_TB hm _ List.mem_cons_self
    · exact good_TB hi _ List.mem_cons_self
  · exact good_TB hc w hw
theorem runSN {host : String} {As : List Value} {nn : Nat} (C : Cx p s m args meth c own cc n rt D cI tt A) (hM : ∀ sz : Nat, Met l y (.code y bytes nY rY :: TB) rY' (va_Pc As (Pre D cI tt wc sz)) (Qa sz) 0 0 (va_A wc sz)) (hC : isC.map (fun i => ws[i]?) = wc.map some) (hnd : va_nd isC = true) (hfit : Fit R rY' nY ce sl)
    (hl : Cond.methodLinkNest own idx y host ∈ NB) (hm : Cond.static y ∈ TB) (hi : Cond.initialized y.cls ∈ TB) (hc : Cond.code y bytes nY rY ∈ TB) (hy : y.cls ≠ "java/lang/invoke/MethodHandle" ∧ y.cls ≠ "java/lang/invoke/VarHandle" ∧ (parseMethodDescriptor y.desc).map (fun d => d.parameters.length) = some nn) (hAs : As.length = nn)
    (hst : st0 = As.reverse ++ rest) (hcat : (rest.map fun v => v.category).sum ≤ 8) (hd : decode cc pc = .ok (.invokestatic idx, 3)) :
    Runs p l e R s m args below meth c D A n ce sl pc st0 rest ws wc isC Qa := fun H locs ls h1 h2 h3 h4 => by
  obtain ⟨f1, f2, f3, f4, f5⟩ := hfit
  exact ⟨As.toArray, va_runSN (fix_of C) (hM H.size) (n := nn) ⟨va_cnB nn C.2.2.2.2.1 (good_TB hc) rfl f1 f2 (C.2.2.2.2.2.2.1 _ hl) (C.2.2.2.2.1 _ hi) hy f3, C.2.2.2.2.1 _ hm, trivial⟩ ⟨pre_blind wc H.size _, fun U hU hW => ⟨rfl, pre_of C h1 h2 h3 hC hnd U hU hW⟩⟩ rfl hAs h4 hst (lv_room hcat) hd ⟨f4, f5⟩⟩
end ZR
/-- a method's contract out of its walk -/
theorem met_of {S : Type} {l : Launch} {y : MethodName} {cc : ByteArray} {nY : Nat} {rt : Option FieldType} {R : Room} {D : va_G} {cI : ClassId} {tt : Nat × Nat × Nat} {av : List Value} {ws : va_W} {Qc : (Nat → Prop) → Array Value → State → Outcome → State → Prop} (hy : plainName y.cls = true) (hn : (lg_sl av).length ≤ nY)
    (body : ∀ (p : Program) (e : Env) (s : State) (m : MethodId) (args : Array Value) (below : List Frame) (meth : Method) (c : Code) (A : Nat → Prop), Cx p s m args meth c y.cls cc nY rt D cI tt A → (y.name = "<init>" → meth.name = "<init>") → Z p l e R s m args below meth c D A nY 0 0 (MQ below (Qc A) args s 0 0 A) 0 (lv_args 0 av) [] ws) :
    ∀ sz : Nat, Met l y (.code y cc nY rt :: TB) R (va_Pc av (Pre D cI tt ws sz)) (Qc (va_A ws sz)) 0 0 (va_A ws sz) := fun sz => by
  refine Met.ofW (cc := cc) (maxL := nY) (ret := rt) hy rfl ?_
  intro p e s m args below meth c s₁ B hml hv
  obtain ⟨rfl, hsz, hP, hD, hK, hN, hST⟩ := hv
  have hts : ∀ w ∈ (.code y cc nY rt :: TB : List Cond), w.before av.toArray s = true := atoms_spec (ws := .code y cc nY rt :: TB) B.pre
  have hown : s.vm.findClass y.cls = some m.cls := findClass_of_methodNamed B.named
  subst hsz
  have hl := lv_entry av (n := nY) hn
  rw [lg_entry_eq]
  exact body p e s m av.toArray below meth c (va_A ws s.heap.size) ⟨B.exec, B.bytes, hml, hown, fun w hw => hts w (List.mem_cons_of_mem _ hw), hK, hN, hST, B.returns, B.notSynchronized, fun q hq => Or.inr hq⟩ (fun h => by rw [← h]; exact (name_of_methodNamed B.named B.method).1) s.heap [] _ hP hD.self va_S.rf hl

