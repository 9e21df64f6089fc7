section
-- ===== PART A: goes FIRST, ahead of the names: the tables' words, and 'selects' of the private methods out of them =====
/-- a private method of a class that the tables say can be made, by its rows of tables_1 -/
def lw_okq (q : MethodName × Nat) : Prop := (q.1.cls ≠ "java/lang/invoke/MethodHandle" ∧ q.1.cls ≠ "java/lang/invoke/VarHandle") ∧ Cond.instantiable q.1.cls q.2 ∈ tables_1 ∧ Cond.privateMethod q.1 ∈ tables_1 ∧ Cond.instanceMethod q.1 ∈ tables_1
theorem lw_p0 : lw_okq (⟨"ColdDepots$Page", "firstWrong", "()I"⟩, 2) := ⟨⟨by decide +kernel, by decide +kernel⟩, List.mem_of_getElem? (i := 16) (by decide +kernel), List.mem_of_getElem? (i := 140) (by decide +kernel), List.mem_of_getElem? (i := 141) (by decide +kernel)⟩
theorem lw_p1 : lw_okq (⟨"ColdDepots$Page", "codeAt", "(I)I"⟩, 2) := ⟨⟨by decide +kernel, by decide +kernel⟩, List.mem_of_getElem? (i := 16) (by decide +kernel), List.mem_of_getElem? (i := 144) (by decide +kernel), List.mem_of_getElem? (i := 145) (by decide +kernel)⟩
theorem lw_p2 : lw_okq (⟨"ColdDepots$Page", "isCamp", "()Z"⟩, 2) := ⟨⟨by decide +kernel, by decide +kernel⟩, List.mem_of_getElem? (i := 16) (by decide +kernel), List.mem_of_getElem? (i := 158) (by decide +kernel), List.mem_of_getElem? (i := 159) (by decide +kernel)⟩
theorem lw_p3 : lw_okq (⟨"ColdDepots$Party", "all", "()I"⟩, 8) := ⟨⟨by decide +kernel, by decide +kernel⟩, List.mem_of_getElem? (i := 31) (by decide +kernel), List.mem_of_getElem? (i := 168) (by decide +kernel), List.mem_of_getElem? (i := 169) (by decide +kernel)⟩
theorem lw_p4 : lw_okq (⟨"ColdDepots$Standing", "begin", "(I)V"⟩, 9) := ⟨⟨by decide +kernel, by decide +kernel⟩, List.mem_of_getElem? (i := 68) (by decide +kernel), List.mem_of_getElem? (i := 172) (by decide +kernel), List.mem_of_getElem? (i := 173) (by decide +kernel)⟩
theorem lw_p5 : lw_okq (⟨"ColdDepots", "isNoCairn", "(I)Z"⟩, 8) := ⟨⟨by decide +kernel, by decide +kernel⟩, List.mem_of_getElem? (i := 8) (by decide +kernel), List.mem_of_getElem? (i := 198) (by decide +kernel), List.mem_of_getElem? (i := 199) (by decide +kernel)⟩
theorem lw_p6 : lw_okq (⟨"ColdDepots", "amountsAt", "(I)I"⟩, 8) := ⟨⟨by decide +kernel, by decide +kernel⟩, List.mem_of_getElem? (i := 8) (by decide +kernel), List.mem_of_getElem? (i := 202) (by decide +kernel), List.mem_of_getElem? (i := 203) (by decide +kernel)⟩
theorem lw_p7 : lw_okq (⟨"ColdDepots", "isAllSo", "(II)Z"⟩, 8) := ⟨⟨by decide +kernel, by decide +kernel⟩, List.mem_of_getElem? (i := 8) (by decide +kernel), List.mem_of_getElem? (i := 206) (by decide +kernel), List.mem_of_getElem? (i := 207) (by decide +kernel)⟩
theorem lw_p8 : lw_okq (⟨"ColdDepots$Party", "setCairns", "([I)V"⟩, 8) := ⟨⟨by decide +kernel, by decide +kernel⟩, List.mem_of_getElem? (i := 31) (by decide +kernel), List.mem_of_getElem? (i := 210) (by decide +kernel), List.mem_of_getElem? (i := 211) (by decide +kernel)⟩
theorem lw_p9 : lw_okq (⟨"ColdDepots$Party", "go", "(III)Z"⟩, 8) := ⟨⟨by decide +kernel, by decide +kernel⟩, List.mem_of_getElem? (i := 31) (by decide +kernel), List.mem_of_getElem? (i := 217) (by decide +kernel), List.mem_of_getElem? (i := 218) (by decide +kernel)⟩
theorem lw_p10 : lw_okq (⟨"ColdDepots$Party", "setOut", "(II)V"⟩, 8) := ⟨⟨by decide +kernel, by decide +kernel⟩, List.mem_of_getElem? (i := 31) (by decide +kernel), List.mem_of_getElem? (i := 221) (by decide +kernel), List.mem_of_getElem? (i := 222) (by decide +kernel)⟩
theorem lw_p11 : lw_okq (⟨"ColdDepots$Party", "together", "(I[I)I"⟩, 8) := ⟨⟨by decide +kernel, by decide +kernel⟩, List.mem_of_getElem? (i := 31) (by decide +kernel), List.mem_of_getElem? (i := 226) (by decide +kernel), List.mem_of_getElem? (i := 227) (by decide +kernel)⟩
theorem lw_p12 : lw_okq (⟨"ColdDepots$Party", "eatPonies", "()V"⟩, 8) := ⟨⟨by decide +kernel, by decide +kernel⟩, List.mem_of_getElem? (i := 31) (by decide +kernel), List.mem_of_getElem? (i := 235) (by decide +kernel), List.mem_of_getElem? (i := 236) (by decide +kernel)⟩
theorem lw_p13 : lw_okq (⟨"ColdDepots$Party", "devour", "(I)V"⟩, 8) := ⟨⟨by decide +kernel, by decide +kernel⟩, List.mem_of_getElem? (i := 31) (by decide +kernel), List.mem_of_getElem? (i := 239) (by decide +kernel), List.mem_of_getElem? (i := 240) (by decide +kernel)⟩
theorem lw_p14 : lw_okq (⟨"ColdDepots$Party", "eatBeasts", "()V"⟩, 8) := ⟨⟨by decide +kernel, by decide +kernel⟩, List.mem_of_getElem? (i := 31) (by decide +kernel), List.mem_of_getElem? (i := 244) (by decide +kernel), List.mem_of_getElem? (i := 245) (by decide +kernel)⟩
theorem lw_p15 : lw_okq (⟨"ColdDepots$Party", "dieOn", "(I)V"⟩, 8) := ⟨⟨by decide +kernel, by decide +kernel⟩, List.mem_of_getElem? (i := 31) (by decide +kernel), List.mem_of_getElem? (i := 249) (by decide +kernel), List.mem_of_getElem? (i := 250) (by decide +kernel)⟩
def lw_privs_1 : List (MethodName × Nat) := [(⟨"ColdDepots$Page", "firstWrong", "()I"⟩, 2), (⟨"ColdDepots$Page", "codeAt", "(I)I"⟩, 2), (⟨"ColdDepots$Page", "isCamp", "()Z"⟩, 2), (⟨"ColdDepots$Party", "all", "()I"⟩, 8), (⟨"ColdDepots$Standing", "begin", "(I)V"⟩, 9), (⟨"ColdDepots", "isNoCairn", "(I)Z"⟩, 8), (⟨"ColdDepots", "amountsAt", "(I)I"⟩, 8), (⟨"ColdDepots", "isAllSo", "(II)Z"⟩, 8), (⟨"ColdDepots$Party", "setCairns", "([I)V"⟩, 8), (⟨"ColdDepots$Party", "go", "(III)Z"⟩, 8), (⟨"ColdDepots$Party", "setOut", "(II)V"⟩, 8), (⟨"ColdDepots$Party", "together", "(I[I)I"⟩, 8), (⟨"ColdDepots$Party", "eatPonies", "()V"⟩, 8), (⟨"ColdDepots$Party", "devour", "(I)V"⟩, 8), (⟨"ColdDepots$Party", "eatBeasts", "()V"⟩, 8), (⟨"ColdDepots$Party", "dieOn", "(I)V"⟩, 8)]
theorem lw_r1 : ∀ q ∈ lw_privs_1, lw_okq q := List.forall_mem_cons.mpr ⟨lw_p0, List.forall_mem_cons.mpr ⟨lw_p1, List.forall_mem_cons.mpr ⟨lw_p2, List.forall_mem_cons.mpr ⟨lw_p3, List.forall_mem_cons.mpr ⟨lw_p4, List.forall_mem_cons.mpr ⟨lw_p5, List.forall_mem_cons.mpr ⟨lw_p6, List.forall_mem_cons.mpr ⟨lw_p7, List.forall_mem_cons.mpr ⟨lw_p8, List.forall_mem_cons.mpr ⟨lw_p9, List.forall_mem_cons.mpr ⟨lw_p10, List.forall_mem_cons.mpr ⟨lw_p11, List.forall_mem_cons.mpr ⟨lw_p12, List.forall_mem_cons.mpr ⟨lw_p13, List.forall_mem_cons.mpr ⟨lw_p14, List.forall_mem_cons.mpr ⟨lw_p15, fun _ h => absurd h List.not_mem_nil⟩⟩⟩⟩⟩⟩⟩⟩⟩⟩⟩⟩⟩⟩⟩⟩
theorem lw_p16 : lw_okq (⟨"ColdDepots$Party", "takeUpAt", "(I)V"⟩, 8) := ⟨⟨by decide +kernel, by decide +kernel⟩, List.mem_of_getElem? (i := 31) (by decide +kernel), List.mem_of_getElem? (i := 253) (by decide +kernel), List.mem_of_getElem? (i := 254) (by decide +kernel)⟩
theorem lw_p17 : lw_okq (⟨"ColdDepots", "bestTrial", "(II)I"⟩, 8) := ⟨⟨by decide +kernel, by decide +kernel⟩, List.mem_of_getElem? (i := 8) (by decide +kernel), List.mem_of_getElem? (i := 258) (by decide +kernel), List.mem_of_getElem? (i := 259) (by decide +kernel)⟩
theorem lw_p18 : lw_okq (⟨"ColdDepots", "mostFoodOf", "(I)I"⟩, 8) := ⟨⟨by decide +kernel, by decide +kernel⟩, List.mem_of_getElem? (i := 8) (by decide +kernel), List.mem_of_getElem? (i := 268) (by decide +kernel), List.mem_of_getElem? (i := 269) (by decide +kernel)⟩
theorem lw_p19 : lw_okq (⟨"ColdDepots", "leftAtWorst", "(III)I"⟩, 8) := ⟨⟨by decide +kernel, by decide +kernel⟩, List.mem_of_getElem? (i := 8) (by decide +kernel), List.mem_of_getElem? (i := 274) (by decide +kernel), List.mem_of_getElem? (i := 275) (by decide +kernel)⟩
theorem lw_p20 : lw_okq (⟨"ColdDepots", "isNoMarch", "(III)Z"⟩, 8) := ⟨⟨by decide +kernel, by decide +kernel⟩, List.mem_of_getElem? (i := 8) (by decide +kernel), List.mem_of_getElem? (i := 289) (by decide +kernel), List.mem_of_getElem? (i := 290) (by decide +kernel)⟩
theorem lw_p21 : lw_okq (⟨"ColdDepots", "isNobody", "(I)Z"⟩, 8) := ⟨⟨by decide +kernel, by decide +kernel⟩, List.mem_of_getElem? (i := 8) (by decide +kernel), List.mem_of_getElem? (i := 293) (by decide +kernel), List.mem_of_getElem? (i := 294) (by decide +kernel)⟩
theorem lw_p22 : lw_okq (⟨"ColdDepots", "anyIsDead", "(I)Z"⟩, 8) := ⟨⟨by decide +kernel, by decide +kernel⟩, List.mem_of_getElem? (i := 8) (by decide +kernel), List.mem_of_getElem? (i := 300) (by decide +kernel), List.mem_of_getElem? (i := 301) (by decide +kernel)⟩
theorem lw_p23 : lw_okq (⟨"ColdDepots", "letCreep", "(II)I"⟩, 8) := ⟨⟨by decide +kernel, by decide +kernel⟩, List.mem_of_getElem? (i := 8) (by decide +kernel), List.mem_of_getElem? (i := 316) (by decide +kernel), List.mem_of_getElem? (i := 317) (by decide +kernel)⟩
theorem lw_p24 : lw_okq (⟨"ColdDepots", "farthest", "(I[I)I"⟩, 8) := ⟨⟨by decide +kernel, by decide +kernel⟩, List.mem_of_getElem? (i := 8) (by decide +kernel), List.mem_of_getElem? (i := 325) (by decide +kernel), List.mem_of_getElem? (i := 326) (by decide +kernel)⟩
theorem lw_p25 : lw_okq (⟨"ColdDepots", "leastFood", "(II[I)I"⟩, 8) := ⟨⟨by decide +kernel, by decide +kernel⟩, List.mem_of_getElem? (i := 8) (by decide +kernel), List.mem_of_getElem? (i := 329) (by decide +kernel), List.mem_of_getElem? (i := 330) (by decide +kernel)⟩
theorem lw_p26 : lw_okq (⟨"ColdDepots$Page", "add", "(I)Z"⟩, 2) := ⟨⟨by decide +kernel, by decide +kernel⟩, List.mem_of_getElem? (i := 16) (by decide +kernel), List.mem_of_getElem? (i := 350) (by decide +kernel), List.mem_of_getElem? (i := 351) (by decide +kernel)⟩
def lw_privs_2 : List (MethodName × Nat) := [(⟨"ColdDepots$Party", "takeUpAt", "(I)V"⟩, 8), (⟨"ColdDepots", "bestTrial", "(II)I"⟩, 8), (⟨"ColdDepots", "mostFoodOf", "(I)I"⟩, 8), (⟨"ColdDepots", "leftAtWorst", "(III)I"⟩, 8), (⟨"ColdDepots", "isNoMarch", "(III)Z"⟩, 8), (⟨"ColdDepots", "isNobody", "(I)Z"⟩, 8), (⟨"ColdDepots", "anyIsDead", "(I)Z"⟩, 8), (⟨"ColdDepots", "letCreep", "(II)I"⟩, 8), (⟨"ColdDepots", "farthest", "(I[I)I"⟩, 8), (⟨"ColdDepots", "leastFood", "(II[I)I"⟩, 8), (⟨"ColdDepots$Page", "add", "(I)Z"⟩, 2)]
theorem lw_r2 : ∀ q ∈ lw_privs_2, lw_okq q := List.forall_mem_cons.mpr ⟨lw_p16, List.forall_mem_cons.mpr ⟨lw_p17, List.forall_mem_cons.mpr ⟨lw_p18, List.forall_mem_cons.mpr ⟨lw_p19, List.forall_mem_cons.mpr ⟨lw_p20, List.forall_mem_cons.mpr ⟨lw_p21, List.forall_mem_cons.mpr ⟨lw_p22, List.forall_mem_cons.mpr ⟨lw_p23, List.forall_mem_cons.mpr ⟨lw_p24, List.forall_mem_cons.mpr ⟨lw_p25, List.forall_mem_cons.mpr ⟨lw_p26, fun _ h => absurd h List.not_mem_nil⟩⟩⟩⟩⟩⟩⟩⟩⟩⟩⟩
def lw_privs : List (MethodName × Nat) := lw_privs_1 ++ (lw_privs_2)
def lw_tbl : List Cond := k2_sels lw_privs ++ tables_1
theorem lw_privs_ok : ∀ q ∈ lw_privs, lw_okq q := by
  show ∀ q ∈ lw_privs_1 ++ (lw_privs_2), lw_okq q
  exact List.forall_mem_append.mpr ⟨lw_r1, lw_r2⟩
-- ===== end of PART A; then your names; then what follows =====
/-! THE CLAIM OUT OF ONE WALK OF THE LAW'S BODY. Your part is whole_start (and what it stands on); all else here is the same for every law, but numbers. -/
def R_law : String := "ColdDepotsLaw"
def lw_P (b : Addr) (xs : List Int32) (args : Array Value) (s : State) : Prop := args = #[.ref b] ∧ s.IntsAt b xs ∧ xs.length ≤ 260 ∧ (Jvm.Cond.and given_1 narrow_1).before args s = true
def lw_Q (_ : Array Value) (s : State) (o : Outcome) (t : State) : Prop := o = .returned (some (.int 1)) ∧ Framed s o t [] 600000 7302250
def lw_Z (below : List Frame) (a : Array Value) (s : State) : State → Prop := fun t => ∃ o, t.status = .running ∧ Ended t below o ∧ lw_Q a s o t
/-- the law's own end, with 1 on the stack, nothing written that was there before, its room as the claim has it -/
theorem lw_ret {p : Program} {l : Launch} {e : Env} {s : State} {m : MethodId} {below : List Frame} {meth : Method} {c : Code} {b : Nat} (hx : p.tables.exec = Jvm.exec) (hb : c.code = code) (hr : meth.sig.returnType = ret) (hlocks : meth.locks = false) {pc : Nat} {H : Heap} {ls : Array Slot} (hdg : decode code pc = .ok (.ireturn, 1)) : W p l e room_1 s m #[Value.ref b] below meth c H [] 600000 7302250 (lw_Z below #[Value.ref b] s) (F0 m pc ls [.int 1]) := by
  intro T hT X
  obtain ⟨fs, hret, hrun, hended, hW, hframe⟩ := X.leave (v := some (.int 1)) (hlocks := hlocks) (fun h => by rw [hr] at h; cases h)
  have hmeth' : T.vm.method? m = some meth := X.method'
  refine ⟨T.setFrames fs, ?_, .returned (some (.int 1)), hrun, hended, rfl, ⟨_, rfl⟩, hW, hframe⟩
  jvm_step X.here [X.here.top, hx, hb, hdg, hmeth', hr, ret, narrow_b1]
  (try refine ⟨rfl, ?_⟩); (try refine ⟨rfl, ?_⟩)
  first | (intro acts; rw [hret _ acts rfl rfl rfl]) | rw [hret _ _ rfl rfl rfl]
  exact Steps.refl _
/-- what holds at the law's entry: the machine, the code, the tables' words (any of lw_tbl by 'hts w (by decide +kernel)'), the script of L ints xs at the cell b, what the Statement gives of the start (any of its parts by flat_of_before) -/
def lw_At (p : Program) (s : State) (m : MethodId) (meth : Method) (c : Code) (b L : Nat) (xs : Nat → Int32) : Prop :=
  p.tables.exec = Jvm.exec ∧ c.code = code ∧ meth.sig.returnType = ret ∧ c.maxLocals = 15 ∧ s.vm.findClass R_law = some m.cls ∧ (∀ w ∈ lw_tbl, w.before #[Value.ref b] s = true) ∧ va_X b L xs s s.heap ∧ b < s.heap.size ∧ meth.locks = false ∧ (Jvm.Cond.and given_1 narrow_1).before #[Value.ref b] s = true
end
section
def RX0 : String := "ColdDepots$Page"
def TX0 : u_T := fun k => match k with
  | 0 => ("ColdDepots$Page", "codes", "[I", true)
  | _ => ("ColdDepots$Page", "length", "I", false)
def tyX0 : Nat → FieldType := fun k => match k with
  | 0 => .array .int
  | _ => .int
theorem nmX0 : ∀ a, a < 2 → ∀ b, b < 2 → a ≠ b → (TX0 a).2.1 ≠ (TX0 b).2.1 := by decide +kernel
theorem tyX0_ok : ∀ k, k < 2 → parseFieldDescriptor (TX0 k).2.2.1 = some (tyX0 k) := by decide +kernel
abbrev cX0_init : ByteArray := prog_2_method_1_code
def yX0_init : MethodName := ⟨RX0, "<init>", "()V"⟩
abbrev cX0_add : ByteArray := prog_2_method_2_code
def yX0_add : MethodName := ⟨RX0, "add", "(I)Z"⟩
abbrev cX0_codeAt : ByteArray := prog_2_method_3_code
def yX0_codeAt : MethodName := ⟨RX0, "codeAt", "(I)I"⟩
abbrev cX0_firstWrong : ByteArray := prog_2_method_4_code
def yX0_firstWrong : MethodName := ⟨RX0, "firstWrong", "()I"⟩
abbrev cX0_isCamp : ByteArray := prog_2_method_5_code
def yX0_isCamp : MethodName := ⟨RX0, "isCamp", "()Z"⟩
def RX1 : String := "ColdDepots$Party"
def TX1 : u_T := fun k => match k with
  | 0 => ("ColdDepots$Party", "kinds", "[I", true)
  | 1 => ("ColdDepots$Party", "size", "I", false)
  | 2 => ("ColdDepots$Party", "cairns", "[I", true)
  | 3 => ("ColdDepots$Party", "alive", "I", false)
  | 4 => ("ColdDepots$Party", "food", "I", false)
  | 5 => ("ColdDepots$Party", "pull", "I", false)
  | 6 => ("ColdDepots$Party", "eat", "I", false)
  | _ => ("ColdDepots$Party", "diedOn", "I", false)
def tyX1 : Nat → FieldType := fun k => match k with
  | 0 => .array .int
  | 1 => .int
  | 2 => .array .int
  | 3 => .int
  | 4 => .int
  | 5 => .int
  | 6 => .int
  | _ => .int
theorem nmX1 : ∀ a, a < 8 → ∀ b, b < 8 → a ≠ b → (TX1 a).2.1 ≠ (TX1 b).2.1 := by decide +kernel
theorem tyX1_ok : ∀ k, k < 8 → parseFieldDescriptor (TX1 k).2.2.1 = some (tyX1 k) := by decide +kernel
abbrev cX1_init : ByteArray := prog_3_method_1_code
def yX1_init : MethodName := ⟨RX1, "<init>", "()V"⟩
abbrev cX1_all : ByteArray := prog_3_method_2_code
def yX1_all : MethodName := ⟨RX1, "all", "()I"⟩
abbrev cX1_together : ByteArray := prog_3_method_3_code
def yX1_together : MethodName := ⟨RX1, "together", "(I[I)I"⟩
abbrev cX1_setCairns : ByteArray := prog_3_method_4_code
def yX1_setCairns : MethodName := ⟨RX1, "setCairns", "([I)V"⟩
abbrev cX1_go : ByteArray := prog_3_method_5_code
def yX1_go : MethodName := ⟨RX1, "go", "(III)Z"⟩
abbrev cX1_setOut : ByteArray := prog_3_method_6_code
def yX1_setOut : MethodName := ⟨RX1, "setOut", "(II)V"⟩
abbrev cX1_eatPonies : ByteArray := prog_3_method_7_code
def yX1_eatPonies : MethodName := ⟨RX1, "eatPonies", "()V"⟩
abbrev cX1_eatBeasts : ByteArray := prog_3_method_8_code
def yX1_eatBeasts : MethodName := ⟨RX1, "eatBeasts", "()V"⟩
abbrev cX1_devour : ByteArray := prog_3_method_9_code
def yX1_devour : MethodName := ⟨RX1, "devour", "(I)V"⟩
abbrev cX1_dieOn : ByteArray := prog_3_method_10_code
def yX1_dieOn : MethodName := ⟨RX1, "dieOn", "(I)V"⟩
abbrev cX1_takeUpAt : ByteArray := prog_3_method_11_code
def yX1_takeUpAt : MethodName := ⟨RX1, "takeUpAt", "(I)V"⟩
def RX2 : String := "ColdDepots$Standing"
def TX2 : u_T := fun k => match k with
  | 0 => ("ColdDepots$Standing", "alive", "I", false)
  | 1 => ("ColdDepots$Standing", "cairns", "[I", true)
  | 2 => ("ColdDepots$Standing", "marches", "I", false)
  | 3 => ("ColdDepots$Standing", "comingsHome", "I", false)
  | 4 => ("ColdDepots$Standing", "heard", "I", false)
  | 5 => ("ColdDepots$Standing", "heardMembers", "[I", true)
  | 6 => ("ColdDepots$Standing", "heardStages", "[I", true)
  | 7 => ("ColdDepots$Standing", "heardFoods", "[I", true)
  | _ => ("ColdDepots$Standing", "heardHomes", "[I", true)
def tyX2 : Nat → FieldType := fun k => match k with
  | 0 => .int
  | 1 => .array .int
  | 2 => .int
  | 3 => .int
  | 4 => .int
  | 5 => .array .int
  | 6 => .array .int
  | 7 => .array .int
  | _ => .array .int
theorem nmX2 : ∀ a, a < 9 → ∀ b, b < 9 → a ≠ b → (TX2 a).2.1 ≠ (TX2 b).2.1 := by decide +kernel
theorem tyX2_ok : ∀ k, k < 9 → parseFieldDescriptor (TX2 k).2.2.1 = some (tyX2 k) := by decide +kernel
abbrev cX2_init : ByteArray := prog_4_method_1_code
def yX2_init : MethodName := ⟨RX2, "<init>", "()V"⟩
abbrev cX2_begin : ByteArray := prog_4_method_2_code
def yX2_begin : MethodName := ⟨RX2, "begin", "(I)V"⟩
def RX3 : String := "ColdDepots"
def TX3 : u_T := fun k => match k with
  | 0 => ("ColdDepots", "page", "LColdDepots$Page;", true)
  | 1 => ("ColdDepots", "party", "LColdDepots$Party;", true)
  | 2 => ("ColdDepots", "now", "LColdDepots$Standing;", true)
  | 3 => ("ColdDepots", "kept", "LColdDepots$Standing;", true)
  | 4 => ("ColdDepots", "wintered", "[I", true)
  | 5 => ("ColdDepots", "imageKept", "Z", false)
  | 6 => ("ColdDepots", "campsRead", "I", false)
  | _ => ("ColdDepots", "teamsDone", "I", false)
def tyX3 : Nat → FieldType := fun k => match k with
  | 0 => .object "ColdDepots$Page"
  | 1 => .object "ColdDepots$Party"
  | 2 => .object "ColdDepots$Standing"
  | 3 => .object "ColdDepots$Standing"
  | 4 => .array .int
  | 5 => .boolean
  | 6 => .int
  | _ => .int
theorem nmX3 : ∀ a, a < 8 → ∀ b, b < 8 → a ≠ b → (TX3 a).2.1 ≠ (TX3 b).2.1 := by decide +kernel
theorem tyX3_ok : ∀ k, k < 8 → parseFieldDescriptor (TX3 k).2.2.1 = some (tyX3 k) := by decide +kernel
abbrev cX3_init : ByteArray := prog_1_method_1_code
def yX3_init : MethodName := ⟨RX3, "<init>", "()V"⟩
abbrev cX3_letter : ByteArray := prog_1_method_2_code
def yX3_letter : MethodName := ⟨RX3, "letter", "(I)I"⟩
abbrev cX3_fault : ByteArray := prog_1_method_4_code
def yX3_fault : MethodName := ⟨RX3, "fault", "()I"⟩
abbrev cX3_camp : ByteArray := prog_1_method_5_code
def yX3_camp : MethodName := ⟨RX3, "camp", "()I"⟩
abbrev cX3_member : ByteArray := prog_1_method_6_code
def yX3_member : MethodName := ⟨RX3, "member", "(II)I"⟩
abbrev cX3_as : ByteArray := prog_1_method_7_code
def yX3_as : MethodName := ⟨RX3, "as", "(II)I"⟩
abbrev cX3_cairn : ByteArray := prog_1_method_8_code
def yX3_cairn : MethodName := ⟨RX3, "cairn", "(II)I"⟩
abbrev cX3_lay : ByteArray := prog_1_method_9_code
def yX3_lay : MethodName := ⟨RX3, "lay", "(II)I"⟩
abbrev cX3_march : ByteArray := prog_1_method_10_code
def yX3_march : MethodName := ⟨RX3, "march", "(III)I"⟩
abbrev cX3_would : ByteArray := prog_1_method_11_code
def yX3_would : MethodName := ⟨RX3, "would", "(IIII)I"⟩
abbrev cX3_winters : ByteArray := prog_1_method_17_code
def yX3_winters : MethodName := ⟨RX3, "winters", "(III)I"⟩
abbrev cX3_count : ByteArray := prog_1_method_20_code
def yX3_count : MethodName := ⟨RX3, "count", "(I)I"⟩
abbrev cX3_isNoCairn : ByteArray := prog_1_method_22_code
def yX3_isNoCairn : MethodName := ⟨RX3, "isNoCairn", "(I)Z"⟩
abbrev cX3_isNobody : ByteArray := prog_1_method_23_code
def yX3_isNobody : MethodName := ⟨RX3, "isNobody", "(I)Z"⟩
abbrev cX3_isNoMarch : ByteArray := prog_1_method_24_code
def yX3_isNoMarch : MethodName := ⟨RX3, "isNoMarch", "(III)Z"⟩
abbrev cX3_anyIsDead : ByteArray := prog_1_method_25_code
def yX3_anyIsDead : MethodName := ⟨RX3, "anyIsDead", "(I)Z"⟩
abbrev cX3_isNoStage : ByteArray := prog_1_method_26_code
def yX3_isNoStage : MethodName := ⟨RX3, "isNoStage", "(I)Z"⟩
abbrev cX3_mostFoodOf : ByteArray := prog_1_method_27_code
def yX3_mostFoodOf : MethodName := ⟨RX3, "mostFoodOf", "(I)I"⟩
abbrev cX3_leastFood : ByteArray := prog_1_method_28_code
def yX3_leastFood : MethodName := ⟨RX3, "leastFood", "(II[I)I"⟩
abbrev cX3_farthest : ByteArray := prog_1_method_29_code
def yX3_farthest : MethodName := ⟨RX3, "farthest", "(I[I)I"⟩
abbrev cX3_amountsAt : ByteArray := prog_1_method_31_code
def yX3_amountsAt : MethodName := ⟨RX3, "amountsAt", "(I)I"⟩
abbrev cX3_isAllSo : ByteArray := prog_1_method_32_code
def yX3_isAllSo : MethodName := ⟨RX3, "isAllSo", "(II)Z"⟩
abbrev cX3_bestTrial : ByteArray := prog_1_method_33_code
def yX3_bestTrial : MethodName := ⟨RX3, "bestTrial", "(II)I"⟩
abbrev cX3_leftAtWorst : ByteArray := prog_1_method_34_code
def yX3_leftAtWorst : MethodName := ⟨RX3, "leftAtWorst", "(III)I"⟩
abbrev cX3_letCreep : ByteArray := prog_1_method_35_code
def yX3_letCreep : MethodName := ⟨RX3, "letCreep", "(II)I"⟩
abbrev cX3_nextSeed : ByteArray := prog_1_method_36_code
def yX3_nextSeed : MethodName := ⟨RX3, "nextSeed", "(I)I"⟩
abbrev cX3_kindOf : ByteArray := prog_1_method_37_code
def yX3_kindOf : MethodName := ⟨RX3, "kindOf", "(I)I"⟩
abbrev cX3_isOf : ByteArray := prog_1_method_38_code
def yX3_isOf : MethodName := ⟨RX3, "isOf", "(II)Z"⟩
abbrev cX3_at : ByteArray := prog_1_method_39_code
def yX3_at : MethodName := ⟨RX3, "at", "([II)I"⟩
abbrev cX3_put : ByteArray := prog_1_method_40_code
def yX3_put : MethodName := ⟨RX3, "put", "([III)V"⟩
abbrev cX3_copy : ByteArray := prog_1_method_41_code
def yX3_copy : MethodName := ⟨RX3, "copy", "([I[I)V"⟩
abbrev cX3_sum : ByteArray := prog_1_method_42_code
def yX3_sum : MethodName := ⟨RX3, "sum", "([I)I"⟩
def RX4 : String := "ColdDepotsModel"
def TX4 : u_T := fun k => match k with
  | _ => ("", "", "", false)
def tyX4 : Nat → FieldType := fun k => match k with
  | _ => .int
theorem nmX4 : ∀ a, a < 0 → ∀ b, b < 0 → a ≠ b → (TX4 a).2.1 ≠ (TX4 b).2.1 := by decide +kernel
theorem tyX4_ok : ∀ k, k < 0 → parseFieldDescriptor (TX4 k).2.2.1 = some (tyX4 k) := by decide +kernel
def RJ6 : String := "java/lang/Integer"
abbrev cJ6_bitCount_0f7a4 : ByteArray := prog_7_method_49_code
def yJ6_bitCount_0f7a4 : MethodName := ⟨RJ6, "bitCount", "(I)I"⟩
def RJ9 : String := "java/lang/Math"
abbrev cJ9_max_7cf53 : ByteArray := prog_8_method_65_code
def yJ9_max_7cf53 : MethodName := ⟨RJ9, "max", "(II)I"⟩
abbrev cJ9_min_7cf53 : ByteArray := prog_8_method_69_code
def yJ9_min_7cf53 : MethodName := ⟨RJ9, "min", "(II)I"⟩
def RL : String := "ColdDepotsLaw"
abbrev cL_cell : ByteArray := method_2_code
def yL_cell : MethodName := ⟨RL, "cell", "([II)I"⟩
abbrev cL_at : ByteArray := method_3_code
def yL_at : MethodName := ⟨RL, "at", "(II)I"⟩
abbrev cL_campText : ByteArray := method_4_code
def yL_campText : MethodName := ⟨RL, "campText", "(II[I[I[I)I"⟩
abbrev cL_write : ByteArray := method_5_code
def yL_write : MethodName := ⟨RL, "write", "(LColdDepots;[II)Z"⟩
abbrev cL_in : ByteArray := method_6_code
def yL_in : MethodName := ⟨RL, "in", "(II)Z"⟩
abbrev cL_size : ByteArray := method_7_code
def yL_size : MethodName := ⟨RL, "size", "(I)I"⟩
abbrev cL_pulls : ByteArray := method_8_code
def yL_pulls : MethodName := ⟨RL, "pulls", "(I)I"⟩
abbrev cL_feeds : ByteArray := method_9_code
def yL_feeds : MethodName := ⟨RL, "feeds", "(I)I"⟩
abbrev cL_sum : ByteArray := method_10_code
def yL_sum : MethodName := ⟨RL, "sum", "([III)I"⟩
abbrev cL_march : ByteArray := method_11_code
def yL_march : MethodName := ⟨RL, "march", "([I[I[IIII)V"⟩
abbrev cL_lying : ByteArray := method_12_code
def yL_lying : MethodName := ⟨RL, "lying", "([I)I"⟩
abbrev cL_over : ByteArray := method_13_code
def yL_over : MethodName := ⟨RL, "over", "([I[I)V"⟩
abbrev cL_home : ByteArray := method_14_code
def yL_home : MethodName := ⟨RL, "home", "([I[I[I[IIII)Z"⟩
abbrev cL_need : ByteArray := method_15_code
def yL_need : MethodName := ⟨RL, "need", "([I[I[I[III)I"⟩
abbrev cL_far : ByteArray := method_16_code
def yL_far : MethodName := ⟨RL, "far", "([I[I[I[II)I"⟩
abbrev cL_stands : ByteArray := method_17_code
def yL_stands : MethodName := ⟨RL, "stands", "(LColdDepots;[I[I)Z"⟩
abbrev cL_does : ByteArray := method_18_code
def yL_does : MethodName := ⟨RL, "does", "(LColdDepots;[I[I[II)Z"⟩
abbrev cL_law : ByteArray := code
def yL_law : MethodName := ⟨RL, "law", "([I)Z"⟩
abbrev cL_winters : ByteArray := method_20_code
def yL_winters : MethodName := ⟨RL, "winters", "(LColdDepots;[I[I[III)Z"⟩
abbrev vwCl : List vw_C := [(RX0, TX0, 2), (RX1, TX1, 8), (RX2, TX2, 9), (RX3, TX3, 8)]
end
section
def nestWord : Cond → Bool
  | .fieldLinkNest .. => true
  | .methodLinkNest .. => true
  | _ => false
def TB : List Cond := lw_tbl.filter goodWord
def NB : List Cond := lw_tbl.filter nestWord
theorem in_t1 {i : Nat} {w : Cond} (h : tables_1_1[i]? = some w) : w ∈ lw_tbl := List.mem_append_right _ (List.mem_append_left _ (List.mem_of_getElem? h))
theorem in_t2 {i : Nat} {w : Cond} (h : tables_1_2[i]? = some w) : w ∈ lw_tbl := List.mem_append_right _ (List.mem_append_right _ (List.mem_of_getElem? h))
theorem in_sel {q : MethodName × Nat} (h : q ∈ lw_privs) : Cond.selects q.1.cls q.1 q.1 ∈ lw_tbl := List.mem_append_left _ (List.mem_map.mpr ⟨q, h, rfl⟩)
theorem to_TB {w : Cond} (h : w ∈ lw_tbl) (g : goodWord w = true) : w ∈ TB := List.mem_filter.mpr ⟨h, g⟩
theorem to_NB {w : Cond} (h : w ∈ lw_tbl) (g : nestWord w = true) : w ∈ NB := List.mem_filter.mpr ⟨h, g⟩
theorem in_p1 {i : Nat} {q : MethodName × Nat} (h : lw_privs_1[i]? = some q) : q ∈ lw_privs := List.mem_append_left _ (List.mem_of_getElem? h)
theorem in_p2 {i : Nat} {q : MethodName × Nat} (h : lw_privs_2[i]? = some q) : q ∈ lw_privs := List.mem_append_right _ (List.mem_of_getElem? h)

theorem wi_L : Cond.initialized RL ∈ TB := to_TB (in_t1 (i := 0) rfl) rfl
theorem wi_X3 : Cond.initialized RX3 ∈ TB := to_TB (in_t1 (i := 1) rfl) rfl
theorem wi_X0 : Cond.initialized RX0 ∈ TB := to_TB (in_t1 (i := 2) rfl) rfl
theorem wi_X1 : Cond.initialized RX1 ∈ TB := to_TB (in_t1 (i := 3) rfl) rfl
theorem wi_X2 : Cond.initialized RX2 ∈ TB := to_TB (in_t1 (i := 4) rfl) rfl
theorem wi_J9 : Cond.initialized RJ9 ∈ TB := to_TB (in_t1 (i := 5) rfl) rfl
theorem wi_J6 : Cond.initialized RJ6 ∈ TB := to_TB (in_t1 (i := 6) rfl) rfl
theorem wl_L_15 : Cond.classLink RL 15 RX3 ∈ TB := to_TB (in_t1 (i := 7) rfl) rfl
theorem wn_X3 : Cond.instantiable RX3 8 ∈ TB := to_TB (in_t1 (i := 8) rfl) rfl
theorem wl_L_72 : Cond.methodLink RL 72 yX3_init ∈ TB := to_TB (in_t1 (i := 9) rfl) rfl
theorem wm_X3_init : Cond.instanceMethod yX3_init ∈ TB := to_TB (in_t1 (i := 10) rfl) rfl
theorem wc_X3_init : Cond.code yX3_init cX3_init 1 none ∈ TB := to_TB (in_t1 (i := 11) rfl) rfl
theorem wl_X3_1 : Cond.methodLink RX3 1 objectInit ∈ TB := to_TB (in_t1 (i := 12) rfl) rfl
theorem wm_obj : Cond.instanceMethod objectInit ∈ TB := to_TB (in_t1 (i := 13) rfl) rfl
theorem wc_obj : Cond.code objectInit ⟨#[0xb1]⟩ 1 none ∈ TB := to_TB (in_t1 (i := 14) rfl) rfl
theorem wl_X3_7 : Cond.classLink RX3 7 RX0 ∈ TB := to_TB (in_t1 (i := 15) rfl) rfl
theorem wn_X0 : Cond.instantiable RX0 2 ∈ TB := to_TB (in_t1 (i := 16) rfl) rfl
theorem wl_X3_9 : Cond.methodLinkNest RX3 9 yX0_init "ColdDepots" ∈ NB := to_NB (in_t1 (i := 17) rfl) rfl
theorem wm_X0_init : Cond.instanceMethod yX0_init ∈ TB := to_TB (in_t1 (i := 18) rfl) rfl
theorem wc_X0_init : Cond.code yX0_init cX0_init 1 none ∈ TB := to_TB (in_t1 (i := 19) rfl) rfl
theorem wl_X0_3 : Cond.methodLink RX0 3 objectInit ∈ TB := to_TB (in_t1 (i := 20) rfl) rfl
theorem wl_X0_9 : Cond.fieldLink RX0 9 "ColdDepots$Page" "codes" "[I" ∈ TB := to_TB (in_t1 (i := 21) rfl) rfl
theorem wl_X0_15 : Cond.fieldLink RX0 15 "ColdDepots$Page" "length" "I" ∈ TB := to_TB (in_t1 (i := 22) rfl) rfl
theorem wl_X3_41 : Cond.fieldLinkNest RX3 41 "ColdDepots$Page" "length" "I" "ColdDepots" ∈ NB := to_NB (in_t1 (i := 23) rfl) rfl
theorem w_arr : Cond.arrayClass .int ∈ TB := to_TB (in_t1 (i := 29) rfl) rfl
theorem wl_X3_16 : Cond.classLink RX3 16 RX1 ∈ TB := to_TB (in_t1 (i := 30) rfl) rfl
theorem wn_X1 : Cond.instantiable RX1 8 ∈ TB := to_TB (in_t1 (i := 31) rfl) rfl
theorem wl_X3_18 : Cond.methodLinkNest RX3 18 yX1_init "ColdDepots" ∈ NB := to_NB (in_t1 (i := 32) rfl) rfl
theorem wm_X1_init : Cond.instanceMethod yX1_init ∈ TB := to_TB (in_t1 (i := 33) rfl) rfl
theorem wc_X1_init : Cond.code yX1_init cX1_init 1 none ∈ TB := to_TB (in_t1 (i := 34) rfl) rfl
theorem wl_X1_3 : Cond.methodLink RX1 3 objectInit ∈ TB := to_TB (in_t1 (i := 35) rfl) rfl
theorem wl_X1_9 : Cond.fieldLink RX1 9 "ColdDepots$Party" "kinds" "[I" ∈ TB := to_TB (in_t1 (i := 36) rfl) rfl
theorem wl_X3_56 : Cond.fieldLinkNest RX3 56 "ColdDepots$Party" "kinds" "[I" "ColdDepots" ∈ NB := to_NB (in_t1 (i := 37) rfl) rfl
theorem wl_X1_18 : Cond.fieldLink RX1 18 "ColdDepots$Party" "size" "I" ∈ TB := to_TB (in_t1 (i := 38) rfl) rfl
theorem wl_X3_53 : Cond.fieldLinkNest RX3 53 "ColdDepots$Party" "size" "I" "ColdDepots" ∈ NB := to_NB (in_t1 (i := 39) rfl) rfl
theorem wl_X1_15 : Cond.fieldLink RX1 15 "ColdDepots$Party" "cairns" "[I" ∈ TB := to_TB (in_t1 (i := 40) rfl) rfl
theorem wl_X3_132 : Cond.fieldLinkNest RX3 132 "ColdDepots$Party" "cairns" "[I" "ColdDepots" ∈ NB := to_NB (in_t1 (i := 41) rfl) rfl
theorem wl_X1_40 : Cond.fieldLink RX1 40 "ColdDepots$Party" "alive" "I" ∈ TB := to_TB (in_t1 (i := 42) rfl) rfl
theorem wl_X3_131 : Cond.fieldLinkNest RX3 131 "ColdDepots$Party" "alive" "I" "ColdDepots" ∈ NB := to_NB (in_t1 (i := 43) rfl) rfl
theorem wl_X1_43 : Cond.fieldLink RX1 43 "ColdDepots$Party" "food" "I" ∈ TB := to_TB (in_t1 (i := 44) rfl) rfl
theorem wl_X3_143 : Cond.fieldLinkNest RX3 143 "ColdDepots$Party" "food" "I" "ColdDepots" ∈ NB := to_NB (in_t1 (i := 45) rfl) rfl
theorem wl_X1_63 : Cond.fieldLink RX1 63 "ColdDepots$Party" "pull" "I" ∈ TB := to_TB (in_t1 (i := 46) rfl) rfl
theorem wl_X1_46 : Cond.fieldLink RX1 46 "ColdDepots$Party" "eat" "I" ∈ TB := to_TB (in_t1 (i := 47) rfl) rfl
theorem wl_X1_75 : Cond.fieldLink RX1 75 "ColdDepots$Party" "diedOn" "I" ∈ TB := to_TB (in_t1 (i := 48) rfl) rfl
theorem wl_X3_150 : Cond.fieldLinkNest RX3 150 "ColdDepots$Party" "diedOn" "I" "ColdDepots" ∈ NB := to_NB (in_t1 (i := 49) rfl) rfl
theorem wl_X3_23 : Cond.classLink RX3 23 RX2 ∈ TB := to_TB (in_t1 (i := 67) rfl) rfl
theorem wn_X2 : Cond.instantiable RX2 9 ∈ TB := to_TB (in_t1 (i := 68) rfl) rfl
theorem wl_X3_25 : Cond.methodLinkNest RX3 25 yX2_init "ColdDepots" ∈ NB := to_NB (in_t1 (i := 69) rfl) rfl
theorem wm_X2_init : Cond.instanceMethod yX2_init ∈ TB := to_TB (in_t1 (i := 70) rfl) rfl
theorem wc_X2_init : Cond.code yX2_init cX2_init 1 none ∈ TB := to_TB (in_t1 (i := 71) rfl) rfl
theorem wl_X2_3 : Cond.methodLink RX2 3 objectInit ∈ TB := to_TB (in_t1 (i := 72) rfl) rfl
theorem wl_X2_27 : Cond.fieldLink RX2 27 "ColdDepots$Standing" "alive" "I" ∈ TB := to_TB (in_t1 (i := 73) rfl) rfl
theorem wl_X3_100 : Cond.fieldLinkNest RX3 100 "ColdDepots$Standing" "alive" "I" "ColdDepots" ∈ NB := to_NB (in_t1 (i := 74) rfl) rfl
theorem wl_X2_9 : Cond.fieldLink RX2 9 "ColdDepots$Standing" "cairns" "[I" ∈ TB := to_TB (in_t1 (i := 75) rfl) rfl
theorem wl_X3_77 : Cond.fieldLinkNest RX3 77 "ColdDepots$Standing" "cairns" "[I" "ColdDepots" ∈ NB := to_NB (in_t1 (i := 76) rfl) rfl
theorem wl_X2_31 : Cond.fieldLink RX2 31 "ColdDepots$Standing" "marches" "I" ∈ TB := to_TB (in_t1 (i := 77) rfl) rfl
theorem wl_X3_137 : Cond.fieldLinkNest RX3 137 "ColdDepots$Standing" "marches" "I" "ColdDepots" ∈ NB := to_NB (in_t1 (i := 78) rfl) rfl
theorem wl_X2_34 : Cond.fieldLink RX2 34 "ColdDepots$Standing" "comingsHome" "I" ∈ TB := to_TB (in_t1 (i := 79) rfl) rfl
theorem wl_X3_140 : Cond.fieldLinkNest RX3 140 "ColdDepots$Standing" "comingsHome" "I" "ColdDepots" ∈ NB := to_NB (in_t1 (i := 80) rfl) rfl
theorem wl_X2_37 : Cond.fieldLink RX2 37 "ColdDepots$Standing" "heard" "I" ∈ TB := to_TB (in_t1 (i := 81) rfl) rfl
theorem wl_X3_173 : Cond.fieldLinkNest RX3 173 "ColdDepots$Standing" "heard" "I" "ColdDepots" ∈ NB := to_NB (in_t1 (i := 82) rfl) rfl
theorem wl_X2_15 : Cond.fieldLink RX2 15 "ColdDepots$Standing" "heardMembers" "[I" ∈ TB := to_TB (in_t1 (i := 83) rfl) rfl
theorem wl_X3_223 : Cond.fieldLinkNest RX3 223 "ColdDepots$Standing" "heardMembers" "[I" "ColdDepots" ∈ NB := to_NB (in_t1 (i := 84) rfl) rfl
theorem wl_X2_18 : Cond.fieldLink RX2 18 "ColdDepots$Standing" "heardStages" "[I" ∈ TB := to_TB (in_t1 (i := 85) rfl) rfl
theorem wl_X3_220 : Cond.fieldLinkNest RX3 220 "ColdDepots$Standing" "heardStages" "[I" "ColdDepots" ∈ NB := to_NB (in_t1 (i := 86) rfl) rfl
theorem wl_X2_21 : Cond.fieldLink RX2 21 "ColdDepots$Standing" "heardFoods" "[I" ∈ TB := to_TB (in_t1 (i := 87) rfl) rfl
theorem wl_X3_226 : Cond.fieldLinkNest RX3 226 "ColdDepots$Standing" "heardFoods" "[I" "ColdDepots" ∈ NB := to_NB (in_t1 (i := 88) rfl) rfl
theorem wl_X2_24 : Cond.fieldLink RX2 24 "ColdDepots$Standing" "heardHomes" "[I" ∈ TB := to_TB (in_t1 (i := 89) rfl) rfl
theorem wl_X3_229 : Cond.fieldLinkNest RX3 229 "ColdDepots$Standing" "heardHomes" "[I" "ColdDepots" ∈ NB := to_NB (in_t1 (i := 90) rfl) rfl
theorem wl_X3_10 : Cond.fieldLink RX3 10 "ColdDepots" "page" "LColdDepots$Page;" ∈ TB := to_TB (in_t1 (i := 110) rfl) rfl
theorem wl_X3_19 : Cond.fieldLink RX3 19 "ColdDepots" "party" "LColdDepots$Party;" ∈ TB := to_TB (in_t1 (i := 111) rfl) rfl
theorem wl_X3_26 : Cond.fieldLink RX3 26 "ColdDepots" "now" "LColdDepots$Standing;" ∈ TB := to_TB (in_t1 (i := 112) rfl) rfl
theorem wl_X3_30 : Cond.fieldLink RX3 30 "ColdDepots" "kept" "LColdDepots$Standing;" ∈ TB := to_TB (in_t1 (i := 113) rfl) rfl
theorem wl_X3_33 : Cond.fieldLink RX3 33 "ColdDepots" "wintered" "[I" ∈ TB := to_TB (in_t1 (i := 114) rfl) rfl
theorem wl_X3_80 : Cond.fieldLink RX3 80 "ColdDepots" "imageKept" "Z" ∈ TB := to_TB (in_t1 (i := 115) rfl) rfl
theorem wl_X3_84 : Cond.fieldLink RX3 84 "ColdDepots" "campsRead" "I" ∈ TB := to_TB (in_t1 (i := 116) rfl) rfl
theorem wl_X3_167 : Cond.fieldLink RX3 167 "ColdDepots" "teamsDone" "I" ∈ TB := to_TB (in_t1 (i := 117) rfl) rfl
theorem wl_L_85 : Cond.methodLink RL 85 yX3_fault ∈ TB := to_TB (in_t1 (i := 135) rfl) rfl
theorem wm_X3_fault : Cond.instanceMethod yX3_fault ∈ TB := to_TB (in_t1 (i := 136) rfl) rfl
theorem we_X3_fault : Cond.selects RX3 yX3_fault yX3_fault ∈ TB := to_TB (in_t1 (i := 137) rfl) rfl
theorem wc_X3_fault : Cond.code yX3_fault cX3_fault 1 (some .int) ∈ TB := to_TB (in_t1 (i := 138) rfl) rfl
theorem wl_X3_45 : Cond.methodLinkNest RX3 45 yX0_firstWrong "ColdDepots" ∈ NB := to_NB (in_t1 (i := 139) rfl) rfl
theorem wm_X0_firstWrong : Cond.instanceMethod yX0_firstWrong ∈ TB := to_TB (in_t1 (i := 141) rfl) rfl
theorem wc_X0_firstWrong : Cond.code yX0_firstWrong cX0_firstWrong 5 (some .int) ∈ TB := to_TB (in_t1 (i := 142) rfl) rfl
theorem wl_X0_27 : Cond.methodLink RX0 27 yX0_codeAt ∈ TB := to_TB (in_t1 (i := 143) rfl) rfl
theorem wm_X0_codeAt : Cond.instanceMethod yX0_codeAt ∈ TB := to_TB (in_t1 (i := 145) rfl) rfl
theorem wc_X0_codeAt : Cond.code yX0_codeAt cX0_codeAt 2 (some .int) ∈ TB := to_TB (in_t1 (i := 146) rfl) rfl
theorem wl_X0_23 : Cond.methodLinkNest RX0 23 yX3_at "ColdDepots" ∈ NB := to_NB (in_t1 (i := 147) rfl) rfl
theorem ws_X3_at : Cond.static yX3_at ∈ TB := to_TB (in_t1 (i := 148) rfl) rfl
theorem wc_X3_at : Cond.code yX3_at cX3_at 2 (some .int) ∈ TB := to_TB (in_t1 (i := 149) rfl) rfl
theorem wl_X0_31 : Cond.methodLinkNest RX0 31 yX3_kindOf "ColdDepots" ∈ NB := to_NB (in_t1 (i := 150) rfl) rfl
theorem ws_X3_kindOf : Cond.static yX3_kindOf ∈ TB := to_TB (in_t1 (i := 151) rfl) rfl
theorem wc_X3_kindOf : Cond.code yX3_kindOf cX3_kindOf 1 (some .int) ∈ TB := to_TB (in_t1 (i := 152) rfl) rfl
theorem wl_L_89 : Cond.methodLink RL 89 yX3_camp ∈ TB := to_TB (in_t1 (i := 153) rfl) rfl
theorem wm_X3_camp : Cond.instanceMethod yX3_camp ∈ TB := to_TB (in_t1 (i := 154) rfl) rfl
theorem we_X3_camp : Cond.selects RX3 yX3_camp yX3_camp ∈ TB := to_TB (in_t1 (i := 155) rfl) rfl
theorem wc_X3_camp : Cond.code yX3_camp cX3_camp 2 (some .int) ∈ TB := to_TB (in_t1 (i := 156) rfl) rfl
theorem wl_X3_49 : Cond.methodLinkNest RX3 49 yX0_isCamp "ColdDepots" ∈ NB := to_NB (in_t1 (i := 157) rfl) rfl
theorem wm_X0_isCamp : Cond.instanceMethod yX0_isCamp ∈ TB := to_TB (in_t1 (i := 159) rfl) rfl
theorem wc_X0_isCamp : Cond.code yX0_isCamp cX0_isCamp 1 (some .boolean) ∈ TB := to_TB (in_t1 (i := 160) rfl) rfl
theorem wl_X0_34 : Cond.methodLink RX0 34 yX0_firstWrong ∈ TB := to_TB (in_t1 (i := 161) rfl) rfl
theorem wl_X3_59 : Cond.methodLinkNest RX3 59 yX0_codeAt "ColdDepots" ∈ NB := to_NB (in_t1 (i := 162) rfl) rfl
theorem wl_X3_63 : Cond.methodLink RX3 63 yX3_kindOf ∈ TB := to_TB (in_t1 (i := 163) rfl) rfl
theorem wl_X3_66 : Cond.methodLink RX3 66 yX3_put ∈ TB := to_TB (in_t1 (i := 164) rfl) rfl
theorem ws_X3_put : Cond.static yX3_put ∈ TB := to_TB (in_t1 (i := 165) rfl) rfl
theorem wc_X3_put : Cond.code yX3_put cX3_put 3 none ∈ TB := to_TB (in_t1 (i := 166) rfl) rfl
theorem wl_X3_70 : Cond.methodLinkNest RX3 70 yX1_all "ColdDepots" ∈ NB := to_NB (in_t1 (i := 167) rfl) rfl
theorem wm_X1_all : Cond.instanceMethod yX1_all ∈ TB := to_TB (in_t1 (i := 169) rfl) rfl
theorem wc_X1_all : Cond.code yX1_all cX1_all 1 (some .int) ∈ TB := to_TB (in_t1 (i := 170) rfl) rfl
theorem wl_X3_73 : Cond.methodLinkNest RX3 73 yX2_begin "ColdDepots" ∈ NB := to_NB (in_t1 (i := 171) rfl) rfl
theorem wm_X2_begin : Cond.instanceMethod yX2_begin ∈ TB := to_TB (in_t1 (i := 173) rfl) rfl
theorem wc_X2_begin : Cond.code yX2_begin cX2_begin 2 none ∈ TB := to_TB (in_t1 (i := 174) rfl) rfl
theorem wl_L_50 : Cond.methodLink RL 50 yX3_member ∈ TB := to_TB (in_t1 (i := 175) rfl) rfl
theorem wm_X3_member : Cond.instanceMethod yX3_member ∈ TB := to_TB (in_t1 (i := 176) rfl) rfl
theorem we_X3_member : Cond.selects RX3 yX3_member yX3_member ∈ TB := to_TB (in_t1 (i := 177) rfl) rfl
theorem wc_X3_member : Cond.code yX3_member cX3_member 4 (some .int) ∈ TB := to_TB (in_t1 (i := 178) rfl) rfl
theorem wl_X3_87 : Cond.methodLink RX3 87 yX3_at ∈ TB := to_TB (in_t1 (i := 179) rfl) rfl
theorem wl_X3_91 : Cond.fieldLink RX3 91 "ColdDepots" "PULLS" "[I" ∈ TB := to_TB (in_t1 (i := 180) rfl) rfl
theorem wz_PULLS : Cond.laysStatic RX3 "PULLS" "[I" ∈ lw_tbl := in_t1 (i := 181) rfl
theorem wl_X3_94 : Cond.fieldLink RX3 94 "ColdDepots" "EATS" "[I" ∈ TB := to_TB (in_t1 (i := 182) rfl) rfl
theorem wz_EATS : Cond.laysStatic RX3 "EATS" "[I" ∈ lw_tbl := in_t1 (i := 183) rfl
theorem wl_X3_97 : Cond.fieldLink RX3 97 "ColdDepots" "FEEDS" "[I" ∈ TB := to_TB (in_t1 (i := 184) rfl) rfl
theorem wz_FEEDS : Cond.laysStatic RX3 "FEEDS" "[I" ∈ lw_tbl := in_t1 (i := 185) rfl
theorem wl_L_96 : Cond.methodLink RL 96 yX3_as ∈ TB := to_TB (in_t1 (i := 186) rfl) rfl
theorem wm_X3_as : Cond.instanceMethod yX3_as ∈ TB := to_TB (in_t1 (i := 187) rfl) rfl
theorem we_X3_as : Cond.selects RX3 yX3_as yX3_as ∈ TB := to_TB (in_t1 (i := 188) rfl) rfl
theorem wc_X3_as : Cond.code yX3_as cX3_as 3 (some .int) ∈ TB := to_TB (in_t1 (i := 189) rfl) rfl
theorem wl_X3_103 : Cond.methodLink RX3 103 yX3_isOf ∈ TB := to_TB (in_t1 (i := 190) rfl) rfl
theorem ws_X3_isOf : Cond.static yX3_isOf ∈ TB := to_TB (in_t1 (i := 191) rfl) rfl
theorem wc_X3_isOf : Cond.code yX3_isOf cX3_isOf 2 (some .boolean) ∈ TB := to_TB (in_t1 (i := 192) rfl) rfl
theorem wl_L_53 : Cond.methodLink RL 53 yX3_cairn ∈ TB := to_TB (in_t1 (i := 193) rfl) rfl
theorem wm_X3_cairn : Cond.instanceMethod yX3_cairn ∈ TB := to_TB (in_t1 (i := 194) rfl) rfl
theorem we_X3_cairn : Cond.selects RX3 yX3_cairn yX3_cairn ∈ TB := to_TB (in_t1 (i := 195) rfl) rfl
theorem wc_X3_cairn : Cond.code yX3_cairn cX3_cairn 3 (some .int) ∈ TB := to_TB (in_t1 (i := 196) rfl) rfl
theorem wl_X3_107 : Cond.methodLink RX3 107 yX3_isNoCairn ∈ TB := to_TB (in_t1 (i := 197) rfl) rfl
theorem wm_X3_isNoCairn : Cond.instanceMethod yX3_isNoCairn ∈ TB := to_TB (in_t1 (i := 199) rfl) rfl
theorem wc_X3_isNoCairn : Cond.code yX3_isNoCairn cX3_isNoCairn 2 (some .boolean) ∈ TB := to_TB (in_t1 (i := 200) rfl) rfl
theorem wl_X3_110 : Cond.methodLink RX3 110 yX3_amountsAt ∈ TB := to_TB (in_t1 (i := 201) rfl) rfl
theorem wm_X3_amountsAt : Cond.instanceMethod yX3_amountsAt ∈ TB := to_TB (in_t1 (i := 203) rfl) rfl
theorem wc_X3_amountsAt : Cond.code yX3_amountsAt cX3_amountsAt 4 (some .int) ∈ TB := to_TB (in_t1 (i := 204) rfl) rfl
theorem wl_X3_217 : Cond.methodLink RX3 217 yX3_isAllSo ∈ TB := to_TB (in_t1 (i := 205) rfl) rfl
theorem wm_X3_isAllSo : Cond.instanceMethod yX3_isAllSo ∈ TB := to_TB (in_t1 (i := 207) rfl) rfl
theorem wc_X3_isAllSo : Cond.code yX3_isAllSo cX3_isAllSo 6 (some .boolean) ∈ TB := to_TB (in_t1 (i := 208) rfl) rfl
theorem wl_X3_124 : Cond.methodLinkNest RX3 124 yX1_setCairns "ColdDepots" ∈ NB := to_NB (in_t1 (i := 209) rfl) rfl
theorem wm_X1_setCairns : Cond.instanceMethod yX1_setCairns ∈ TB := to_TB (in_t1 (i := 211) rfl) rfl
theorem wc_X1_setCairns : Cond.code yX1_setCairns cX1_setCairns 2 none ∈ TB := to_TB (in_t1 (i := 212) rfl) rfl
theorem wl_X1_26 : Cond.methodLinkNest RX1 26 yX3_copy "ColdDepots" ∈ NB := to_NB (in_t1 (i := 213) rfl) rfl
theorem ws_X3_copy : Cond.static yX3_copy ∈ TB := to_TB (in_t1 (i := 214) rfl) rfl
theorem wc_X3_copy : Cond.code yX3_copy cX3_copy 3 none ∈ TB := to_TB (in_t1 (i := 215) rfl) rfl
theorem wl_X3_128 : Cond.methodLinkNest RX3 128 yX1_go "ColdDepots" ∈ NB := to_NB (in_t1 (i := 216) rfl) rfl
theorem wm_X1_go : Cond.instanceMethod yX1_go ∈ TB := to_TB (in_t1 (i := 218) rfl) rfl
theorem wc_X1_go : Cond.code yX1_go cX1_go 6 (some .boolean) ∈ TB := to_TB (in_t1 (i := 219) rfl) rfl
theorem wl_X1_30 : Cond.methodLink RX1 30 yX1_setOut ∈ TB := to_TB (in_t1 (i := 220) rfl) rfl
theorem wm_X1_setOut : Cond.instanceMethod yX1_setOut ∈ TB := to_TB (in_t1 (i := 222) rfl) rfl
theorem wc_X1_setOut : Cond.code yX1_setOut cX1_setOut 3 none ∈ TB := to_TB (in_t1 (i := 223) rfl) rfl
theorem wl_X1_56 : Cond.fieldLinkNest RX1 56 "ColdDepots" "PULLS" "[I" "ColdDepots" ∈ NB := to_NB (in_t1 (i := 224) rfl) rfl
theorem wl_X1_59 : Cond.methodLink RX1 59 yX1_together ∈ TB := to_TB (in_t1 (i := 225) rfl) rfl
theorem wm_X1_together : Cond.instanceMethod yX1_together ∈ TB := to_TB (in_t1 (i := 227) rfl) rfl
theorem wc_X1_together : Cond.code yX1_together cX1_together 5 (some .int) ∈ TB := to_TB (in_t1 (i := 228) rfl) rfl
theorem wl_X1_22 : Cond.methodLinkNest RX1 22 yX3_at "ColdDepots" ∈ NB := to_NB (in_t1 (i := 229) rfl) rfl
theorem wl_X1_66 : Cond.fieldLinkNest RX1 66 "ColdDepots" "EATS" "[I" "ColdDepots" ∈ NB := to_NB (in_t1 (i := 230) rfl) rfl
theorem wl_X1_69 : Cond.methodLink RX1 69 yJ9_min_7cf53 ∈ TB := to_TB (in_t1 (i := 231) rfl) rfl
theorem ws_J9_min_7cf53 : Cond.static yJ9_min_7cf53 ∈ TB := to_TB (in_t1 (i := 232) rfl) rfl
theorem wc_J9_min_7cf53 : Cond.code yJ9_min_7cf53 cJ9_min_7cf53 2 (some .int) ∈ TB := to_TB (in_t1 (i := 233) rfl) rfl
theorem wl_X1_34 : Cond.methodLink RX1 34 yX1_eatPonies ∈ TB := to_TB (in_t1 (i := 234) rfl) rfl
theorem wm_X1_eatPonies : Cond.instanceMethod yX1_eatPonies ∈ TB := to_TB (in_t1 (i := 236) rfl) rfl
theorem wc_X1_eatPonies : Cond.code yX1_eatPonies cX1_eatPonies 2 none ∈ TB := to_TB (in_t1 (i := 237) rfl) rfl
theorem wl_X1_78 : Cond.methodLink RX1 78 yX1_devour ∈ TB := to_TB (in_t1 (i := 238) rfl) rfl
theorem wm_X1_devour : Cond.instanceMethod yX1_devour ∈ TB := to_TB (in_t2 (i := 0) rfl) rfl
theorem wc_X1_devour : Cond.code yX1_devour cX1_devour 3 none ∈ TB := to_TB (in_t2 (i := 1) rfl) rfl
theorem wl_X1_85 : Cond.fieldLinkNest RX1 85 "ColdDepots" "FEEDS" "[I" "ColdDepots" ∈ NB := to_NB (in_t2 (i := 2) rfl) rfl
theorem wl_X1_37 : Cond.methodLink RX1 37 yX1_eatBeasts ∈ TB := to_TB (in_t2 (i := 3) rfl) rfl
theorem wm_X1_eatBeasts : Cond.instanceMethod yX1_eatBeasts ∈ TB := to_TB (in_t2 (i := 5) rfl) rfl
theorem wc_X1_eatBeasts : Cond.code yX1_eatBeasts cX1_eatBeasts 3 none ∈ TB := to_TB (in_t2 (i := 6) rfl) rfl
theorem wl_X1_81 : Cond.methodLinkNest RX1 81 yX3_isOf "ColdDepots" ∈ NB := to_NB (in_t2 (i := 7) rfl) rfl
theorem wl_X1_49 : Cond.methodLink RX1 49 yX1_dieOn ∈ TB := to_TB (in_t2 (i := 8) rfl) rfl
theorem wm_X1_dieOn : Cond.instanceMethod yX1_dieOn ∈ TB := to_TB (in_t2 (i := 10) rfl) rfl
theorem wc_X1_dieOn : Cond.code yX1_dieOn cX1_dieOn 2 none ∈ TB := to_TB (in_t2 (i := 11) rfl) rfl
theorem wl_X1_53 : Cond.methodLink RX1 53 yX1_takeUpAt ∈ TB := to_TB (in_t2 (i := 12) rfl) rfl
theorem wm_X1_takeUpAt : Cond.instanceMethod yX1_takeUpAt ∈ TB := to_TB (in_t2 (i := 14) rfl) rfl
theorem wc_X1_takeUpAt : Cond.code yX1_takeUpAt cX1_takeUpAt 3 none ∈ TB := to_TB (in_t2 (i := 15) rfl) rfl
theorem wl_X1_88 : Cond.methodLinkNest RX1 88 yX3_put "ColdDepots" ∈ NB := to_NB (in_t2 (i := 16) rfl) rfl
theorem wl_X3_113 : Cond.methodLink RX3 113 yX3_bestTrial ∈ TB := to_TB (in_t2 (i := 17) rfl) rfl
theorem wm_X3_bestTrial : Cond.instanceMethod yX3_bestTrial ∈ TB := to_TB (in_t2 (i := 19) rfl) rfl
theorem wc_X3_bestTrial : Cond.code yX3_bestTrial cX3_bestTrial 8 (some .int) ∈ TB := to_TB (in_t2 (i := 20) rfl) rfl
theorem wl_X3_187 : Cond.methodLink RX3 187 yJ6_bitCount_0f7a4 ∈ TB := to_TB (in_t2 (i := 21) rfl) rfl
theorem ws_J6_bitCount_0f7a4 : Cond.static yJ6_bitCount_0f7a4 ∈ TB := to_TB (in_t2 (i := 22) rfl) rfl
theorem wc_J6_bitCount_0f7a4 : Cond.code yJ6_bitCount_0f7a4 cJ6_bitCount_0f7a4 1 (some .int) ∈ TB := to_TB (in_t2 (i := 23) rfl) rfl
theorem wl_J6_265 : Cond.constant RJ6 265 1431655765 ∈ TB := to_TB (in_t2 (i := 24) rfl) rfl
theorem wl_J6_266 : Cond.constant RJ6 266 858993459 ∈ TB := to_TB (in_t2 (i := 25) rfl) rfl
theorem wl_J6_267 : Cond.constant RJ6 267 252645135 ∈ TB := to_TB (in_t2 (i := 26) rfl) rfl
theorem wl_X3_214 : Cond.methodLink RX3 214 yX3_mostFoodOf ∈ TB := to_TB (in_t2 (i := 27) rfl) rfl
theorem wm_X3_mostFoodOf : Cond.instanceMethod yX3_mostFoodOf ∈ TB := to_TB (in_t2 (i := 29) rfl) rfl
theorem wc_X3_mostFoodOf : Cond.code yX3_mostFoodOf cX3_mostFoodOf 2 (some .int) ∈ TB := to_TB (in_t2 (i := 30) rfl) rfl
theorem wl_X3_192 : Cond.methodLinkNest RX3 192 yX1_together "ColdDepots" ∈ NB := to_NB (in_t2 (i := 31) rfl) rfl
theorem wl_X3_209 : Cond.methodLink RX3 209 yJ9_min_7cf53 ∈ TB := to_TB (in_t2 (i := 32) rfl) rfl
theorem wl_X3_232 : Cond.methodLink RX3 232 yX3_leftAtWorst ∈ TB := to_TB (in_t2 (i := 33) rfl) rfl
theorem wm_X3_leftAtWorst : Cond.instanceMethod yX3_leftAtWorst ∈ TB := to_TB (in_t2 (i := 35) rfl) rfl
theorem wc_X3_leftAtWorst : Cond.code yX3_leftAtWorst cX3_leftAtWorst 6 (some .int) ∈ TB := to_TB (in_t2 (i := 36) rfl) rfl
theorem wl_X3_236 : Cond.methodLink RX3 236 yJ9_max_7cf53 ∈ TB := to_TB (in_t2 (i := 37) rfl) rfl
theorem ws_J9_max_7cf53 : Cond.static yJ9_max_7cf53 ∈ TB := to_TB (in_t2 (i := 38) rfl) rfl
theorem wc_J9_max_7cf53 : Cond.code yJ9_max_7cf53 cJ9_max_7cf53 2 (some .int) ∈ TB := to_TB (in_t2 (i := 39) rfl) rfl
theorem wl_L_66 : Cond.methodLink RL 66 yX3_lay ∈ TB := to_TB (in_t2 (i := 40) rfl) rfl
theorem wm_X3_lay : Cond.instanceMethod yX3_lay ∈ TB := to_TB (in_t2 (i := 41) rfl) rfl
theorem we_X3_lay : Cond.selects RX3 yX3_lay yX3_lay ∈ TB := to_TB (in_t2 (i := 42) rfl) rfl
theorem wc_X3_lay : Cond.code yX3_lay cX3_lay 4 (some .int) ∈ TB := to_TB (in_t2 (i := 43) rfl) rfl
theorem wl_L_69 : Cond.methodLink RL 69 yX3_march ∈ TB := to_TB (in_t2 (i := 44) rfl) rfl
theorem wm_X3_march : Cond.instanceMethod yX3_march ∈ TB := to_TB (in_t2 (i := 45) rfl) rfl
theorem we_X3_march : Cond.selects RX3 yX3_march yX3_march ∈ TB := to_TB (in_t2 (i := 46) rfl) rfl
theorem wc_X3_march : Cond.code yX3_march cX3_march 4 (some .int) ∈ TB := to_TB (in_t2 (i := 47) rfl) rfl
theorem wl_X3_117 : Cond.methodLink RX3 117 yX3_isNoMarch ∈ TB := to_TB (in_t2 (i := 48) rfl) rfl
theorem wm_X3_isNoMarch : Cond.instanceMethod yX3_isNoMarch ∈ TB := to_TB (in_t2 (i := 50) rfl) rfl
theorem wc_X3_isNoMarch : Cond.code yX3_isNoMarch cX3_isNoMarch 4 (some .boolean) ∈ TB := to_TB (in_t2 (i := 51) rfl) rfl
theorem wl_X3_153 : Cond.methodLink RX3 153 yX3_isNobody ∈ TB := to_TB (in_t2 (i := 52) rfl) rfl
theorem wm_X3_isNobody : Cond.instanceMethod yX3_isNobody ∈ TB := to_TB (in_t2 (i := 54) rfl) rfl
theorem wc_X3_isNobody : Cond.code yX3_isNobody cX3_isNobody 2 (some .boolean) ∈ TB := to_TB (in_t2 (i := 55) rfl) rfl
theorem wl_X3_156 : Cond.methodLink RX3 156 yX3_isNoStage ∈ TB := to_TB (in_t2 (i := 56) rfl) rfl
theorem ws_X3_isNoStage : Cond.static yX3_isNoStage ∈ TB := to_TB (in_t2 (i := 57) rfl) rfl
theorem wc_X3_isNoStage : Cond.code yX3_isNoStage cX3_isNoStage 1 (some .boolean) ∈ TB := to_TB (in_t2 (i := 58) rfl) rfl
theorem wl_X3_121 : Cond.methodLink RX3 121 yX3_anyIsDead ∈ TB := to_TB (in_t2 (i := 59) rfl) rfl
theorem wm_X3_anyIsDead : Cond.instanceMethod yX3_anyIsDead ∈ TB := to_TB (in_t2 (i := 61) rfl) rfl
theorem wc_X3_anyIsDead : Cond.code yX3_anyIsDead cX3_anyIsDead 2 (some .boolean) ∈ TB := to_TB (in_t2 (i := 62) rfl) rfl
theorem wl_X3_133 : Cond.methodLink RX3 133 yX3_copy ∈ TB := to_TB (in_t2 (i := 63) rfl) rfl
theorem wl_L_103 : Cond.methodLink RL 103 yX3_would ∈ TB := to_TB (in_t2 (i := 64) rfl) rfl
theorem wm_X3_would : Cond.instanceMethod yX3_would ∈ TB := to_TB (in_t2 (i := 65) rfl) rfl
theorem we_X3_would : Cond.selects RX3 yX3_would yX3_would ∈ TB := to_TB (in_t2 (i := 66) rfl) rfl
theorem wc_X3_would : Cond.code yX3_would cX3_would 5 (some .int) ∈ TB := to_TB (in_t2 (i := 67) rfl) rfl
theorem wl_X3_146 : Cond.methodLink RX3 146 yX3_sum ∈ TB := to_TB (in_t2 (i := 68) rfl) rfl
theorem ws_X3_sum : Cond.static yX3_sum ∈ TB := to_TB (in_t2 (i := 69) rfl) rfl
theorem wc_X3_sum : Cond.code yX3_sum cX3_sum 3 (some .int) ∈ TB := to_TB (in_t2 (i := 70) rfl) rfl
theorem wl_L_112 : Cond.methodLink RL 112 yX3_winters ∈ TB := to_TB (in_t2 (i := 71) rfl) rfl
theorem wm_X3_winters : Cond.instanceMethod yX3_winters ∈ TB := to_TB (in_t2 (i := 72) rfl) rfl
theorem we_X3_winters : Cond.selects RX3 yX3_winters yX3_winters ∈ TB := to_TB (in_t2 (i := 73) rfl) rfl
theorem wc_X3_winters : Cond.code yX3_winters cX3_winters 5 (some .int) ∈ TB := to_TB (in_t2 (i := 74) rfl) rfl
theorem wl_X3_180 : Cond.methodLink RX3 180 yX3_letCreep ∈ TB := to_TB (in_t2 (i := 75) rfl) rfl
theorem wm_X3_letCreep : Cond.instanceMethod yX3_letCreep ∈ TB := to_TB (in_t2 (i := 77) rfl) rfl
theorem wc_X3_letCreep : Cond.code yX3_letCreep cX3_letCreep 7 (some .int) ∈ TB := to_TB (in_t2 (i := 78) rfl) rfl
theorem wl_X3_239 : Cond.methodLink RX3 239 yX3_nextSeed ∈ TB := to_TB (in_t2 (i := 79) rfl) rfl
theorem ws_X3_nextSeed : Cond.static yX3_nextSeed ∈ TB := to_TB (in_t2 (i := 80) rfl) rfl
theorem wc_X3_nextSeed : Cond.code yX3_nextSeed cX3_nextSeed 1 (some .int) ∈ TB := to_TB (in_t2 (i := 81) rfl) rfl
theorem wl_X3_242 : Cond.constant RX3 242 1103515245 ∈ TB := to_TB (in_t2 (i := 82) rfl) rfl
theorem wl_X3_243 : Cond.constant RX3 243 2147483647 ∈ TB := to_TB (in_t2 (i := 83) rfl) rfl
theorem wl_X3_163 : Cond.methodLink RX3 163 yX3_farthest ∈ TB := to_TB (in_t2 (i := 84) rfl) rfl
theorem wm_X3_farthest : Cond.instanceMethod yX3_farthest ∈ TB := to_TB (in_t2 (i := 86) rfl) rfl
theorem wc_X3_farthest : Cond.code yX3_farthest cX3_farthest 4 (some .int) ∈ TB := to_TB (in_t2 (i := 87) rfl) rfl
theorem wl_X3_159 : Cond.methodLink RX3 159 yX3_leastFood ∈ TB := to_TB (in_t2 (i := 88) rfl) rfl
theorem wm_X3_leastFood : Cond.instanceMethod yX3_leastFood ∈ TB := to_TB (in_t2 (i := 90) rfl) rfl
theorem wc_X3_leastFood : Cond.code yX3_leastFood cX3_leastFood 6 (some .int) ∈ TB := to_TB (in_t2 (i := 91) rfl) rfl
theorem wl_L_73 : Cond.methodLink RL 73 yL_cell ∈ TB := to_TB (in_t2 (i := 92) rfl) rfl
theorem ws_L_cell : Cond.static yL_cell ∈ TB := to_TB (in_t2 (i := 93) rfl) rfl
theorem wc_L_cell : Cond.code yL_cell cL_cell 2 (some .int) ∈ TB := to_TB (in_t2 (i := 94) rfl) rfl
theorem wl_L_7 : Cond.constant RL 7 747796405 ∈ TB := to_TB (in_t2 (i := 95) rfl) rfl
theorem wl_L_8 : Cond.methodLink RL 8 yL_at ∈ TB := to_TB (in_t2 (i := 96) rfl) rfl
theorem ws_L_at : Cond.static yL_at ∈ TB := to_TB (in_t2 (i := 97) rfl) rfl
theorem wc_L_at : Cond.code yL_at cL_at 2 (some .int) ∈ TB := to_TB (in_t2 (i := 98) rfl) rfl
theorem wl_L_77 : Cond.methodLink RL 77 yL_campText ∈ TB := to_TB (in_t2 (i := 99) rfl) rfl
theorem ws_L_campText : Cond.static yL_campText ∈ TB := to_TB (in_t2 (i := 100) rfl) rfl
theorem wc_L_campText : Cond.code yL_campText cL_campText 7 (some .int) ∈ TB := to_TB (in_t2 (i := 101) rfl) rfl
theorem wl_L_81 : Cond.methodLink RL 81 yL_write ∈ TB := to_TB (in_t2 (i := 102) rfl) rfl
theorem ws_L_write : Cond.static yL_write ∈ TB := to_TB (in_t2 (i := 103) rfl) rfl
theorem wc_L_write : Cond.code yL_write cL_write 4 (some .boolean) ∈ TB := to_TB (in_t2 (i := 104) rfl) rfl
theorem wl_L_14 : Cond.methodLink RL 14 yX3_letter ∈ TB := to_TB (in_t2 (i := 105) rfl) rfl
theorem wm_X3_letter : Cond.instanceMethod yX3_letter ∈ TB := to_TB (in_t2 (i := 106) rfl) rfl
theorem we_X3_letter : Cond.selects RX3 yX3_letter yX3_letter ∈ TB := to_TB (in_t2 (i := 107) rfl) rfl
theorem wc_X3_letter : Cond.code yX3_letter cX3_letter 2 (some .int) ∈ TB := to_TB (in_t2 (i := 108) rfl) rfl
theorem wl_X3_37 : Cond.methodLinkNest RX3 37 yX0_add "ColdDepots" ∈ NB := to_NB (in_t2 (i := 109) rfl) rfl
theorem wm_X0_add : Cond.instanceMethod yX0_add ∈ TB := to_TB (in_t2 (i := 111) rfl) rfl
theorem wc_X0_add : Cond.code yX0_add cX0_add 2 (some .boolean) ∈ TB := to_TB (in_t2 (i := 112) rfl) rfl
theorem wl_X0_19 : Cond.methodLinkNest RX0 19 yX3_put "ColdDepots" ∈ NB := to_NB (in_t2 (i := 113) rfl) rfl
theorem wl_L_38 : Cond.methodLink RL 38 yL_march ∈ TB := to_TB (in_t2 (i := 114) rfl) rfl
theorem ws_L_march : Cond.static yL_march ∈ TB := to_TB (in_t2 (i := 115) rfl) rfl
theorem wc_L_march : Cond.code yL_march cL_march 10 none ∈ TB := to_TB (in_t2 (i := 116) rfl) rfl
theorem wl_L_27 : Cond.methodLink RL 27 yL_sum ∈ TB := to_TB (in_t2 (i := 117) rfl) rfl
theorem ws_L_sum : Cond.static yL_sum ∈ TB := to_TB (in_t2 (i := 118) rfl) rfl
theorem wc_L_sum : Cond.code yL_sum cL_sum 5 (some .int) ∈ TB := to_TB (in_t2 (i := 119) rfl) rfl
theorem wl_L_20 : Cond.methodLink RL 20 yL_in ∈ TB := to_TB (in_t2 (i := 120) rfl) rfl
theorem ws_L_in : Cond.static yL_in ∈ TB := to_TB (in_t2 (i := 121) rfl) rfl
theorem wc_L_in : Cond.code yL_in cL_in 2 (some .boolean) ∈ TB := to_TB (in_t2 (i := 122) rfl) rfl
theorem wl_L_24 : Cond.methodLink RL 24 yL_pulls ∈ TB := to_TB (in_t2 (i := 123) rfl) rfl
theorem ws_L_pulls : Cond.static yL_pulls ∈ TB := to_TB (in_t2 (i := 124) rfl) rfl
theorem wc_L_pulls : Cond.code yL_pulls cL_pulls 1 (some .int) ∈ TB := to_TB (in_t2 (i := 125) rfl) rfl
theorem wl_L_31 : Cond.methodLink RL 31 yL_feeds ∈ TB := to_TB (in_t2 (i := 126) rfl) rfl
theorem ws_L_feeds : Cond.static yL_feeds ∈ TB := to_TB (in_t2 (i := 127) rfl) rfl
theorem wc_L_feeds : Cond.code yL_feeds cL_feeds 1 (some .int) ∈ TB := to_TB (in_t2 (i := 128) rfl) rfl
theorem wl_L_62 : Cond.methodLink RL 62 yL_lying ∈ TB := to_TB (in_t2 (i := 129) rfl) rfl
theorem ws_L_lying : Cond.static yL_lying ∈ TB := to_TB (in_t2 (i := 130) rfl) rfl
theorem wc_L_lying : Cond.code yL_lying cL_lying 1 (some .int) ∈ TB := to_TB (in_t2 (i := 131) rfl) rfl
theorem wl_L_34 : Cond.methodLink RL 34 yL_over ∈ TB := to_TB (in_t2 (i := 132) rfl) rfl
theorem ws_L_over : Cond.static yL_over ∈ TB := to_TB (in_t2 (i := 133) rfl) rfl
theorem wc_L_over : Cond.code yL_over cL_over 3 none ∈ TB := to_TB (in_t2 (i := 134) rfl) rfl
theorem wl_L_92 : Cond.methodLink RL 92 yL_stands ∈ TB := to_TB (in_t2 (i := 135) rfl) rfl
theorem ws_L_stands : Cond.static yL_stands ∈ TB := to_TB (in_t2 (i := 136) rfl) rfl
theorem wc_L_stands : Cond.code yL_stands cL_stands 4 (some .boolean) ∈ TB := to_TB (in_t2 (i := 137) rfl) rfl
theorem wl_L_56 : Cond.methodLink RL 56 yX3_count ∈ TB := to_TB (in_t2 (i := 138) rfl) rfl
theorem wm_X3_count : Cond.instanceMethod yX3_count ∈ TB := to_TB (in_t2 (i := 139) rfl) rfl
theorem we_X3_count : Cond.selects RX3 yX3_count yX3_count ∈ TB := to_TB (in_t2 (i := 140) rfl) rfl
theorem wc_X3_count : Cond.code yX3_count cX3_count 2 (some .int) ∈ TB := to_TB (in_t2 (i := 141) rfl) rfl
theorem wl_L_59 : Cond.methodLink RL 59 yL_size ∈ TB := to_TB (in_t2 (i := 142) rfl) rfl
theorem ws_L_size : Cond.static yL_size ∈ TB := to_TB (in_t2 (i := 143) rfl) rfl
theorem wc_L_size : Cond.code yL_size cL_size 3 (some .int) ∈ TB := to_TB (in_t2 (i := 144) rfl) rfl
theorem wl_L_99 : Cond.methodLink RL 99 yL_does ∈ TB := to_TB (in_t2 (i := 145) rfl) rfl
theorem ws_L_does : Cond.static yL_does ∈ TB := to_TB (in_t2 (i := 146) rfl) rfl
theorem wc_L_does : Cond.code yL_does cL_does 8 (some .boolean) ∈ TB := to_TB (in_t2 (i := 147) rfl) rfl
theorem wl_L_108 : Cond.methodLink RL 108 yL_winters ∈ TB := to_TB (in_t2 (i := 148) rfl) rfl
theorem ws_L_winters : Cond.static yL_winters ∈ TB := to_TB (in_t2 (i := 149) rfl) rfl
theorem wc_L_winters : Cond.code yL_winters cL_winters 12 (some .boolean) ∈ TB := to_TB (in_t2 (i := 150) rfl) rfl
theorem wl_L_114 : Cond.constantLong RL 114 1103515245 ∈ TB := to_TB (in_t2 (i := 151) rfl) rfl
theorem wl_L_116 : Cond.constantLong RL 116 12345 ∈ TB := to_TB (in_t2 (i := 152) rfl) rfl
theorem wl_L_118 : Cond.constantLong RL 118 2147483648 ∈ TB := to_TB (in_t2 (i := 153) rfl) rfl
theorem wl_L_120 : Cond.constantLong RL 120 65536 ∈ TB := to_TB (in_t2 (i := 154) rfl) rfl
theorem wl_L_122 : Cond.constantLong RL 122 3 ∈ TB := to_TB (in_t2 (i := 155) rfl) rfl
theorem wl_L_124 : Cond.methodLink RL 124 yL_far ∈ TB := to_TB (in_t2 (i := 156) rfl) rfl
theorem ws_L_far : Cond.static yL_far ∈ TB := to_TB (in_t2 (i := 157) rfl) rfl
theorem wc_L_far : Cond.code yL_far cL_far 6 (some .int) ∈ TB := to_TB (in_t2 (i := 158) rfl) rfl
theorem wl_L_46 : Cond.methodLink RL 46 yL_need ∈ TB := to_TB (in_t2 (i := 159) rfl) rfl
theorem ws_L_need : Cond.static yL_need ∈ TB := to_TB (in_t2 (i := 160) rfl) rfl
theorem wc_L_need : Cond.code yL_need cL_need 7 (some .int) ∈ TB := to_TB (in_t2 (i := 161) rfl) rfl
theorem wl_L_42 : Cond.methodLink RL 42 yL_home ∈ TB := to_TB (in_t2 (i := 162) rfl) rfl
theorem ws_L_home : Cond.static yL_home ∈ TB := to_TB (in_t2 (i := 163) rfl) rfl
theorem wc_L_home : Cond.code yL_home cL_home 7 (some .boolean) ∈ TB := to_TB (in_t2 (i := 164) rfl) rfl
theorem wl_L_107 : Cond.constant RL 107 2147483647 ∈ TB := to_TB (in_t2 (i := 165) rfl) rfl
theorem we_X0_firstWrong : Cond.selects RX0 yX0_firstWrong yX0_firstWrong ∈ TB := to_TB (in_sel (in_p1 (i := 0) rfl)) rfl
theorem we_X0_codeAt : Cond.selects RX0 yX0_codeAt yX0_codeAt ∈ TB := to_TB (in_sel (in_p1 (i := 1) rfl)) rfl
theorem we_X0_isCamp : Cond.selects RX0 yX0_isCamp yX0_isCamp ∈ TB := to_TB (in_sel (in_p1 (i := 2) rfl)) rfl
theorem we_X1_all : Cond.selects RX1 yX1_all yX1_all ∈ TB := to_TB (in_sel (in_p1 (i := 3) rfl)) rfl
theorem we_X2_begin : Cond.selects RX2 yX2_begin yX2_begin ∈ TB := to_TB (in_sel (in_p1 (i := 4) rfl)) rfl
theorem we_X3_isNoCairn : Cond.selects RX3 yX3_isNoCairn yX3_isNoCairn ∈ TB := to_TB (in_sel (in_p1 (i := 5) rfl)) rfl
theorem we_X3_amountsAt : Cond.selects RX3 yX3_amountsAt yX3_amountsAt ∈ TB := to_TB (in_sel (in_p1 (i := 6) rfl)) rfl
theorem we_X3_isAllSo : Cond.selects RX3 yX3_isAllSo yX3_isAllSo ∈ TB := to_TB (in_sel (in_p1 (i := 7) rfl)) rfl
theorem we_X1_setCairns : Cond.selects RX1 yX1_setCairns yX1_setCairns ∈ TB := to_TB (in_sel (in_p1 (i := 8) rfl)) rfl
theorem we_X1_go : Cond.selects RX1 yX1_go yX1_go ∈ TB := to_TB (in_sel (in_p1 (i := 9) rfl)) rfl
theorem we_X1_setOut : Cond.selects RX1 yX1_setOut yX1_setOut ∈ TB := to_TB (in_sel (in_p1 (i := 10) rfl)) rfl
theorem we_X1_together : Cond.selects RX1 yX1_together yX1_together ∈ TB := to_TB (in_sel (in_p1 (i := 11) rfl)) rfl
theorem we_X1_eatPonies : Cond.selects RX1 yX1_eatPonies yX1_eatPonies ∈ TB := to_TB (in_sel (in_p1 (i := 12) rfl)) rfl
theorem we_X1_devour : Cond.selects RX1 yX1_devour yX1_devour ∈ TB := to_TB (in_sel (in_p1 (i := 13) rfl)) rfl
theorem we_X1_eatBeasts : Cond.selects RX1 yX1_eatBeasts yX1_eatBeasts ∈ TB := to_TB (in_sel (in_p1 (i := 14) rfl)) rfl
theorem we_X1_dieOn : Cond.selects RX1 yX1_dieOn yX1_dieOn ∈ TB := to_TB (in_sel (in_p1 (i := 15) rfl)) rfl
theorem we_X1_takeUpAt : Cond.selects RX1 yX1_takeUpAt yX1_takeUpAt ∈ TB := to_TB (in_sel (in_p2 (i := 0) rfl)) rfl
theorem we_X3_bestTrial : Cond.selects RX3 yX3_bestTrial yX3_bestTrial ∈ TB := to_TB (in_sel (in_p2 (i := 1) rfl)) rfl
theorem we_X3_mostFoodOf : Cond.selects RX3 yX3_mostFoodOf yX3_mostFoodOf ∈ TB := to_TB (in_sel (in_p2 (i := 2) rfl)) rfl
theorem we_X3_leftAtWorst : Cond.selects RX3 yX3_leftAtWorst yX3_leftAtWorst ∈ TB := to_TB (in_sel (in_p2 (i := 3) rfl)) rfl
theorem we_X3_isNoMarch : Cond.selects RX3 yX3_isNoMarch yX3_isNoMarch ∈ TB := to_TB (in_sel (in_p2 (i := 4) rfl)) rfl
theorem we_X3_isNobody : Cond.selects RX3 yX3_isNobody yX3_isNobody ∈ TB := to_TB (in_sel (in_p2 (i := 5) rfl)) rfl
theorem we_X3_anyIsDead : Cond.selects RX3 yX3_anyIsDead yX3_anyIsDead ∈ TB := to_TB (in_sel (in_p2 (i := 6) rfl)) rfl
theorem we_X3_letCreep : Cond.selects RX3 yX3_letCreep yX3_letCreep ∈ TB := to_TB (in_sel (in_p2 (i := 7) rfl)) rfl
theorem we_X3_farthest : Cond.selects RX3 yX3_farthest yX3_farthest ∈ TB := to_TB (in_sel (in_p2 (i := 8) rfl)) rfl
theorem we_X3_leastFood : Cond.selects RX3 yX3_leastFood yX3_leastFood ∈ TB := to_TB (in_sel (in_p2 (i := 9) rfl)) rfl
theorem we_X0_add : Cond.selects RX0 yX0_add yX0_add ∈ TB := to_TB (in_sel (in_p2 (i := 10) rfl)) rfl
theorem wf_X0_0 : u_lay RX0 TX0 0 ∈ TB := to_TB (in_t1 (i := 24) rfl) rfl
theorem wf_X0_1 : u_lay RX0 TX0 1 ∈ TB := to_TB (in_t1 (i := 26) rfl) rfl
theorem wf_X0 : ∀ w ∈ u_ws RX0 TX0 2, w ∈ TB := fun w hw => by
  obtain ⟨k, hk, rfl⟩ := List.mem_map.mp hw
  have hk := List.mem_range.mp hk
  match k, hk with
  | 0, _ => exact wf_X0_0
  | 1, _ => exact wf_X0_1
  | k + 2, hk => exact absurd hk (by omega)
theorem wf_X1_0 : u_lay RX1 TX1 0 ∈ TB := to_TB (in_t1 (i := 50) rfl) rfl
theorem wf_X1_1 : u_lay RX1 TX1 1 ∈ TB := to_TB (in_t1 (i := 52) rfl) rfl
theorem wf_X1_2 : u_lay RX1 TX1 2 ∈ TB := to_TB (in_t1 (i := 54) rfl) rfl
theorem wf_X1_3 : u_lay RX1 TX1 3 ∈ TB := to_TB (in_t1 (i := 56) rfl) rfl
theorem wf_X1_4 : u_lay RX1 TX1 4 ∈ TB := to_TB (in_t1 (i := 58) rfl) rfl
theorem wf_X1_5 : u_lay RX1 TX1 5 ∈ TB := to_TB (in_t1 (i := 60) rfl) rfl
theorem wf_X1_6 : u_lay RX1 TX1 6 ∈ TB := to_TB (in_t1 (i := 62) rfl) rfl
theorem wf_X1_7 : u_lay RX1 TX1 7 ∈ TB := to_TB (in_t1 (i := 64) rfl) rfl
theorem wf_X1 : ∀ w ∈ u_ws RX1 TX1 8, w ∈ TB := fun w hw => by
  obtain ⟨k, hk, rfl⟩ := List.mem_map.mp hw
  have hk := List.mem_range.mp hk
  match k, hk with
  | 0, _ => exact wf_X1_0
  | 1, _ => exact wf_X1_1
  | 2, _ => exact wf_X1_2
  | 3, _ => exact wf_X1_3
  | 4, _ => exact wf_X1_4
  | 5, _ => exact wf_X1_5
  | 6, _ => exact wf_X1_6
  | 7, _ => exact wf_X1_7
  | k + 8, hk => exact absurd hk (by omega)
theorem wf_X2_0 : u_lay RX2 TX2 0 ∈ TB := to_TB (in_t1 (i := 91) rfl) rfl
theorem wf_X2_1 : u_lay RX2 TX2 1 ∈ TB := to_TB (in_t1 (i := 93) rfl) rfl
theorem wf_X2_2 : u_lay RX2 TX2 2 ∈ TB := to_TB (in_t1 (i := 95) rfl) rfl
theorem wf_X2_3 : u_lay RX2 TX2 3 ∈ TB := to_TB (in_t1 (i := 97) rfl) rfl
theorem wf_X2_4 : u_lay RX2 TX2 4 ∈ TB := to_TB (in_t1 (i := 99) rfl) rfl
theorem wf_X2_5 : u_lay RX2 TX2 5 ∈ TB := to_TB (in_t1 (i := 101) rfl) rfl
theorem wf_X2_6 : u_lay RX2 TX2 6 ∈ TB := to_TB (in_t1 (i := 103) rfl) rfl
theorem wf_X2_7 : u_lay RX2 TX2 7 ∈ TB := to_TB (in_t1 (i := 105) rfl) rfl
theorem wf_X2_8 : u_lay RX2 TX2 8 ∈ TB := to_TB (in_t1 (i := 107) rfl) rfl
theorem wf_X2 : ∀ w ∈ u_ws RX2 TX2 9, w ∈ TB := fun w hw => by
  obtain ⟨k, hk, rfl⟩ := List.mem_map.mp hw
  have hk := List.mem_range.mp hk
  match k, hk with
  | 0, _ => exact wf_X2_0
  | 1, _ => exact wf_X2_1
  | 2, _ => exact wf_X2_2
  | 3, _ => exact wf_X2_3
  | 4, _ => exact wf_X2_4
  | 5, _ => exact wf_X2_5
  | 6, _ => exact wf_X2_6
  | 7, _ => exact wf_X2_7
  | 8, _ => exact wf_X2_8
  | k + 9, hk => exact absurd hk (by omega)
theorem wf_X3_0 : u_lay RX3 TX3 0 ∈ TB := to_TB (in_t1 (i := 118) rfl) rfl
theorem wf_X3_1 : u_lay RX3 TX3 1 ∈ TB := to_TB (in_t1 (i := 120) rfl) rfl
theorem wf_X3_2 : u_lay RX3 TX3 2 ∈ TB := to_TB (in_t1 (i := 122) rfl) rfl
theorem wf_X3_3 : u_lay RX3 TX3 3 ∈ TB := to_TB (in_t1 (i := 124) rfl) rfl
theorem wf_X3_4 : u_lay RX3 TX3 4 ∈ TB := to_TB (in_t1 (i := 126) rfl) rfl
theorem wf_X3_5 : u_lay RX3 TX3 5 ∈ TB := to_TB (in_t1 (i := 128) rfl) rfl
theorem wf_X3_6 : u_lay RX3 TX3 6 ∈ TB := to_TB (in_t1 (i := 130) rfl) rfl
theorem wf_X3_7 : u_lay RX3 TX3 7 ∈ TB := to_TB (in_t1 (i := 132) rfl) rfl
theorem wf_X3 : ∀ w ∈ u_ws RX3 TX3 8, w ∈ TB := fun w hw => by
  obtain ⟨k, hk, rfl⟩ := List.mem_map.mp hw
  have hk := List.mem_range.mp hk
  match k, hk with
  | 0, _ => exact wf_X3_0
  | 1, _ => exact wf_X3_1
  | 2, _ => exact wf_X3_2
  | 3, _ => exact wf_X3_3
  | 4, _ => exact wf_X3_4
  | 5, _ => exact wf_X3_5
  | 6, _ => exact wf_X3_6
  | 7, _ => exact wf_X3_7
  | k + 8, hk => exact absurd hk (by omega)
end
section
theorem dX0_init_0 : decode cX0_init 0 = .ok (.aload_n 0, 1) := by decide +kernel
theorem dX0_init_1 : decode cX0_init 1 = .ok (.invokespecial 3, 3) := by decide +kernel
theorem dX0_init_4 : decode cX0_init 4 = .ok (.aload_n 0, 1) := by decide +kernel
theorem dX0_init_5 : decode cX0_init 5 = .ok (.bipush 15, 2) := by decide +kernel
theorem dX0_init_7 : decode cX0_init 7 = .ok (.newarray .int, 2) := by decide +kernel
theorem dX0_init_9 : decode cX0_init 9 = .ok (.putfield 9, 3) := by decide +kernel
theorem dX0_init_12 : decode cX0_init 12 = .ok (.return_, 1) := by decide +kernel
theorem dX0_add_0 : decode cX0_add 0 = .ok (.aload_n 0, 1) := by decide +kernel
theorem dX0_add_1 : decode cX0_add 1 = .ok (.getfield 15, 3) := by decide +kernel
theorem dX0_add_4 : decode cX0_add 4 = .ok (.bipush 15, 2) := by decide +kernel
theorem dX0_add_6 : decode cX0_add 6 = .ok (.if_icmp .lt 5, 3) := by decide +kernel
theorem dX0_add_9 : decode cX0_add 9 = .ok (.iconst 0, 1) := by decide +kernel
theorem dX0_add_10 : decode cX0_add 10 = .ok (.ireturn, 1) := by decide +kernel
theorem dX0_add_11 : decode cX0_add 11 = .ok (.aload_n 0, 1) := by decide +kernel
theorem dX0_add_12 : decode cX0_add 12 = .ok (.getfield 9, 3) := by decide +kernel
theorem dX0_add_15 : decode cX0_add 15 = .ok (.aload_n 0, 1) := by decide +kernel
theorem dX0_add_16 : decode cX0_add 16 = .ok (.getfield 15, 3) := by decide +kernel
theorem dX0_add_19 : decode cX0_add 19 = .ok (.iload_n 1, 1) := by decide +kernel
theorem dX0_add_20 : decode cX0_add 20 = .ok (.invokestatic 19, 3) := by decide +kernel
theorem dX0_add_23 : decode cX0_add 23 = .ok (.aload_n 0, 1) := by decide +kernel
theorem dX0_add_24 : decode cX0_add 24 = .ok (.dup, 1) := by decide +kernel
theorem dX0_add_25 : decode cX0_add 25 = .ok (.getfield 15, 3) := by decide +kernel
theorem dX0_add_28 : decode cX0_add 28 = .ok (.iconst 1, 1) := by decide +kernel
theorem dX0_add_29 : decode cX0_add 29 = .ok (.iadd, 1) := by decide +kernel
theorem dX0_add_30 : decode cX0_add 30 = .ok (.putfield 15, 3) := by decide +kernel
theorem dX0_add_33 : decode cX0_add 33 = .ok (.iconst 1, 1) := by decide +kernel
theorem dX0_add_34 : decode cX0_add 34 = .ok (.ireturn, 1) := by decide +kernel
theorem dX0_codeAt_0 : decode cX0_codeAt 0 = .ok (.aload_n 0, 1) := by decide +kernel
theorem dX0_codeAt_1 : decode cX0_codeAt 1 = .ok (.getfield 9, 3) := by decide +kernel
theorem dX0_codeAt_4 : decode cX0_codeAt 4 = .ok (.iload_n 1, 1) := by decide +kernel
theorem dX0_codeAt_5 : decode cX0_codeAt 5 = .ok (.invokestatic 23, 3) := by decide +kernel
theorem dX0_codeAt_8 : decode cX0_codeAt 8 = .ok (.ireturn, 1) := by decide +kernel
theorem dX0_firstWrong_0 : decode cX0_firstWrong 0 = .ok (.iconst 0, 1) := by decide +kernel
theorem dX0_firstWrong_1 : decode cX0_firstWrong 1 = .ok (.istore_n 1, 1) := by decide +kernel
theorem dX0_firstWrong_2 : decode cX0_firstWrong 2 = .ok (.iconst (-1), 1) := by decide +kernel
theorem dX0_firstWrong_3 : decode cX0_firstWrong 3 = .ok (.istore_n 2, 1) := by decide +kernel
theorem dX0_firstWrong_4 : decode cX0_firstWrong 4 = .ok (.iconst 0, 1) := by decide +kernel
theorem dX0_firstWrong_5 : decode cX0_firstWrong 5 = .ok (.istore_n 3, 1) := by decide +kernel
theorem dX0_firstWrong_6 : decode cX0_firstWrong 6 = .ok (.iload_n 3, 1) := by decide +kernel
theorem dX0_firstWrong_7 : decode cX0_firstWrong 7 = .ok (.aload_n 0, 1) := by decide +kernel
theorem dX0_firstWrong_8 : decode cX0_firstWrong 8 = .ok (.getfield 15, 3) := by decide +kernel
theorem dX0_firstWrong_11 : decode cX0_firstWrong 11 = .ok (.if_icmp .ge 88, 3) := by decide +kernel
theorem dX0_firstWrong_14 : decode cX0_firstWrong 14 = .ok (.aload_n 0, 1) := by decide +kernel
theorem dX0_firstWrong_15 : decode cX0_firstWrong 15 = .ok (.iload_n 3, 1) := by decide +kernel
theorem dX0_firstWrong_16 : decode cX0_firstWrong 16 = .ok (.invokevirtual 27, 3) := by decide +kernel
theorem dX0_firstWrong_19 : decode cX0_firstWrong 19 = .ok (.istore 4, 2) := by decide +kernel
theorem dX0_firstWrong_21 : decode cX0_firstWrong 21 = .ok (.iload_n 2, 1) := by decide +kernel
theorem dX0_firstWrong_22 : decode cX0_firstWrong 22 = .ok (.iconst (-1), 1) := by decide +kernel
theorem dX0_firstWrong_23 : decode cX0_firstWrong 23 = .ok (.if_icmp .eq 30, 3) := by decide +kernel
theorem dX0_firstWrong_26 : decode cX0_firstWrong 26 = .ok (.iload_n 2, 1) := by decide +kernel
theorem dX0_firstWrong_27 : decode cX0_firstWrong 27 = .ok (.iconst 5, 1) := by decide +kernel
theorem dX0_firstWrong_28 : decode cX0_firstWrong 28 = .ok (.if_icmp .eq 17, 3) := by decide +kernel
theorem dX0_firstWrong_31 : decode cX0_firstWrong 31 = .ok (.iload 4, 2) := by decide +kernel
theorem dX0_firstWrong_33 : decode cX0_firstWrong 33 = .ok (.bipush 48, 2) := by decide +kernel
theorem dX0_firstWrong_35 : decode cX0_firstWrong 35 = .ok (.if_icmp .lt 10, 3) := by decide +kernel
theorem dX0_firstWrong_38 : decode cX0_firstWrong 38 = .ok (.iload 4, 2) := by decide +kernel
theorem dX0_firstWrong_40 : decode cX0_firstWrong 40 = .ok (.bipush 57, 2) := by decide +kernel
theorem dX0_firstWrong_42 : decode cX0_firstWrong 42 = .ok (.if_icmp .le 5, 3) := by decide +kernel
theorem dX0_firstWrong_45 : decode cX0_firstWrong 45 = .ok (.iload_n 3, 1) := by decide +kernel
theorem dX0_firstWrong_46 : decode cX0_firstWrong 46 = .ok (.ireturn, 1) := by decide +kernel
theorem dX0_firstWrong_47 : decode cX0_firstWrong 47 = .ok (.iinc 2 1, 3) := by decide +kernel
theorem dX0_firstWrong_50 : decode cX0_firstWrong 50 = .ok (.goto 43, 3) := by decide +kernel
theorem dX0_firstWrong_53 : decode cX0_firstWrong 53 = .ok (.iload 4, 2) := by decide +kernel
theorem dX0_firstWrong_55 : decode cX0_firstWrong 55 = .ok (.bipush 59, 2) := by decide +kernel
theorem dX0_firstWrong_57 : decode cX0_firstWrong 57 = .ok (.if_icmp .ne 13, 3) := by decide +kernel
theorem dX0_firstWrong_60 : decode cX0_firstWrong 60 = .ok (.iload_n 1, 1) := by decide +kernel
theorem dX0_firstWrong_61 : decode cX0_firstWrong 61 = .ok (.iconst 2, 1) := by decide +kernel
theorem dX0_firstWrong_62 : decode cX0_firstWrong 62 = .ok (.if_icmp .lt 8, 3) := by decide +kernel
theorem dX0_firstWrong_65 : decode cX0_firstWrong 65 = .ok (.iconst 0, 1) := by decide +kernel
theorem dX0_firstWrong_66 : decode cX0_firstWrong 66 = .ok (.istore_n 2, 1) := by decide +kernel
theorem dX0_firstWrong_67 : decode cX0_firstWrong 67 = .ok (.goto 26, 3) := by decide +kernel
theorem dX0_firstWrong_70 : decode cX0_firstWrong 70 = .ok (.iload 4, 2) := by decide +kernel
theorem dX0_firstWrong_72 : decode cX0_firstWrong 72 = .ok (.invokestatic 31, 3) := by decide +kernel
theorem dX0_firstWrong_75 : decode cX0_firstWrong 75 = .ok (.iconst (-1), 1) := by decide +kernel
theorem dX0_firstWrong_76 : decode cX0_firstWrong 76 = .ok (.if_icmp .eq 15, 3) := by decide +kernel
theorem dX0_firstWrong_79 : decode cX0_firstWrong 79 = .ok (.iload_n 1, 1) := by decide +kernel
theorem dX0_firstWrong_80 : decode cX0_firstWrong 80 = .ok (.bipush 6, 2) := by decide +kernel
theorem dX0_firstWrong_82 : decode cX0_firstWrong 82 = .ok (.if_icmp .ge 9, 3) := by decide +kernel
theorem dX0_firstWrong_85 : decode cX0_firstWrong 85 = .ok (.iinc 1 1, 3) := by decide +kernel
theorem dX0_firstWrong_88 : decode cX0_firstWrong 88 = .ok (.goto 5, 3) := by decide +kernel
theorem dX0_firstWrong_91 : decode cX0_firstWrong 91 = .ok (.iload_n 3, 1) := by decide +kernel
theorem dX0_firstWrong_92 : decode cX0_firstWrong 92 = .ok (.ireturn, 1) := by decide +kernel
theorem dX0_firstWrong_93 : decode cX0_firstWrong 93 = .ok (.iinc 3 1, 3) := by decide +kernel
theorem dX0_firstWrong_96 : decode cX0_firstWrong 96 = .ok (.goto (-90), 3) := by decide +kernel
theorem dX0_firstWrong_99 : decode cX0_firstWrong 99 = .ok (.aload_n 0, 1) := by decide +kernel
theorem dX0_firstWrong_100 : decode cX0_firstWrong 100 = .ok (.getfield 15, 3) := by decide +kernel
theorem dX0_firstWrong_103 : decode cX0_firstWrong 103 = .ok (.ireturn, 1) := by decide +kernel
theorem dX0_isCamp_0 : decode cX0_isCamp 0 = .ok (.aload_n 0, 1) := by decide +kernel
theorem dX0_isCamp_1 : decode cX0_isCamp 1 = .ok (.invokevirtual 34, 3) := by decide +kernel
theorem dX0_isCamp_4 : decode cX0_isCamp 4 = .ok (.aload_n 0, 1) := by decide +kernel
theorem dX0_isCamp_5 : decode cX0_isCamp 5 = .ok (.getfield 15, 3) := by decide +kernel
theorem dX0_isCamp_8 : decode cX0_isCamp 8 = .ok (.if_icmp .ne 24, 3) := by decide +kernel
theorem dX0_isCamp_11 : decode cX0_isCamp 11 = .ok (.aload_n 0, 1) := by decide +kernel
theorem dX0_isCamp_12 : decode cX0_isCamp 12 = .ok (.aload_n 0, 1) := by decide +kernel
theorem dX0_isCamp_13 : decode cX0_isCamp 13 = .ok (.getfield 15, 3) := by decide +kernel
theorem dX0_isCamp_16 : decode cX0_isCamp 16 = .ok (.iconst 5, 1) := by decide +kernel
theorem dX0_isCamp_17 : decode cX0_isCamp 17 = .ok (.isub, 1) := by decide +kernel
theorem dX0_isCamp_18 : decode cX0_isCamp 18 = .ok (.iconst 1, 1) := by decide +kernel
theorem dX0_isCamp_19 : decode cX0_isCamp 19 = .ok (.isub, 1) := by decide +kernel
theorem dX0_isCamp_20 : decode cX0_isCamp 20 = .ok (.invokevirtual 27, 3) := by decide +kernel
theorem dX0_isCamp_23 : decode cX0_isCamp 23 = .ok (.bipush 59, 2) := by decide +kernel
theorem dX0_isCamp_25 : decode cX0_isCamp 25 = .ok (.if_icmp .ne 7, 3) := by decide +kernel
theorem dX0_isCamp_28 : decode cX0_isCamp 28 = .ok (.iconst 1, 1) := by decide +kernel
theorem dX0_isCamp_29 : decode cX0_isCamp 29 = .ok (.goto 4, 3) := by decide +kernel
theorem dX0_isCamp_32 : decode cX0_isCamp 32 = .ok (.iconst 0, 1) := by decide +kernel
theorem dX0_isCamp_33 : decode cX0_isCamp 33 = .ok (.ireturn, 1) := by decide +kernel
theorem dX1_init_0 : decode cX1_init 0 = .ok (.aload_n 0, 1) := by decide +kernel
theorem dX1_init_1 : decode cX1_init 1 = .ok (.invokespecial 3, 3) := by decide +kernel
theorem dX1_init_4 : decode cX1_init 4 = .ok (.aload_n 0, 1) := by decide +kernel
theorem dX1_init_5 : decode cX1_init 5 = .ok (.bipush 6, 2) := by decide +kernel
theorem dX1_init_7 : decode cX1_init 7 = .ok (.newarray .int, 2) := by decide +kernel
theorem dX1_init_9 : decode cX1_init 9 = .ok (.putfield 9, 3) := by decide +kernel
theorem dX1_init_12 : decode cX1_init 12 = .ok (.aload_n 0, 1) := by decide +kernel
theorem dX1_init_13 : decode cX1_init 13 = .ok (.iconst 5, 1) := by decide +kernel
theorem dX1_init_14 : decode cX1_init 14 = .ok (.newarray .int, 2) := by decide +kernel
theorem dX1_init_16 : decode cX1_init 16 = .ok (.putfield 15, 3) := by decide +kernel
theorem dX1_init_19 : decode cX1_init 19 = .ok (.return_, 1) := by decide +kernel
theorem dX1_all_0 : decode cX1_all 0 = .ok (.iconst 1, 1) := by decide +kernel
theorem dX1_all_1 : decode cX1_all 1 = .ok (.aload_n 0, 1) := by decide +kernel
theorem dX1_all_2 : decode cX1_all 2 = .ok (.getfield 18, 3) := by decide +kernel
theorem dX1_all_5 : decode cX1_all 5 = .ok (.ishl, 1) := by decide +kernel
theorem dX1_all_6 : decode cX1_all 6 = .ok (.iconst 1, 1) := by decide +kernel
theorem dX1_all_7 : decode cX1_all 7 = .ok (.isub, 1) := by decide +kernel
theorem dX1_all_8 : decode cX1_all 8 = .ok (.ireturn, 1) := by decide +kernel
theorem dX1_together_0 : decode cX1_together 0 = .ok (.iconst 0, 1) := by decide +kernel
theorem dX1_together_1 : decode cX1_together 1 = .ok (.istore_n 3, 1) := by decide +kernel
theorem dX1_together_2 : decode cX1_together 2 = .ok (.iconst 0, 1) := by decide +kernel
theorem dX1_together_3 : decode cX1_together 3 = .ok (.istore 4, 2) := by decide +kernel
theorem dX1_together_5 : decode cX1_together 5 = .ok (.iload 4, 2) := by decide +kernel
theorem dX1_together_7 : decode cX1_together 7 = .ok (.aload_n 0, 1) := by decide +kernel
theorem dX1_together_8 : decode cX1_together 8 = .ok (.getfield 18, 3) := by decide +kernel
theorem dX1_together_11 : decode cX1_together 11 = .ok (.if_icmp .ge 35, 3) := by decide +kernel
theorem dX1_together_14 : decode cX1_together 14 = .ok (.iload_n 1, 1) := by decide +kernel
theorem dX1_together_15 : decode cX1_together 15 = .ok (.iload 4, 2) := by decide +kernel
theorem dX1_together_17 : decode cX1_together 17 = .ok (.ishr, 1) := by decide +kernel
theorem dX1_together_18 : decode cX1_together 18 = .ok (.iconst 1, 1) := by decide +kernel
theorem dX1_together_19 : decode cX1_together 19 = .ok (.iand, 1) := by decide +kernel
theorem dX1_together_20 : decode cX1_together 20 = .ok (.iconst 1, 1) := by decide +kernel
theorem dX1_together_21 : decode cX1_together 21 = .ok (.if_icmp .ne 19, 3) := by decide +kernel
theorem dX1_together_24 : decode cX1_together 24 = .ok (.iload_n 3, 1) := by decide +kernel
theorem dX1_together_25 : decode cX1_together 25 = .ok (.aload_n 2, 1) := by decide +kernel
theorem dX1_together_26 : decode cX1_together 26 = .ok (.aload_n 0, 1) := by decide +kernel
theorem dX1_together_27 : decode cX1_together 27 = .ok (.getfield 9, 3) := by decide +kernel
theorem dX1_together_30 : decode cX1_together 30 = .ok (.iload 4, 2) := by decide +kernel
theorem dX1_together_32 : decode cX1_together 32 = .ok (.invokestatic 22, 3) := by decide +kernel
theorem dX1_together_35 : decode cX1_together 35 = .ok (.invokestatic 22, 3) := by decide +kernel
theorem dX1_together_38 : decode cX1_together 38 = .ok (.iadd, 1) := by decide +kernel
theorem dX1_together_39 : decode cX1_together 39 = .ok (.istore_n 3, 1) := by decide +kernel
theorem dX1_together_40 : decode cX1_together 40 = .ok (.iinc 4 1, 3) := by decide +kernel
theorem dX1_together_43 : decode cX1_together 43 = .ok (.goto (-38), 3) := by decide +kernel
theorem dX1_together_46 : decode cX1_together 46 = .ok (.iload_n 3, 1) := by decide +kernel
theorem dX1_together_47 : decode cX1_together 47 = .ok (.ireturn, 1) := by decide +kernel
theorem dX1_setCairns_0 : decode cX1_setCairns 0 = .ok (.aload_n 1, 1) := by decide +kernel
theorem dX1_setCairns_1 : decode cX1_setCairns 1 = .ok (.aload_n 0, 1) := by decide +kernel
theorem dX1_setCairns_2 : decode cX1_setCairns 2 = .ok (.getfield 15, 3) := by decide +kernel
theorem dX1_setCairns_5 : decode cX1_setCairns 5 = .ok (.invokestatic 26, 3) := by decide +kernel
theorem dX1_setCairns_8 : decode cX1_setCairns 8 = .ok (.return_, 1) := by decide +kernel
theorem dX1_go_0 : decode cX1_go 0 = .ok (.aload_n 0, 1) := by decide +kernel
theorem dX1_go_1 : decode cX1_go 1 = .ok (.iload_n 1, 1) := by decide +kernel
theorem dX1_go_2 : decode cX1_go 2 = .ok (.iload_n 3, 1) := by decide +kernel
theorem dX1_go_3 : decode cX1_go 3 = .ok (.invokevirtual 30, 3) := by decide +kernel
theorem dX1_go_6 : decode cX1_go 6 = .ok (.iconst 1, 1) := by decide +kernel
theorem dX1_go_7 : decode cX1_go 7 = .ok (.istore 4, 2) := by decide +kernel
theorem dX1_go_9 : decode cX1_go 9 = .ok (.iload 4, 2) := by decide +kernel
theorem dX1_go_11 : decode cX1_go 11 = .ok (.iconst 2, 1) := by decide +kernel
theorem dX1_go_12 : decode cX1_go 12 = .ok (.iload_n 2, 1) := by decide +kernel
theorem dX1_go_13 : decode cX1_go 13 = .ok (.imul, 1) := by decide +kernel
theorem dX1_go_14 : decode cX1_go 14 = .ok (.if_icmp .gt 97, 3) := by decide +kernel
theorem dX1_go_17 : decode cX1_go 17 = .ok (.iload 4, 2) := by decide +kernel
theorem dX1_go_19 : decode cX1_go 19 = .ok (.iload_n 2, 1) := by decide +kernel
theorem dX1_go_20 : decode cX1_go 20 = .ok (.if_icmp .gt 7, 3) := by decide +kernel
theorem dX1_go_23 : decode cX1_go 23 = .ok (.iconst 1, 1) := by decide +kernel
theorem dX1_go_24 : decode cX1_go 24 = .ok (.goto 4, 3) := by decide +kernel
theorem dX1_go_27 : decode cX1_go 27 = .ok (.iconst 0, 1) := by decide +kernel
theorem dX1_go_28 : decode cX1_go 28 = .ok (.istore 5, 2) := by decide +kernel
theorem dX1_go_30 : decode cX1_go 30 = .ok (.iload 5, 2) := by decide +kernel
theorem dX1_go_32 : decode cX1_go 32 = .ok (.ifCond .eq 15, 3) := by decide +kernel
theorem dX1_go_35 : decode cX1_go 35 = .ok (.iload 4, 2) := by decide +kernel
theorem dX1_go_37 : decode cX1_go 37 = .ok (.iconst 1, 1) := by decide +kernel
theorem dX1_go_38 : decode cX1_go 38 = .ok (.isub, 1) := by decide +kernel
theorem dX1_go_39 : decode cX1_go 39 = .ok (.iconst 3, 1) := by decide +kernel
theorem dX1_go_40 : decode cX1_go 40 = .ok (.if_icmp .lt 7, 3) := by decide +kernel
theorem dX1_go_43 : decode cX1_go 43 = .ok (.aload_n 0, 1) := by decide +kernel
theorem dX1_go_44 : decode cX1_go 44 = .ok (.invokevirtual 34, 3) := by decide +kernel
theorem dX1_go_47 : decode cX1_go 47 = .ok (.aload_n 0, 1) := by decide +kernel
theorem dX1_go_48 : decode cX1_go 48 = .ok (.invokevirtual 37, 3) := by decide +kernel
theorem dX1_go_51 : decode cX1_go 51 = .ok (.aload_n 0, 1) := by decide +kernel
theorem dX1_go_52 : decode cX1_go 52 = .ok (.getfield 40, 3) := by decide +kernel
theorem dX1_go_55 : decode cX1_go 55 = .ok (.ifCond .eq 14, 3) := by decide +kernel
theorem dX1_go_58 : decode cX1_go 58 = .ok (.aload_n 0, 1) := by decide +kernel
theorem dX1_go_59 : decode cX1_go 59 = .ok (.getfield 43, 3) := by decide +kernel
theorem dX1_go_62 : decode cX1_go 62 = .ok (.aload_n 0, 1) := by decide +kernel
theorem dX1_go_63 : decode cX1_go 63 = .ok (.getfield 46, 3) := by decide +kernel
theorem dX1_go_66 : decode cX1_go 66 = .ok (.if_icmp .ge 11, 3) := by decide +kernel
theorem dX1_go_69 : decode cX1_go 69 = .ok (.aload_n 0, 1) := by decide +kernel
theorem dX1_go_70 : decode cX1_go 70 = .ok (.iload 4, 2) := by decide +kernel
theorem dX1_go_72 : decode cX1_go 72 = .ok (.invokevirtual 49, 3) := by decide +kernel
theorem dX1_go_75 : decode cX1_go 75 = .ok (.iconst 0, 1) := by decide +kernel
theorem dX1_go_76 : decode cX1_go 76 = .ok (.ireturn, 1) := by decide +kernel
theorem dX1_go_77 : decode cX1_go 77 = .ok (.aload_n 0, 1) := by decide +kernel
theorem dX1_go_78 : decode cX1_go 78 = .ok (.dup, 1) := by decide +kernel
theorem dX1_go_79 : decode cX1_go 79 = .ok (.getfield 43, 3) := by decide +kernel
theorem dX1_go_82 : decode cX1_go 82 = .ok (.aload_n 0, 1) := by decide +kernel
theorem dX1_go_83 : decode cX1_go 83 = .ok (.getfield 46, 3) := by decide +kernel
theorem dX1_go_86 : decode cX1_go 86 = .ok (.isub, 1) := by decide +kernel
theorem dX1_go_87 : decode cX1_go 87 = .ok (.putfield 43, 3) := by decide +kernel
theorem dX1_go_90 : decode cX1_go 90 = .ok (.iload 5, 2) := by decide +kernel
theorem dX1_go_92 : decode cX1_go 92 = .ok (.ifCond .ne 13, 3) := by decide +kernel
theorem dX1_go_95 : decode cX1_go 95 = .ok (.aload_n 0, 1) := by decide +kernel
theorem dX1_go_96 : decode cX1_go 96 = .ok (.iconst 2, 1) := by decide +kernel
theorem dX1_go_97 : decode cX1_go 97 = .ok (.iload_n 2, 1) := by decide +kernel
theorem dX1_go_98 : decode cX1_go 98 = .ok (.imul, 1) := by decide +kernel
theorem dX1_go_99 : decode cX1_go 99 = .ok (.iload 4, 2) := by decide +kernel
theorem dX1_go_101 : decode cX1_go 101 = .ok (.isub, 1) := by decide +kernel
theorem dX1_go_102 : decode cX1_go 102 = .ok (.invokevirtual 53, 3) := by decide +kernel
theorem dX1_go_105 : decode cX1_go 105 = .ok (.iinc 4 1, 3) := by decide +kernel
theorem dX1_go_108 : decode cX1_go 108 = .ok (.goto (-99), 3) := by decide +kernel
theorem dX1_go_111 : decode cX1_go 111 = .ok (.iconst 1, 1) := by decide +kernel
theorem dX1_go_112 : decode cX1_go 112 = .ok (.ireturn, 1) := by decide +kernel
theorem dX1_setOut_0 : decode cX1_setOut 0 = .ok (.aload_n 0, 1) := by decide +kernel
theorem dX1_setOut_1 : decode cX1_setOut 1 = .ok (.iload_n 1, 1) := by decide +kernel
theorem dX1_setOut_2 : decode cX1_setOut 2 = .ok (.putfield 40, 3) := by decide +kernel
theorem dX1_setOut_5 : decode cX1_setOut 5 = .ok (.aload_n 0, 1) := by decide +kernel
theorem dX1_setOut_6 : decode cX1_setOut 6 = .ok (.aload_n 0, 1) := by decide +kernel
theorem dX1_setOut_7 : decode cX1_setOut 7 = .ok (.iload_n 1, 1) := by decide +kernel
theorem dX1_setOut_8 : decode cX1_setOut 8 = .ok (.getstatic 56, 3) := by decide +kernel
theorem dX1_setOut_11 : decode cX1_setOut 11 = .ok (.invokevirtual 59, 3) := by decide +kernel
theorem dX1_setOut_14 : decode cX1_setOut 14 = .ok (.putfield 63, 3) := by decide +kernel
theorem dX1_setOut_17 : decode cX1_setOut 17 = .ok (.aload_n 0, 1) := by decide +kernel
theorem dX1_setOut_18 : decode cX1_setOut 18 = .ok (.aload_n 0, 1) := by decide +kernel
theorem dX1_setOut_19 : decode cX1_setOut 19 = .ok (.iload_n 1, 1) := by decide +kernel
theorem dX1_setOut_20 : decode cX1_setOut 20 = .ok (.getstatic 66, 3) := by decide +kernel
theorem dX1_setOut_23 : decode cX1_setOut 23 = .ok (.invokevirtual 59, 3) := by decide +kernel
theorem dX1_setOut_26 : decode cX1_setOut 26 = .ok (.putfield 46, 3) := by decide +kernel
theorem dX1_setOut_29 : decode cX1_setOut 29 = .ok (.aload_n 0, 1) := by decide +kernel
theorem dX1_setOut_30 : decode cX1_setOut 30 = .ok (.iload_n 2, 1) := by decide +kernel
theorem dX1_setOut_31 : decode cX1_setOut 31 = .ok (.aload_n 0, 1) := by decide +kernel
theorem dX1_setOut_32 : decode cX1_setOut 32 = .ok (.getfield 63, 3) := by decide +kernel
theorem dX1_setOut_35 : decode cX1_setOut 35 = .ok (.invokestatic 69, 3) := by decide +kernel
theorem dX1_setOut_38 : decode cX1_setOut 38 = .ok (.putfield 43, 3) := by decide +kernel
theorem dX1_setOut_41 : decode cX1_setOut 41 = .ok (.aload_n 0, 1) := by decide +kernel
theorem dX1_setOut_42 : decode cX1_setOut 42 = .ok (.iconst 0, 1) := by decide +kernel
theorem dX1_setOut_43 : decode cX1_setOut 43 = .ok (.putfield 75, 3) := by decide +kernel
theorem dX1_setOut_46 : decode cX1_setOut 46 = .ok (.return_, 1) := by decide +kernel
theorem dX1_eatPonies_0 : decode cX1_eatPonies 0 = .ok (.aload_n 0, 1) := by decide +kernel
theorem dX1_eatPonies_1 : decode cX1_eatPonies 1 = .ok (.getfield 18, 3) := by decide +kernel
theorem dX1_eatPonies_4 : decode cX1_eatPonies 4 = .ok (.iconst 1, 1) := by decide +kernel
theorem dX1_eatPonies_5 : decode cX1_eatPonies 5 = .ok (.isub, 1) := by decide +kernel
theorem dX1_eatPonies_6 : decode cX1_eatPonies 6 = .ok (.istore_n 1, 1) := by decide +kernel
theorem dX1_eatPonies_7 : decode cX1_eatPonies 7 = .ok (.iload_n 1, 1) := by decide +kernel
theorem dX1_eatPonies_8 : decode cX1_eatPonies 8 = .ok (.ifCond .lt 26, 3) := by decide +kernel
theorem dX1_eatPonies_11 : decode cX1_eatPonies 11 = .ok (.aload_n 0, 1) := by decide +kernel
theorem dX1_eatPonies_12 : decode cX1_eatPonies 12 = .ok (.getfield 9, 3) := by decide +kernel
theorem dX1_eatPonies_15 : decode cX1_eatPonies 15 = .ok (.iload_n 1, 1) := by decide +kernel
theorem dX1_eatPonies_16 : decode cX1_eatPonies 16 = .ok (.invokestatic 22, 3) := by decide +kernel
theorem dX1_eatPonies_19 : decode cX1_eatPonies 19 = .ok (.iconst 1, 1) := by decide +kernel
theorem dX1_eatPonies_20 : decode cX1_eatPonies 20 = .ok (.if_icmp .ne 8, 3) := by decide +kernel
theorem dX1_eatPonies_23 : decode cX1_eatPonies 23 = .ok (.aload_n 0, 1) := by decide +kernel
theorem dX1_eatPonies_24 : decode cX1_eatPonies 24 = .ok (.iload_n 1, 1) := by decide +kernel
theorem dX1_eatPonies_25 : decode cX1_eatPonies 25 = .ok (.invokevirtual 78, 3) := by decide +kernel
theorem dX1_eatPonies_28 : decode cX1_eatPonies 28 = .ok (.iinc 1 (-1), 3) := by decide +kernel
theorem dX1_eatPonies_31 : decode cX1_eatPonies 31 = .ok (.goto (-24), 3) := by decide +kernel
theorem dX1_eatPonies_34 : decode cX1_eatPonies 34 = .ok (.return_, 1) := by decide +kernel
theorem dX1_eatBeasts_0 : decode cX1_eatBeasts 0 = .ok (.aload_n 0, 1) := by decide +kernel
theorem dX1_eatBeasts_1 : decode cX1_eatBeasts 1 = .ok (.getfield 18, 3) := by decide +kernel
theorem dX1_eatBeasts_4 : decode cX1_eatBeasts 4 = .ok (.iconst 1, 1) := by decide +kernel
theorem dX1_eatBeasts_5 : decode cX1_eatBeasts 5 = .ok (.isub, 1) := by decide +kernel
theorem dX1_eatBeasts_6 : decode cX1_eatBeasts 6 = .ok (.istore_n 1, 1) := by decide +kernel
theorem dX1_eatBeasts_7 : decode cX1_eatBeasts 7 = .ok (.iload_n 1, 1) := by decide +kernel
theorem dX1_eatBeasts_8 : decode cX1_eatBeasts 8 = .ok (.ifCond .lt 47, 3) := by decide +kernel
theorem dX1_eatBeasts_11 : decode cX1_eatBeasts 11 = .ok (.aload_n 0, 1) := by decide +kernel
theorem dX1_eatBeasts_12 : decode cX1_eatBeasts 12 = .ok (.getfield 43, 3) := by decide +kernel
theorem dX1_eatBeasts_15 : decode cX1_eatBeasts 15 = .ok (.aload_n 0, 1) := by decide +kernel
theorem dX1_eatBeasts_16 : decode cX1_eatBeasts 16 = .ok (.getfield 46, 3) := by decide +kernel
theorem dX1_eatBeasts_19 : decode cX1_eatBeasts 19 = .ok (.if_icmp .ge 36, 3) := by decide +kernel
theorem dX1_eatBeasts_22 : decode cX1_eatBeasts 22 = .ok (.aload_n 0, 1) := by decide +kernel
theorem dX1_eatBeasts_23 : decode cX1_eatBeasts 23 = .ok (.getfield 9, 3) := by decide +kernel
theorem dX1_eatBeasts_26 : decode cX1_eatBeasts 26 = .ok (.iload_n 1, 1) := by decide +kernel
theorem dX1_eatBeasts_27 : decode cX1_eatBeasts 27 = .ok (.invokestatic 22, 3) := by decide +kernel
theorem dX1_eatBeasts_30 : decode cX1_eatBeasts 30 = .ok (.istore_n 2, 1) := by decide +kernel
theorem dX1_eatBeasts_31 : decode cX1_eatBeasts 31 = .ok (.iload_n 2, 1) := by decide +kernel
theorem dX1_eatBeasts_32 : decode cX1_eatBeasts 32 = .ok (.iconst 1, 1) := by decide +kernel
theorem dX1_eatBeasts_33 : decode cX1_eatBeasts 33 = .ok (.if_icmp .eq 11, 3) := by decide +kernel
theorem dX1_eatBeasts_36 : decode cX1_eatBeasts 36 = .ok (.iload_n 2, 1) := by decide +kernel
theorem dX1_eatBeasts_37 : decode cX1_eatBeasts 37 = .ok (.iconst 2, 1) := by decide +kernel
theorem dX1_eatBeasts_38 : decode cX1_eatBeasts 38 = .ok (.invokestatic 81, 3) := by decide +kernel
theorem dX1_eatBeasts_41 : decode cX1_eatBeasts 41 = .ok (.ifCond .eq 8, 3) := by decide +kernel
theorem dX1_eatBeasts_44 : decode cX1_eatBeasts 44 = .ok (.aload_n 0, 1) := by decide +kernel
theorem dX1_eatBeasts_45 : decode cX1_eatBeasts 45 = .ok (.iload_n 1, 1) := by decide +kernel
theorem dX1_eatBeasts_46 : decode cX1_eatBeasts 46 = .ok (.invokevirtual 78, 3) := by decide +kernel
theorem dX1_eatBeasts_49 : decode cX1_eatBeasts 49 = .ok (.iinc 1 (-1), 3) := by decide +kernel
theorem dX1_eatBeasts_52 : decode cX1_eatBeasts 52 = .ok (.goto (-45), 3) := by decide +kernel
theorem dX1_eatBeasts_55 : decode cX1_eatBeasts 55 = .ok (.return_, 1) := by decide +kernel
theorem dX1_devour_0 : decode cX1_devour 0 = .ok (.aload_n 0, 1) := by decide +kernel
theorem dX1_devour_1 : decode cX1_devour 1 = .ok (.getfield 40, 3) := by decide +kernel
theorem dX1_devour_4 : decode cX1_devour 4 = .ok (.iload_n 1, 1) := by decide +kernel
theorem dX1_devour_5 : decode cX1_devour 5 = .ok (.ishr, 1) := by decide +kernel
theorem dX1_devour_6 : decode cX1_devour 6 = .ok (.iconst 1, 1) := by decide +kernel
theorem dX1_devour_7 : decode cX1_devour 7 = .ok (.iand, 1) := by decide +kernel
theorem dX1_devour_8 : decode cX1_devour 8 = .ok (.ifCond .ne 4, 3) := by decide +kernel
theorem dX1_devour_11 : decode cX1_devour 11 = .ok (.return_, 1) := by decide +kernel
theorem dX1_devour_12 : decode cX1_devour 12 = .ok (.aload_n 0, 1) := by decide +kernel
theorem dX1_devour_13 : decode cX1_devour 13 = .ok (.getfield 9, 3) := by decide +kernel
theorem dX1_devour_16 : decode cX1_devour 16 = .ok (.iload_n 1, 1) := by decide +kernel
theorem dX1_devour_17 : decode cX1_devour 17 = .ok (.invokestatic 22, 3) := by decide +kernel
theorem dX1_devour_20 : decode cX1_devour 20 = .ok (.istore_n 2, 1) := by decide +kernel
theorem dX1_devour_21 : decode cX1_devour 21 = .ok (.aload_n 0, 1) := by decide +kernel
theorem dX1_devour_22 : decode cX1_devour 22 = .ok (.dup, 1) := by decide +kernel
theorem dX1_devour_23 : decode cX1_devour 23 = .ok (.getfield 40, 3) := by decide +kernel
theorem dX1_devour_26 : decode cX1_devour 26 = .ok (.iconst 1, 1) := by decide +kernel
theorem dX1_devour_27 : decode cX1_devour 27 = .ok (.iload_n 1, 1) := by decide +kernel
theorem dX1_devour_28 : decode cX1_devour 28 = .ok (.ishl, 1) := by decide +kernel
theorem dX1_devour_29 : decode cX1_devour 29 = .ok (.iconst (-1), 1) := by decide +kernel
theorem dX1_devour_30 : decode cX1_devour 30 = .ok (.ixor, 1) := by decide +kernel
theorem dX1_devour_31 : decode cX1_devour 31 = .ok (.iand, 1) := by decide +kernel
theorem dX1_devour_32 : decode cX1_devour 32 = .ok (.putfield 40, 3) := by decide +kernel
theorem dX1_devour_35 : decode cX1_devour 35 = .ok (.aload_n 0, 1) := by decide +kernel
theorem dX1_devour_36 : decode cX1_devour 36 = .ok (.dup, 1) := by decide +kernel
theorem dX1_devour_37 : decode cX1_devour 37 = .ok (.getfield 63, 3) := by decide +kernel
theorem dX1_devour_40 : decode cX1_devour 40 = .ok (.getstatic 56, 3) := by decide +kernel
theorem dX1_devour_43 : decode cX1_devour 43 = .ok (.iload_n 2, 1) := by decide +kernel
theorem dX1_devour_44 : decode cX1_devour 44 = .ok (.invokestatic 22, 3) := by decide +kernel
theorem dX1_devour_47 : decode cX1_devour 47 = .ok (.isub, 1) := by decide +kernel
theorem dX1_devour_48 : decode cX1_devour 48 = .ok (.putfield 63, 3) := by decide +kernel
theorem dX1_devour_51 : decode cX1_devour 51 = .ok (.aload_n 0, 1) := by decide +kernel
theorem dX1_devour_52 : decode cX1_devour 52 = .ok (.dup, 1) := by decide +kernel
theorem dX1_devour_53 : decode cX1_devour 53 = .ok (.getfield 46, 3) := by decide +kernel
theorem dX1_devour_56 : decode cX1_devour 56 = .ok (.getstatic 66, 3) := by decide +kernel
theorem dX1_devour_59 : decode cX1_devour 59 = .ok (.iload_n 2, 1) := by decide +kernel
theorem dX1_devour_60 : decode cX1_devour 60 = .ok (.invokestatic 22, 3) := by decide +kernel
theorem dX1_devour_63 : decode cX1_devour 63 = .ok (.isub, 1) := by decide +kernel
theorem dX1_devour_64 : decode cX1_devour 64 = .ok (.putfield 46, 3) := by decide +kernel
theorem dX1_devour_67 : decode cX1_devour 67 = .ok (.aload_n 0, 1) := by decide +kernel
theorem dX1_devour_68 : decode cX1_devour 68 = .ok (.aload_n 0, 1) := by decide +kernel
theorem dX1_devour_69 : decode cX1_devour 69 = .ok (.getfield 43, 3) := by decide +kernel
theorem dX1_devour_72 : decode cX1_devour 72 = .ok (.getstatic 85, 3) := by decide +kernel
theorem dX1_devour_75 : decode cX1_devour 75 = .ok (.iload_n 2, 1) := by decide +kernel
theorem dX1_devour_76 : decode cX1_devour 76 = .ok (.invokestatic 22, 3) := by decide +kernel
theorem dX1_devour_79 : decode cX1_devour 79 = .ok (.iadd, 1) := by decide +kernel
theorem dX1_devour_80 : decode cX1_devour 80 = .ok (.aload_n 0, 1) := by decide +kernel
theorem dX1_devour_81 : decode cX1_devour 81 = .ok (.getfield 63, 3) := by decide +kernel
theorem dX1_devour_84 : decode cX1_devour 84 = .ok (.invokestatic 69, 3) := by decide +kernel
theorem dX1_devour_87 : decode cX1_devour 87 = .ok (.putfield 43, 3) := by decide +kernel
theorem dX1_devour_90 : decode cX1_devour 90 = .ok (.return_, 1) := by decide +kernel
theorem dX1_dieOn_0 : decode cX1_dieOn 0 = .ok (.aload_n 0, 1) := by decide +kernel
theorem dX1_dieOn_1 : decode cX1_dieOn 1 = .ok (.iconst 0, 1) := by decide +kernel
theorem dX1_dieOn_2 : decode cX1_dieOn 2 = .ok (.putfield 40, 3) := by decide +kernel
theorem dX1_dieOn_5 : decode cX1_dieOn 5 = .ok (.aload_n 0, 1) := by decide +kernel
theorem dX1_dieOn_6 : decode cX1_dieOn 6 = .ok (.iconst 0, 1) := by decide +kernel
theorem dX1_dieOn_7 : decode cX1_dieOn 7 = .ok (.putfield 43, 3) := by decide +kernel
theorem dX1_dieOn_10 : decode cX1_dieOn 10 = .ok (.aload_n 0, 1) := by decide +kernel
theorem dX1_dieOn_11 : decode cX1_dieOn 11 = .ok (.iload_n 1, 1) := by decide +kernel
theorem dX1_dieOn_12 : decode cX1_dieOn 12 = .ok (.putfield 75, 3) := by decide +kernel
theorem dX1_dieOn_15 : decode cX1_dieOn 15 = .ok (.return_, 1) := by decide +kernel
theorem dX1_takeUpAt_0 : decode cX1_takeUpAt 0 = .ok (.aload_n 0, 1) := by decide +kernel
theorem dX1_takeUpAt_1 : decode cX1_takeUpAt 1 = .ok (.getfield 15, 3) := by decide +kernel
theorem dX1_takeUpAt_4 : decode cX1_takeUpAt 4 = .ok (.iload_n 1, 1) := by decide +kernel
theorem dX1_takeUpAt_5 : decode cX1_takeUpAt 5 = .ok (.iconst 1, 1) := by decide +kernel
theorem dX1_takeUpAt_6 : decode cX1_takeUpAt 6 = .ok (.isub, 1) := by decide +kernel
theorem dX1_takeUpAt_7 : decode cX1_takeUpAt 7 = .ok (.invokestatic 22, 3) := by decide +kernel
theorem dX1_takeUpAt_10 : decode cX1_takeUpAt 10 = .ok (.aload_n 0, 1) := by decide +kernel
theorem dX1_takeUpAt_11 : decode cX1_takeUpAt 11 = .ok (.getfield 63, 3) := by decide +kernel
theorem dX1_takeUpAt_14 : decode cX1_takeUpAt 14 = .ok (.aload_n 0, 1) := by decide +kernel
theorem dX1_takeUpAt_15 : decode cX1_takeUpAt 15 = .ok (.getfield 43, 3) := by decide +kernel
theorem dX1_takeUpAt_18 : decode cX1_takeUpAt 18 = .ok (.isub, 1) := by decide +kernel
theorem dX1_takeUpAt_19 : decode cX1_takeUpAt 19 = .ok (.invokestatic 69, 3) := by decide +kernel
theorem dX1_takeUpAt_22 : decode cX1_takeUpAt 22 = .ok (.istore_n 2, 1) := by decide +kernel
theorem dX1_takeUpAt_23 : decode cX1_takeUpAt 23 = .ok (.aload_n 0, 1) := by decide +kernel
theorem dX1_takeUpAt_24 : decode cX1_takeUpAt 24 = .ok (.getfield 15, 3) := by decide +kernel
theorem dX1_takeUpAt_27 : decode cX1_takeUpAt 27 = .ok (.iload_n 1, 1) := by decide +kernel
theorem dX1_takeUpAt_28 : decode cX1_takeUpAt 28 = .ok (.iconst 1, 1) := by decide +kernel
theorem dX1_takeUpAt_29 : decode cX1_takeUpAt 29 = .ok (.isub, 1) := by decide +kernel
theorem dX1_takeUpAt_30 : decode cX1_takeUpAt 30 = .ok (.aload_n 0, 1) := by decide +kernel
theorem dX1_takeUpAt_31 : decode cX1_takeUpAt 31 = .ok (.getfield 15, 3) := by decide +kernel
theorem dX1_takeUpAt_34 : decode cX1_takeUpAt 34 = .ok (.iload_n 1, 1) := by decide +kernel
theorem dX1_takeUpAt_35 : decode cX1_takeUpAt 35 = .ok (.iconst 1, 1) := by decide +kernel
theorem dX1_takeUpAt_36 : decode cX1_takeUpAt 36 = .ok (.isub, 1) := by decide +kernel
theorem dX1_takeUpAt_37 : decode cX1_takeUpAt 37 = .ok (.invokestatic 22, 3) := by decide +kernel
theorem dX1_takeUpAt_40 : decode cX1_takeUpAt 40 = .ok (.iload_n 2, 1) := by decide +kernel
theorem dX1_takeUpAt_41 : decode cX1_takeUpAt 41 = .ok (.isub, 1) := by decide +kernel
theorem dX1_takeUpAt_42 : decode cX1_takeUpAt 42 = .ok (.invokestatic 88, 3) := by decide +kernel
theorem dX1_takeUpAt_45 : decode cX1_takeUpAt 45 = .ok (.aload_n 0, 1) := by decide +kernel
theorem dX1_takeUpAt_46 : decode cX1_takeUpAt 46 = .ok (.dup, 1) := by decide +kernel
theorem dX1_takeUpAt_47 : decode cX1_takeUpAt 47 = .ok (.getfield 43, 3) := by decide +kernel
theorem dX1_takeUpAt_50 : decode cX1_takeUpAt 50 = .ok (.iload_n 2, 1) := by decide +kernel
theorem dX1_takeUpAt_51 : decode cX1_takeUpAt 51 = .ok (.iadd, 1) := by decide +kernel
theorem dX1_takeUpAt_52 : decode cX1_takeUpAt 52 = .ok (.putfield 43, 3) := by decide +kernel
theorem dX1_takeUpAt_55 : decode cX1_takeUpAt 55 = .ok (.return_, 1) := by decide +kernel
theorem dX2_init_0 : decode cX2_init 0 = .ok (.aload_n 0, 1) := by decide +kernel
theorem dX2_init_1 : decode cX2_init 1 = .ok (.invokespecial 3, 3) := by decide +kernel
theorem dX2_init_4 : decode cX2_init 4 = .ok (.aload_n 0, 1) := by decide +kernel
theorem dX2_init_5 : decode cX2_init 5 = .ok (.iconst 5, 1) := by decide +kernel
theorem dX2_init_6 : decode cX2_init 6 = .ok (.newarray .int, 2) := by decide +kernel
theorem dX2_init_8 : decode cX2_init 8 = .ok (.putfield 9, 3) := by decide +kernel
theorem dX2_init_11 : decode cX2_init 11 = .ok (.aload_n 0, 1) := by decide +kernel
theorem dX2_init_12 : decode cX2_init 12 = .ok (.bipush 6, 2) := by decide +kernel
theorem dX2_init_14 : decode cX2_init 14 = .ok (.newarray .int, 2) := by decide +kernel
theorem dX2_init_16 : decode cX2_init 16 = .ok (.putfield 15, 3) := by decide +kernel
theorem dX2_init_19 : decode cX2_init 19 = .ok (.aload_n 0, 1) := by decide +kernel
theorem dX2_init_20 : decode cX2_init 20 = .ok (.bipush 6, 2) := by decide +kernel
theorem dX2_init_22 : decode cX2_init 22 = .ok (.newarray .int, 2) := by decide +kernel
theorem dX2_init_24 : decode cX2_init 24 = .ok (.putfield 18, 3) := by decide +kernel
theorem dX2_init_27 : decode cX2_init 27 = .ok (.aload_n 0, 1) := by decide +kernel
theorem dX2_init_28 : decode cX2_init 28 = .ok (.bipush 6, 2) := by decide +kernel
theorem dX2_init_30 : decode cX2_init 30 = .ok (.newarray .int, 2) := by decide +kernel
theorem dX2_init_32 : decode cX2_init 32 = .ok (.putfield 21, 3) := by decide +kernel
theorem dX2_init_35 : decode cX2_init 35 = .ok (.aload_n 0, 1) := by decide +kernel
theorem dX2_init_36 : decode cX2_init 36 = .ok (.bipush 6, 2) := by decide +kernel
theorem dX2_init_38 : decode cX2_init 38 = .ok (.newarray .int, 2) := by decide +kernel
theorem dX2_init_40 : decode cX2_init 40 = .ok (.putfield 24, 3) := by decide +kernel
theorem dX2_init_43 : decode cX2_init 43 = .ok (.return_, 1) := by decide +kernel
theorem dX2_begin_0 : decode cX2_begin 0 = .ok (.aload_n 0, 1) := by decide +kernel
theorem dX2_begin_1 : decode cX2_begin 1 = .ok (.iload_n 1, 1) := by decide +kernel
theorem dX2_begin_2 : decode cX2_begin 2 = .ok (.putfield 27, 3) := by decide +kernel
theorem dX2_begin_5 : decode cX2_begin 5 = .ok (.aload_n 0, 1) := by decide +kernel
theorem dX2_begin_6 : decode cX2_begin 6 = .ok (.iconst 0, 1) := by decide +kernel
theorem dX2_begin_7 : decode cX2_begin 7 = .ok (.putfield 31, 3) := by decide +kernel
theorem dX2_begin_10 : decode cX2_begin 10 = .ok (.aload_n 0, 1) := by decide +kernel
theorem dX2_begin_11 : decode cX2_begin 11 = .ok (.iconst 0, 1) := by decide +kernel
theorem dX2_begin_12 : decode cX2_begin 12 = .ok (.putfield 34, 3) := by decide +kernel
theorem dX2_begin_15 : decode cX2_begin 15 = .ok (.aload_n 0, 1) := by decide +kernel
theorem dX2_begin_16 : decode cX2_begin 16 = .ok (.iconst 0, 1) := by decide +kernel
theorem dX2_begin_17 : decode cX2_begin 17 = .ok (.putfield 37, 3) := by decide +kernel
theorem dX2_begin_20 : decode cX2_begin 20 = .ok (.return_, 1) := by decide +kernel
theorem dX3_init_0 : decode cX3_init 0 = .ok (.aload_n 0, 1) := by decide +kernel
theorem dX3_init_1 : decode cX3_init 1 = .ok (.invokespecial 1, 3) := by decide +kernel
theorem dX3_init_4 : decode cX3_init 4 = .ok (.aload_n 0, 1) := by decide +kernel
theorem dX3_init_5 : decode cX3_init 5 = .ok (.new 7, 3) := by decide +kernel
theorem dX3_init_8 : decode cX3_init 8 = .ok (.dup, 1) := by decide +kernel
theorem dX3_init_9 : decode cX3_init 9 = .ok (.invokespecial 9, 3) := by decide +kernel
theorem dX3_init_12 : decode cX3_init 12 = .ok (.putfield 10, 3) := by decide +kernel
theorem dX3_init_15 : decode cX3_init 15 = .ok (.aload_n 0, 1) := by decide +kernel
theorem dX3_init_16 : decode cX3_init 16 = .ok (.new 16, 3) := by decide +kernel
theorem dX3_init_19 : decode cX3_init 19 = .ok (.dup, 1) := by decide +kernel
theorem dX3_init_20 : decode cX3_init 20 = .ok (.invokespecial 18, 3) := by decide +kernel
theorem dX3_init_23 : decode cX3_init 23 = .ok (.putfield 19, 3) := by decide +kernel
theorem dX3_init_26 : decode cX3_init 26 = .ok (.aload_n 0, 1) := by decide +kernel
theorem dX3_init_27 : decode cX3_init 27 = .ok (.new 23, 3) := by decide +kernel
theorem dX3_init_30 : decode cX3_init 30 = .ok (.dup, 1) := by decide +kernel
theorem dX3_init_31 : decode cX3_init 31 = .ok (.invokespecial 25, 3) := by decide +kernel
theorem dX3_init_34 : decode cX3_init 34 = .ok (.putfield 26, 3) := by decide +kernel
theorem dX3_init_37 : decode cX3_init 37 = .ok (.aload_n 0, 1) := by decide +kernel
theorem dX3_init_38 : decode cX3_init 38 = .ok (.new 23, 3) := by decide +kernel
theorem dX3_init_41 : decode cX3_init 41 = .ok (.dup, 1) := by decide +kernel
theorem dX3_init_42 : decode cX3_init 42 = .ok (.invokespecial 25, 3) := by decide +kernel
theorem dX3_init_45 : decode cX3_init 45 = .ok (.putfield 30, 3) := by decide +kernel
theorem dX3_init_48 : decode cX3_init 48 = .ok (.aload_n 0, 1) := by decide +kernel
theorem dX3_init_49 : decode cX3_init 49 = .ok (.iconst 5, 1) := by decide +kernel
theorem dX3_init_50 : decode cX3_init 50 = .ok (.newarray .int, 2) := by decide +kernel
theorem dX3_init_52 : decode cX3_init 52 = .ok (.putfield 33, 3) := by decide +kernel
theorem dX3_init_55 : decode cX3_init 55 = .ok (.return_, 1) := by decide +kernel
theorem dX3_letter_0 : decode cX3_letter 0 = .ok (.iload_n 1, 1) := by decide +kernel
theorem dX3_letter_1 : decode cX3_letter 1 = .ok (.iconst 1, 1) := by decide +kernel
theorem dX3_letter_2 : decode cX3_letter 2 = .ok (.if_icmp .lt 9, 3) := by decide +kernel
theorem dX3_letter_5 : decode cX3_letter 5 = .ok (.iload_n 1, 1) := by decide +kernel
theorem dX3_letter_6 : decode cX3_letter 6 = .ok (.bipush 126, 2) := by decide +kernel
theorem dX3_letter_8 : decode cX3_letter 8 = .ok (.if_icmp .le 6, 3) := by decide +kernel
theorem dX3_letter_11 : decode cX3_letter 11 = .ok (.bipush (-102), 2) := by decide +kernel
theorem dX3_letter_13 : decode cX3_letter 13 = .ok (.ireturn, 1) := by decide +kernel
theorem dX3_letter_14 : decode cX3_letter 14 = .ok (.aload_n 0, 1) := by decide +kernel
theorem dX3_letter_15 : decode cX3_letter 15 = .ok (.getfield 10, 3) := by decide +kernel
theorem dX3_letter_18 : decode cX3_letter 18 = .ok (.iload_n 1, 1) := by decide +kernel
theorem dX3_letter_19 : decode cX3_letter 19 = .ok (.invokevirtual 37, 3) := by decide +kernel
theorem dX3_letter_22 : decode cX3_letter 22 = .ok (.ifCond .eq 13, 3) := by decide +kernel
theorem dX3_letter_25 : decode cX3_letter 25 = .ok (.aload_n 0, 1) := by decide +kernel
theorem dX3_letter_26 : decode cX3_letter 26 = .ok (.getfield 10, 3) := by decide +kernel
theorem dX3_letter_29 : decode cX3_letter 29 = .ok (.getfield 41, 3) := by decide +kernel
theorem dX3_letter_32 : decode cX3_letter 32 = .ok (.goto 5, 3) := by decide +kernel
theorem dX3_letter_35 : decode cX3_letter 35 = .ok (.bipush (-104), 2) := by decide +kernel
theorem dX3_letter_37 : decode cX3_letter 37 = .ok (.ireturn, 1) := by decide +kernel
theorem dX3_fault_0 : decode cX3_fault 0 = .ok (.aload_n 0, 1) := by decide +kernel
theorem dX3_fault_1 : decode cX3_fault 1 = .ok (.getfield 10, 3) := by decide +kernel
theorem dX3_fault_4 : decode cX3_fault 4 = .ok (.invokevirtual 45, 3) := by decide +kernel
theorem dX3_fault_7 : decode cX3_fault 7 = .ok (.ireturn, 1) := by decide +kernel
theorem dX3_camp_0 : decode cX3_camp 0 = .ok (.aload_n 0, 1) := by decide +kernel
theorem dX3_camp_1 : decode cX3_camp 1 = .ok (.getfield 10, 3) := by decide +kernel
theorem dX3_camp_4 : decode cX3_camp 4 = .ok (.invokevirtual 49, 3) := by decide +kernel
theorem dX3_camp_7 : decode cX3_camp 7 = .ok (.ifCond .ne 6, 3) := by decide +kernel
theorem dX3_camp_10 : decode cX3_camp 10 = .ok (.bipush (-103), 2) := by decide +kernel
theorem dX3_camp_12 : decode cX3_camp 12 = .ok (.ireturn, 1) := by decide +kernel
theorem dX3_camp_13 : decode cX3_camp 13 = .ok (.aload_n 0, 1) := by decide +kernel
theorem dX3_camp_14 : decode cX3_camp 14 = .ok (.getfield 19, 3) := by decide +kernel
theorem dX3_camp_17 : decode cX3_camp 17 = .ok (.aload_n 0, 1) := by decide +kernel
theorem dX3_camp_18 : decode cX3_camp 18 = .ok (.getfield 10, 3) := by decide +kernel
theorem dX3_camp_21 : decode cX3_camp 21 = .ok (.getfield 41, 3) := by decide +kernel
theorem dX3_camp_24 : decode cX3_camp 24 = .ok (.iconst 5, 1) := by decide +kernel
theorem dX3_camp_25 : decode cX3_camp 25 = .ok (.isub, 1) := by decide +kernel
theorem dX3_camp_26 : decode cX3_camp 26 = .ok (.iconst 1, 1) := by decide +kernel
theorem dX3_camp_27 : decode cX3_camp 27 = .ok (.isub, 1) := by decide +kernel
theorem dX3_camp_28 : decode cX3_camp 28 = .ok (.putfield 53, 3) := by decide +kernel
theorem dX3_camp_31 : decode cX3_camp 31 = .ok (.iconst 0, 1) := by decide +kernel
theorem dX3_camp_32 : decode cX3_camp 32 = .ok (.istore_n 1, 1) := by decide +kernel
theorem dX3_camp_33 : decode cX3_camp 33 = .ok (.iload_n 1, 1) := by decide +kernel
theorem dX3_camp_34 : decode cX3_camp 34 = .ok (.aload_n 0, 1) := by decide +kernel
theorem dX3_camp_35 : decode cX3_camp 35 = .ok (.getfield 19, 3) := by decide +kernel
theorem dX3_camp_38 : decode cX3_camp 38 = .ok (.getfield 53, 3) := by decide +kernel
theorem dX3_camp_41 : decode cX3_camp 41 = .ok (.if_icmp .ge 31, 3) := by decide +kernel
theorem dX3_camp_44 : decode cX3_camp 44 = .ok (.aload_n 0, 1) := by decide +kernel
theorem dX3_camp_45 : decode cX3_camp 45 = .ok (.getfield 19, 3) := by decide +kernel
theorem dX3_camp_48 : decode cX3_camp 48 = .ok (.getfield 56, 3) := by decide +kernel
theorem dX3_camp_51 : decode cX3_camp 51 = .ok (.iload_n 1, 1) := by decide +kernel
theorem dX3_camp_52 : decode cX3_camp 52 = .ok (.aload_n 0, 1) := by decide +kernel
theorem dX3_camp_53 : decode cX3_camp 53 = .ok (.getfield 10, 3) := by decide +kernel
theorem dX3_camp_56 : decode cX3_camp 56 = .ok (.iload_n 1, 1) := by decide +kernel
theorem dX3_camp_57 : decode cX3_camp 57 = .ok (.invokevirtual 59, 3) := by decide +kernel
theorem dX3_camp_60 : decode cX3_camp 60 = .ok (.invokestatic 63, 3) := by decide +kernel
theorem dX3_camp_63 : decode cX3_camp 63 = .ok (.invokestatic 66, 3) := by decide +kernel
theorem dX3_camp_66 : decode cX3_camp 66 = .ok (.iinc 1 1, 3) := by decide +kernel
theorem dX3_camp_69 : decode cX3_camp 69 = .ok (.goto (-36), 3) := by decide +kernel
theorem dX3_camp_72 : decode cX3_camp 72 = .ok (.aload_n 0, 1) := by decide +kernel
theorem dX3_camp_73 : decode cX3_camp 73 = .ok (.getfield 26, 3) := by decide +kernel
theorem dX3_camp_76 : decode cX3_camp 76 = .ok (.aload_n 0, 1) := by decide +kernel
theorem dX3_camp_77 : decode cX3_camp 77 = .ok (.getfield 19, 3) := by decide +kernel
theorem dX3_camp_80 : decode cX3_camp 80 = .ok (.invokevirtual 70, 3) := by decide +kernel
theorem dX3_camp_83 : decode cX3_camp 83 = .ok (.invokevirtual 73, 3) := by decide +kernel
theorem dX3_camp_86 : decode cX3_camp 86 = .ok (.iconst 0, 1) := by decide +kernel
theorem dX3_camp_87 : decode cX3_camp 87 = .ok (.istore_n 1, 1) := by decide +kernel
theorem dX3_camp_88 : decode cX3_camp 88 = .ok (.iload_n 1, 1) := by decide +kernel
theorem dX3_camp_89 : decode cX3_camp 89 = .ok (.iconst 5, 1) := by decide +kernel
theorem dX3_camp_90 : decode cX3_camp 90 = .ok (.if_icmp .ge 41, 3) := by decide +kernel
theorem dX3_camp_93 : decode cX3_camp 93 = .ok (.aload_n 0, 1) := by decide +kernel
theorem dX3_camp_94 : decode cX3_camp 94 = .ok (.getfield 26, 3) := by decide +kernel
theorem dX3_camp_97 : decode cX3_camp 97 = .ok (.getfield 77, 3) := by decide +kernel
theorem dX3_camp_100 : decode cX3_camp 100 = .ok (.iload_n 1, 1) := by decide +kernel
theorem dX3_camp_101 : decode cX3_camp 101 = .ok (.aload_n 0, 1) := by decide +kernel
theorem dX3_camp_102 : decode cX3_camp 102 = .ok (.getfield 10, 3) := by decide +kernel
theorem dX3_camp_105 : decode cX3_camp 105 = .ok (.aload_n 0, 1) := by decide +kernel
theorem dX3_camp_106 : decode cX3_camp 106 = .ok (.getfield 19, 3) := by decide +kernel
theorem dX3_camp_109 : decode cX3_camp 109 = .ok (.getfield 53, 3) := by decide +kernel
theorem dX3_camp_112 : decode cX3_camp 112 = .ok (.iconst 1, 1) := by decide +kernel
theorem dX3_camp_113 : decode cX3_camp 113 = .ok (.iadd, 1) := by decide +kernel
theorem dX3_camp_114 : decode cX3_camp 114 = .ok (.iload_n 1, 1) := by decide +kernel
theorem dX3_camp_115 : decode cX3_camp 115 = .ok (.iadd, 1) := by decide +kernel
theorem dX3_camp_116 : decode cX3_camp 116 = .ok (.invokevirtual 59, 3) := by decide +kernel
theorem dX3_camp_119 : decode cX3_camp 119 = .ok (.bipush 48, 2) := by decide +kernel
theorem dX3_camp_121 : decode cX3_camp 121 = .ok (.isub, 1) := by decide +kernel
theorem dX3_camp_122 : decode cX3_camp 122 = .ok (.invokestatic 66, 3) := by decide +kernel
theorem dX3_camp_125 : decode cX3_camp 125 = .ok (.iinc 1 1, 3) := by decide +kernel
theorem dX3_camp_128 : decode cX3_camp 128 = .ok (.goto (-40), 3) := by decide +kernel
theorem dX3_camp_131 : decode cX3_camp 131 = .ok (.aload_n 0, 1) := by decide +kernel
theorem dX3_camp_132 : decode cX3_camp 132 = .ok (.iconst 0, 1) := by decide +kernel
theorem dX3_camp_133 : decode cX3_camp 133 = .ok (.putfield 80, 3) := by decide +kernel
theorem dX3_camp_136 : decode cX3_camp 136 = .ok (.aload_n 0, 1) := by decide +kernel
theorem dX3_camp_137 : decode cX3_camp 137 = .ok (.dup, 1) := by decide +kernel
theorem dX3_camp_138 : decode cX3_camp 138 = .ok (.getfield 84, 3) := by decide +kernel
theorem dX3_camp_141 : decode cX3_camp 141 = .ok (.iconst 1, 1) := by decide +kernel
theorem dX3_camp_142 : decode cX3_camp 142 = .ok (.iadd, 1) := by decide +kernel
theorem dX3_camp_143 : decode cX3_camp 143 = .ok (.putfield 84, 3) := by decide +kernel
theorem dX3_camp_146 : decode cX3_camp 146 = .ok (.aload_n 0, 1) := by decide +kernel
theorem dX3_camp_147 : decode cX3_camp 147 = .ok (.getfield 10, 3) := by decide +kernel
theorem dX3_camp_150 : decode cX3_camp 150 = .ok (.iconst 0, 1) := by decide +kernel
theorem dX3_camp_151 : decode cX3_camp 151 = .ok (.putfield 41, 3) := by decide +kernel
theorem dX3_camp_154 : decode cX3_camp 154 = .ok (.aload_n 0, 1) := by decide +kernel
theorem dX3_camp_155 : decode cX3_camp 155 = .ok (.getfield 19, 3) := by decide +kernel
theorem dX3_camp_158 : decode cX3_camp 158 = .ok (.getfield 53, 3) := by decide +kernel
theorem dX3_camp_161 : decode cX3_camp 161 = .ok (.ireturn, 1) := by decide +kernel
theorem dX3_member_0 : decode cX3_member 0 = .ok (.iload_n 1, 1) := by decide +kernel
theorem dX3_member_1 : decode cX3_member 1 = .ok (.ifCond .lt 14, 3) := by decide +kernel
theorem dX3_member_4 : decode cX3_member 4 = .ok (.iload_n 1, 1) := by decide +kernel
theorem dX3_member_5 : decode cX3_member 5 = .ok (.aload_n 0, 1) := by decide +kernel
theorem dX3_member_6 : decode cX3_member 6 = .ok (.getfield 19, 3) := by decide +kernel
theorem dX3_member_9 : decode cX3_member 9 = .ok (.getfield 53, 3) := by decide +kernel
theorem dX3_member_12 : decode cX3_member 12 = .ok (.if_icmp .lt 6, 3) := by decide +kernel
theorem dX3_member_15 : decode cX3_member 15 = .ok (.bipush (-101), 2) := by decide +kernel
theorem dX3_member_17 : decode cX3_member 17 = .ok (.ireturn, 1) := by decide +kernel
theorem dX3_member_18 : decode cX3_member 18 = .ok (.aload_n 0, 1) := by decide +kernel
theorem dX3_member_19 : decode cX3_member 19 = .ok (.getfield 19, 3) := by decide +kernel
theorem dX3_member_22 : decode cX3_member 22 = .ok (.getfield 56, 3) := by decide +kernel
theorem dX3_member_25 : decode cX3_member 25 = .ok (.iload_n 1, 1) := by decide +kernel
theorem dX3_member_26 : decode cX3_member 26 = .ok (.invokestatic 87, 3) := by decide +kernel
theorem dX3_member_29 : decode cX3_member 29 = .ok (.istore_n 3, 1) := by decide +kernel
theorem dX3_member_30 : decode cX3_member 30 = .ok (.iload_n 2, 1) := by decide +kernel
theorem dX3_member_31 : decode cX3_member 31 = .ok (.tableswitch 71 0 4 #[33, 35, 43, 51, 59], 33) := by decide +kernel
theorem dX3_member_64 : decode cX3_member 64 = .ok (.iload_n 3, 1) := by decide +kernel
theorem dX3_member_65 : decode cX3_member 65 = .ok (.ireturn, 1) := by decide +kernel
theorem dX3_member_66 : decode cX3_member 66 = .ok (.getstatic 91, 3) := by decide +kernel
theorem dX3_member_69 : decode cX3_member 69 = .ok (.iload_n 3, 1) := by decide +kernel
theorem dX3_member_70 : decode cX3_member 70 = .ok (.invokestatic 87, 3) := by decide +kernel
theorem dX3_member_73 : decode cX3_member 73 = .ok (.ireturn, 1) := by decide +kernel
theorem dX3_member_74 : decode cX3_member 74 = .ok (.getstatic 94, 3) := by decide +kernel
theorem dX3_member_77 : decode cX3_member 77 = .ok (.iload_n 3, 1) := by decide +kernel
theorem dX3_member_78 : decode cX3_member 78 = .ok (.invokestatic 87, 3) := by decide +kernel
theorem dX3_member_81 : decode cX3_member 81 = .ok (.ireturn, 1) := by decide +kernel
theorem dX3_member_82 : decode cX3_member 82 = .ok (.getstatic 97, 3) := by decide +kernel
theorem dX3_member_85 : decode cX3_member 85 = .ok (.iload_n 3, 1) := by decide +kernel
theorem dX3_member_86 : decode cX3_member 86 = .ok (.invokestatic 87, 3) := by decide +kernel
theorem dX3_member_89 : decode cX3_member 89 = .ok (.ireturn, 1) := by decide +kernel
theorem dX3_member_90 : decode cX3_member 90 = .ok (.aload_n 0, 1) := by decide +kernel
theorem dX3_member_91 : decode cX3_member 91 = .ok (.getfield 26, 3) := by decide +kernel
theorem dX3_member_94 : decode cX3_member 94 = .ok (.getfield 100, 3) := by decide +kernel
theorem dX3_member_97 : decode cX3_member 97 = .ok (.iload_n 1, 1) := by decide +kernel
theorem dX3_member_98 : decode cX3_member 98 = .ok (.ishr, 1) := by decide +kernel
theorem dX3_member_99 : decode cX3_member 99 = .ok (.iconst 1, 1) := by decide +kernel
theorem dX3_member_100 : decode cX3_member 100 = .ok (.iand, 1) := by decide +kernel
theorem dX3_member_101 : decode cX3_member 101 = .ok (.ireturn, 1) := by decide +kernel
theorem dX3_member_102 : decode cX3_member 102 = .ok (.bipush (-102), 2) := by decide +kernel
theorem dX3_member_104 : decode cX3_member 104 = .ok (.ireturn, 1) := by decide +kernel
theorem dX3_as_0 : decode cX3_as 0 = .ok (.iload_n 1, 1) := by decide +kernel
theorem dX3_as_1 : decode cX3_as 1 = .ok (.ifCond .lt 14, 3) := by decide +kernel
theorem dX3_as_4 : decode cX3_as 4 = .ok (.iload_n 1, 1) := by decide +kernel
theorem dX3_as_5 : decode cX3_as 5 = .ok (.aload_n 0, 1) := by decide +kernel
theorem dX3_as_6 : decode cX3_as 6 = .ok (.getfield 19, 3) := by decide +kernel
theorem dX3_as_9 : decode cX3_as 9 = .ok (.getfield 53, 3) := by decide +kernel
theorem dX3_as_12 : decode cX3_as 12 = .ok (.if_icmp .lt 6, 3) := by decide +kernel
theorem dX3_as_15 : decode cX3_as 15 = .ok (.bipush (-101), 2) := by decide +kernel
theorem dX3_as_17 : decode cX3_as 17 = .ok (.ireturn, 1) := by decide +kernel
theorem dX3_as_18 : decode cX3_as 18 = .ok (.iload_n 2, 1) := by decide +kernel
theorem dX3_as_19 : decode cX3_as 19 = .ok (.ifCond .lt 8, 3) := by decide +kernel
theorem dX3_as_22 : decode cX3_as 22 = .ok (.iload_n 2, 1) := by decide +kernel
theorem dX3_as_23 : decode cX3_as 23 = .ok (.iconst 5, 1) := by decide +kernel
theorem dX3_as_24 : decode cX3_as 24 = .ok (.if_icmp .lt 6, 3) := by decide +kernel
theorem dX3_as_27 : decode cX3_as 27 = .ok (.bipush (-102), 2) := by decide +kernel
theorem dX3_as_29 : decode cX3_as 29 = .ok (.ireturn, 1) := by decide +kernel
theorem dX3_as_30 : decode cX3_as 30 = .ok (.aload_n 0, 1) := by decide +kernel
theorem dX3_as_31 : decode cX3_as 31 = .ok (.getfield 19, 3) := by decide +kernel
theorem dX3_as_34 : decode cX3_as 34 = .ok (.getfield 56, 3) := by decide +kernel
theorem dX3_as_37 : decode cX3_as 37 = .ok (.iload_n 1, 1) := by decide +kernel
theorem dX3_as_38 : decode cX3_as 38 = .ok (.invokestatic 87, 3) := by decide +kernel
theorem dX3_as_41 : decode cX3_as 41 = .ok (.iload_n 2, 1) := by decide +kernel
theorem dX3_as_42 : decode cX3_as 42 = .ok (.invokestatic 103, 3) := by decide +kernel
theorem dX3_as_45 : decode cX3_as 45 = .ok (.ifCond .eq 7, 3) := by decide +kernel
theorem dX3_as_48 : decode cX3_as 48 = .ok (.iload_n 1, 1) := by decide +kernel
theorem dX3_as_49 : decode cX3_as 49 = .ok (.goto 4, 3) := by decide +kernel
theorem dX3_as_52 : decode cX3_as 52 = .ok (.iconst (-1), 1) := by decide +kernel
theorem dX3_as_53 : decode cX3_as 53 = .ok (.ireturn, 1) := by decide +kernel
theorem dX3_cairn_0 : decode cX3_cairn 0 = .ok (.aload_n 0, 1) := by decide +kernel
theorem dX3_cairn_1 : decode cX3_cairn 1 = .ok (.iload_n 1, 1) := by decide +kernel
theorem dX3_cairn_2 : decode cX3_cairn 2 = .ok (.invokevirtual 107, 3) := by decide +kernel
theorem dX3_cairn_5 : decode cX3_cairn 5 = .ok (.ifCond .eq 6, 3) := by decide +kernel
theorem dX3_cairn_8 : decode cX3_cairn 8 = .ok (.bipush (-101), 2) := by decide +kernel
theorem dX3_cairn_10 : decode cX3_cairn 10 = .ok (.ireturn, 1) := by decide +kernel
theorem dX3_cairn_11 : decode cX3_cairn 11 = .ok (.iload_n 2, 1) := by decide +kernel
theorem dX3_cairn_12 : decode cX3_cairn 12 = .ok (.tableswitch 59 0 2 #[28, 42, 48], 28) := by decide +kernel
theorem dX3_cairn_40 : decode cX3_cairn 40 = .ok (.aload_n 0, 1) := by decide +kernel
theorem dX3_cairn_41 : decode cX3_cairn 41 = .ok (.getfield 26, 3) := by decide +kernel
theorem dX3_cairn_44 : decode cX3_cairn 44 = .ok (.getfield 77, 3) := by decide +kernel
theorem dX3_cairn_47 : decode cX3_cairn 47 = .ok (.iload_n 1, 1) := by decide +kernel
theorem dX3_cairn_48 : decode cX3_cairn 48 = .ok (.iconst 1, 1) := by decide +kernel
theorem dX3_cairn_49 : decode cX3_cairn 49 = .ok (.isub, 1) := by decide +kernel
theorem dX3_cairn_50 : decode cX3_cairn 50 = .ok (.invokestatic 87, 3) := by decide +kernel
theorem dX3_cairn_53 : decode cX3_cairn 53 = .ok (.ireturn, 1) := by decide +kernel
theorem dX3_cairn_54 : decode cX3_cairn 54 = .ok (.aload_n 0, 1) := by decide +kernel
theorem dX3_cairn_55 : decode cX3_cairn 55 = .ok (.iload_n 1, 1) := by decide +kernel
theorem dX3_cairn_56 : decode cX3_cairn 56 = .ok (.invokevirtual 110, 3) := by decide +kernel
theorem dX3_cairn_59 : decode cX3_cairn 59 = .ok (.ireturn, 1) := by decide +kernel
theorem dX3_cairn_60 : decode cX3_cairn 60 = .ok (.aload_n 0, 1) := by decide +kernel
theorem dX3_cairn_61 : decode cX3_cairn 61 = .ok (.iload_n 1, 1) := by decide +kernel
theorem dX3_cairn_62 : decode cX3_cairn 62 = .ok (.aload_n 0, 1) := by decide +kernel
theorem dX3_cairn_63 : decode cX3_cairn 63 = .ok (.iload_n 1, 1) := by decide +kernel
theorem dX3_cairn_64 : decode cX3_cairn 64 = .ok (.invokevirtual 110, 3) := by decide +kernel
theorem dX3_cairn_67 : decode cX3_cairn 67 = .ok (.invokevirtual 113, 3) := by decide +kernel
theorem dX3_cairn_70 : decode cX3_cairn 70 = .ok (.ireturn, 1) := by decide +kernel
theorem dX3_cairn_71 : decode cX3_cairn 71 = .ok (.bipush (-102), 2) := by decide +kernel
theorem dX3_cairn_73 : decode cX3_cairn 73 = .ok (.ireturn, 1) := by decide +kernel
theorem dX3_lay_0 : decode cX3_lay 0 = .ok (.aload_n 0, 1) := by decide +kernel
theorem dX3_lay_1 : decode cX3_lay 1 = .ok (.iload_n 1, 1) := by decide +kernel
theorem dX3_lay_2 : decode cX3_lay 2 = .ok (.invokevirtual 107, 3) := by decide +kernel
theorem dX3_lay_5 : decode cX3_lay 5 = .ok (.ifCond .eq 6, 3) := by decide +kernel
theorem dX3_lay_8 : decode cX3_lay 8 = .ok (.bipush (-101), 2) := by decide +kernel
theorem dX3_lay_10 : decode cX3_lay 10 = .ok (.ireturn, 1) := by decide +kernel
theorem dX3_lay_11 : decode cX3_lay 11 = .ok (.iload_n 2, 1) := by decide +kernel
theorem dX3_lay_12 : decode cX3_lay 12 = .ok (.ifCond .lt 9, 3) := by decide +kernel
theorem dX3_lay_15 : decode cX3_lay 15 = .ok (.iload_n 2, 1) := by decide +kernel
theorem dX3_lay_16 : decode cX3_lay 16 = .ok (.bipush 9, 2) := by decide +kernel
theorem dX3_lay_18 : decode cX3_lay 18 = .ok (.if_icmp .le 6, 3) := by decide +kernel
theorem dX3_lay_21 : decode cX3_lay 21 = .ok (.bipush (-102), 2) := by decide +kernel
theorem dX3_lay_23 : decode cX3_lay 23 = .ok (.ireturn, 1) := by decide +kernel
theorem dX3_lay_24 : decode cX3_lay 24 = .ok (.aload_n 0, 1) := by decide +kernel
theorem dX3_lay_25 : decode cX3_lay 25 = .ok (.getfield 26, 3) := by decide +kernel
theorem dX3_lay_28 : decode cX3_lay 28 = .ok (.getfield 77, 3) := by decide +kernel
theorem dX3_lay_31 : decode cX3_lay 31 = .ok (.iload_n 1, 1) := by decide +kernel
theorem dX3_lay_32 : decode cX3_lay 32 = .ok (.iconst 1, 1) := by decide +kernel
theorem dX3_lay_33 : decode cX3_lay 33 = .ok (.isub, 1) := by decide +kernel
theorem dX3_lay_34 : decode cX3_lay 34 = .ok (.invokestatic 87, 3) := by decide +kernel
theorem dX3_lay_37 : decode cX3_lay 37 = .ok (.istore_n 3, 1) := by decide +kernel
theorem dX3_lay_38 : decode cX3_lay 38 = .ok (.aload_n 0, 1) := by decide +kernel
theorem dX3_lay_39 : decode cX3_lay 39 = .ok (.getfield 26, 3) := by decide +kernel
theorem dX3_lay_42 : decode cX3_lay 42 = .ok (.getfield 77, 3) := by decide +kernel
theorem dX3_lay_45 : decode cX3_lay 45 = .ok (.iload_n 1, 1) := by decide +kernel
theorem dX3_lay_46 : decode cX3_lay 46 = .ok (.iconst 1, 1) := by decide +kernel
theorem dX3_lay_47 : decode cX3_lay 47 = .ok (.isub, 1) := by decide +kernel
theorem dX3_lay_48 : decode cX3_lay 48 = .ok (.iload_n 2, 1) := by decide +kernel
theorem dX3_lay_49 : decode cX3_lay 49 = .ok (.invokestatic 66, 3) := by decide +kernel
theorem dX3_lay_52 : decode cX3_lay 52 = .ok (.iload_n 3, 1) := by decide +kernel
theorem dX3_lay_53 : decode cX3_lay 53 = .ok (.ireturn, 1) := by decide +kernel
theorem dX3_march_0 : decode cX3_march 0 = .ok (.aload_n 0, 1) := by decide +kernel
theorem dX3_march_1 : decode cX3_march 1 = .ok (.iload_n 1, 1) := by decide +kernel
theorem dX3_march_2 : decode cX3_march 2 = .ok (.iload_n 2, 1) := by decide +kernel
theorem dX3_march_3 : decode cX3_march 3 = .ok (.iload_n 3, 1) := by decide +kernel
theorem dX3_march_4 : decode cX3_march 4 = .ok (.invokevirtual 117, 3) := by decide +kernel
theorem dX3_march_7 : decode cX3_march 7 = .ok (.ifCond .eq 6, 3) := by decide +kernel
theorem dX3_march_10 : decode cX3_march 10 = .ok (.bipush (-102), 2) := by decide +kernel
theorem dX3_march_12 : decode cX3_march 12 = .ok (.ireturn, 1) := by decide +kernel
theorem dX3_march_13 : decode cX3_march 13 = .ok (.aload_n 0, 1) := by decide +kernel
theorem dX3_march_14 : decode cX3_march 14 = .ok (.iload_n 1, 1) := by decide +kernel
theorem dX3_march_15 : decode cX3_march 15 = .ok (.invokevirtual 121, 3) := by decide +kernel
theorem dX3_march_18 : decode cX3_march 18 = .ok (.ifCond .eq 6, 3) := by decide +kernel
theorem dX3_march_21 : decode cX3_march 21 = .ok (.bipush (-103), 2) := by decide +kernel
theorem dX3_march_23 : decode cX3_march 23 = .ok (.ireturn, 1) := by decide +kernel
theorem dX3_march_24 : decode cX3_march 24 = .ok (.aload_n 0, 1) := by decide +kernel
theorem dX3_march_25 : decode cX3_march 25 = .ok (.getfield 19, 3) := by decide +kernel
theorem dX3_march_28 : decode cX3_march 28 = .ok (.aload_n 0, 1) := by decide +kernel
theorem dX3_march_29 : decode cX3_march 29 = .ok (.getfield 26, 3) := by decide +kernel
theorem dX3_march_32 : decode cX3_march 32 = .ok (.getfield 77, 3) := by decide +kernel
theorem dX3_march_35 : decode cX3_march 35 = .ok (.invokevirtual 124, 3) := by decide +kernel
theorem dX3_march_38 : decode cX3_march 38 = .ok (.aload_n 0, 1) := by decide +kernel
theorem dX3_march_39 : decode cX3_march 39 = .ok (.getfield 19, 3) := by decide +kernel
theorem dX3_march_42 : decode cX3_march 42 = .ok (.iload_n 1, 1) := by decide +kernel
theorem dX3_march_43 : decode cX3_march 43 = .ok (.iload_n 2, 1) := by decide +kernel
theorem dX3_march_44 : decode cX3_march 44 = .ok (.iload_n 3, 1) := by decide +kernel
theorem dX3_march_45 : decode cX3_march 45 = .ok (.invokevirtual 128, 3) := by decide +kernel
theorem dX3_march_48 : decode cX3_march 48 = .ok (.pop, 1) := by decide +kernel
theorem dX3_march_49 : decode cX3_march 49 = .ok (.aload_n 0, 1) := by decide +kernel
theorem dX3_march_50 : decode cX3_march 50 = .ok (.getfield 26, 3) := by decide +kernel
theorem dX3_march_53 : decode cX3_march 53 = .ok (.aload_n 0, 1) := by decide +kernel
theorem dX3_march_54 : decode cX3_march 54 = .ok (.getfield 26, 3) := by decide +kernel
theorem dX3_march_57 : decode cX3_march 57 = .ok (.getfield 100, 3) := by decide +kernel
theorem dX3_march_60 : decode cX3_march 60 = .ok (.iload_n 1, 1) := by decide +kernel
theorem dX3_march_61 : decode cX3_march 61 = .ok (.iconst (-1), 1) := by decide +kernel
theorem dX3_march_62 : decode cX3_march 62 = .ok (.ixor, 1) := by decide +kernel
theorem dX3_march_63 : decode cX3_march 63 = .ok (.iand, 1) := by decide +kernel
theorem dX3_march_64 : decode cX3_march 64 = .ok (.aload_n 0, 1) := by decide +kernel
theorem dX3_march_65 : decode cX3_march 65 = .ok (.getfield 19, 3) := by decide +kernel
theorem dX3_march_68 : decode cX3_march 68 = .ok (.getfield 131, 3) := by decide +kernel
theorem dX3_march_71 : decode cX3_march 71 = .ok (.ior, 1) := by decide +kernel
theorem dX3_march_72 : decode cX3_march 72 = .ok (.putfield 100, 3) := by decide +kernel
theorem dX3_march_75 : decode cX3_march 75 = .ok (.aload_n 0, 1) := by decide +kernel
theorem dX3_march_76 : decode cX3_march 76 = .ok (.getfield 19, 3) := by decide +kernel
theorem dX3_march_79 : decode cX3_march 79 = .ok (.getfield 132, 3) := by decide +kernel
theorem dX3_march_82 : decode cX3_march 82 = .ok (.aload_n 0, 1) := by decide +kernel
theorem dX3_march_83 : decode cX3_march 83 = .ok (.getfield 26, 3) := by decide +kernel
theorem dX3_march_86 : decode cX3_march 86 = .ok (.getfield 77, 3) := by decide +kernel
theorem dX3_march_89 : decode cX3_march 89 = .ok (.invokestatic 133, 3) := by decide +kernel
theorem dX3_march_92 : decode cX3_march 92 = .ok (.aload_n 0, 1) := by decide +kernel
theorem dX3_march_93 : decode cX3_march 93 = .ok (.getfield 26, 3) := by decide +kernel
theorem dX3_march_96 : decode cX3_march 96 = .ok (.dup, 1) := by decide +kernel
theorem dX3_march_97 : decode cX3_march 97 = .ok (.getfield 137, 3) := by decide +kernel
theorem dX3_march_100 : decode cX3_march 100 = .ok (.iconst 1, 1) := by decide +kernel
theorem dX3_march_101 : decode cX3_march 101 = .ok (.iadd, 1) := by decide +kernel
theorem dX3_march_102 : decode cX3_march 102 = .ok (.putfield 137, 3) := by decide +kernel
theorem dX3_march_105 : decode cX3_march 105 = .ok (.aload_n 0, 1) := by decide +kernel
theorem dX3_march_106 : decode cX3_march 106 = .ok (.getfield 19, 3) := by decide +kernel
theorem dX3_march_109 : decode cX3_march 109 = .ok (.getfield 131, 3) := by decide +kernel
theorem dX3_march_112 : decode cX3_march 112 = .ok (.ifCond .eq 16, 3) := by decide +kernel
theorem dX3_march_115 : decode cX3_march 115 = .ok (.aload_n 0, 1) := by decide +kernel
theorem dX3_march_116 : decode cX3_march 116 = .ok (.getfield 26, 3) := by decide +kernel
theorem dX3_march_119 : decode cX3_march 119 = .ok (.dup, 1) := by decide +kernel
theorem dX3_march_120 : decode cX3_march 120 = .ok (.getfield 140, 3) := by decide +kernel
theorem dX3_march_123 : decode cX3_march 123 = .ok (.iconst 1, 1) := by decide +kernel
theorem dX3_march_124 : decode cX3_march 124 = .ok (.iadd, 1) := by decide +kernel
theorem dX3_march_125 : decode cX3_march 125 = .ok (.putfield 140, 3) := by decide +kernel
theorem dX3_march_128 : decode cX3_march 128 = .ok (.aload_n 0, 1) := by decide +kernel
theorem dX3_march_129 : decode cX3_march 129 = .ok (.getfield 19, 3) := by decide +kernel
theorem dX3_march_132 : decode cX3_march 132 = .ok (.getfield 131, 3) := by decide +kernel
theorem dX3_march_135 : decode cX3_march 135 = .ok (.ireturn, 1) := by decide +kernel
theorem dX3_would_0 : decode cX3_would 0 = .ok (.aload_n 0, 1) := by decide +kernel
theorem dX3_would_1 : decode cX3_would 1 = .ok (.iload_n 1, 1) := by decide +kernel
theorem dX3_would_2 : decode cX3_would 2 = .ok (.iload_n 2, 1) := by decide +kernel
theorem dX3_would_3 : decode cX3_would 3 = .ok (.iload_n 3, 1) := by decide +kernel
theorem dX3_would_4 : decode cX3_would 4 = .ok (.invokevirtual 117, 3) := by decide +kernel
theorem dX3_would_7 : decode cX3_would 7 = .ok (.ifCond .ne 14, 3) := by decide +kernel
theorem dX3_would_10 : decode cX3_would 10 = .ok (.iload 4, 2) := by decide +kernel
theorem dX3_would_12 : decode cX3_would 12 = .ok (.ifCond .lt 9, 3) := by decide +kernel
theorem dX3_would_15 : decode cX3_would 15 = .ok (.iload 4, 2) := by decide +kernel
theorem dX3_would_17 : decode cX3_would 17 = .ok (.iconst 3, 1) := by decide +kernel
theorem dX3_would_18 : decode cX3_would 18 = .ok (.if_icmp .le 6, 3) := by decide +kernel
theorem dX3_would_21 : decode cX3_would 21 = .ok (.bipush (-102), 2) := by decide +kernel
theorem dX3_would_23 : decode cX3_would 23 = .ok (.ireturn, 1) := by decide +kernel
theorem dX3_would_24 : decode cX3_would 24 = .ok (.aload_n 0, 1) := by decide +kernel
theorem dX3_would_25 : decode cX3_would 25 = .ok (.iload_n 1, 1) := by decide +kernel
theorem dX3_would_26 : decode cX3_would 26 = .ok (.invokevirtual 121, 3) := by decide +kernel
theorem dX3_would_29 : decode cX3_would 29 = .ok (.ifCond .eq 6, 3) := by decide +kernel
theorem dX3_would_32 : decode cX3_would 32 = .ok (.bipush (-103), 2) := by decide +kernel
theorem dX3_would_34 : decode cX3_would 34 = .ok (.ireturn, 1) := by decide +kernel
theorem dX3_would_35 : decode cX3_would 35 = .ok (.aload_n 0, 1) := by decide +kernel
theorem dX3_would_36 : decode cX3_would 36 = .ok (.getfield 19, 3) := by decide +kernel
theorem dX3_would_39 : decode cX3_would 39 = .ok (.aload_n 0, 1) := by decide +kernel
theorem dX3_would_40 : decode cX3_would 40 = .ok (.getfield 26, 3) := by decide +kernel
theorem dX3_would_43 : decode cX3_would 43 = .ok (.getfield 77, 3) := by decide +kernel
theorem dX3_would_46 : decode cX3_would 46 = .ok (.invokevirtual 124, 3) := by decide +kernel
theorem dX3_would_49 : decode cX3_would 49 = .ok (.aload_n 0, 1) := by decide +kernel
theorem dX3_would_50 : decode cX3_would 50 = .ok (.getfield 19, 3) := by decide +kernel
theorem dX3_would_53 : decode cX3_would 53 = .ok (.iload_n 1, 1) := by decide +kernel
theorem dX3_would_54 : decode cX3_would 54 = .ok (.iload_n 2, 1) := by decide +kernel
theorem dX3_would_55 : decode cX3_would 55 = .ok (.iload_n 3, 1) := by decide +kernel
theorem dX3_would_56 : decode cX3_would 56 = .ok (.invokevirtual 128, 3) := by decide +kernel
theorem dX3_would_59 : decode cX3_would 59 = .ok (.pop, 1) := by decide +kernel
theorem dX3_would_60 : decode cX3_would 60 = .ok (.iload 4, 2) := by decide +kernel
theorem dX3_would_62 : decode cX3_would 62 = .ok (.tableswitch 53 0 2 #[26, 34, 42], 26) := by decide +kernel
theorem dX3_would_88 : decode cX3_would 88 = .ok (.aload_n 0, 1) := by decide +kernel
theorem dX3_would_89 : decode cX3_would 89 = .ok (.getfield 19, 3) := by decide +kernel
theorem dX3_would_92 : decode cX3_would 92 = .ok (.getfield 131, 3) := by decide +kernel
theorem dX3_would_95 : decode cX3_would 95 = .ok (.ireturn, 1) := by decide +kernel
theorem dX3_would_96 : decode cX3_would 96 = .ok (.aload_n 0, 1) := by decide +kernel
theorem dX3_would_97 : decode cX3_would 97 = .ok (.getfield 19, 3) := by decide +kernel
theorem dX3_would_100 : decode cX3_would 100 = .ok (.getfield 143, 3) := by decide +kernel
theorem dX3_would_103 : decode cX3_would 103 = .ok (.ireturn, 1) := by decide +kernel
theorem dX3_would_104 : decode cX3_would 104 = .ok (.aload_n 0, 1) := by decide +kernel
theorem dX3_would_105 : decode cX3_would 105 = .ok (.getfield 19, 3) := by decide +kernel
theorem dX3_would_108 : decode cX3_would 108 = .ok (.getfield 132, 3) := by decide +kernel
theorem dX3_would_111 : decode cX3_would 111 = .ok (.invokestatic 146, 3) := by decide +kernel
theorem dX3_would_114 : decode cX3_would 114 = .ok (.ireturn, 1) := by decide +kernel
theorem dX3_would_115 : decode cX3_would 115 = .ok (.aload_n 0, 1) := by decide +kernel
theorem dX3_would_116 : decode cX3_would 116 = .ok (.getfield 19, 3) := by decide +kernel
theorem dX3_would_119 : decode cX3_would 119 = .ok (.getfield 150, 3) := by decide +kernel
theorem dX3_would_122 : decode cX3_would 122 = .ok (.ireturn, 1) := by decide +kernel
theorem dX3_winters_0 : decode cX3_winters 0 = .ok (.iload_n 1, 1) := by decide +kernel
theorem dX3_winters_1 : decode cX3_winters 1 = .ok (.iconst 1, 1) := by decide +kernel
theorem dX3_winters_2 : decode cX3_winters 2 = .ok (.if_icmp .lt 22, 3) := by decide +kernel
theorem dX3_winters_5 : decode cX3_winters 5 = .ok (.iload_n 1, 1) := by decide +kernel
theorem dX3_winters_6 : decode cX3_winters 6 = .ok (.bipush 20, 2) := by decide +kernel
theorem dX3_winters_8 : decode cX3_winters 8 = .ok (.if_icmp .gt 16, 3) := by decide +kernel
theorem dX3_winters_11 : decode cX3_winters 11 = .ok (.iload_n 2, 1) := by decide +kernel
theorem dX3_winters_12 : decode cX3_winters 12 = .ok (.ifCond .lt 12, 3) := by decide +kernel
theorem dX3_winters_15 : decode cX3_winters 15 = .ok (.iload_n 3, 1) := by decide +kernel
theorem dX3_winters_16 : decode cX3_winters 16 = .ok (.ifCond .lt 8, 3) := by decide +kernel
theorem dX3_winters_19 : decode cX3_winters 19 = .ok (.iload_n 3, 1) := by decide +kernel
theorem dX3_winters_20 : decode cX3_winters 20 = .ok (.iconst 2, 1) := by decide +kernel
theorem dX3_winters_21 : decode cX3_winters 21 = .ok (.if_icmp .le 6, 3) := by decide +kernel
theorem dX3_winters_24 : decode cX3_winters 24 = .ok (.bipush (-102), 2) := by decide +kernel
theorem dX3_winters_26 : decode cX3_winters 26 = .ok (.ireturn, 1) := by decide +kernel
theorem dX3_winters_27 : decode cX3_winters 27 = .ok (.aload_n 0, 1) := by decide +kernel
theorem dX3_winters_28 : decode cX3_winters 28 = .ok (.getfield 19, 3) := by decide +kernel
theorem dX3_winters_31 : decode cX3_winters 31 = .ok (.getfield 53, 3) := by decide +kernel
theorem dX3_winters_34 : decode cX3_winters 34 = .ok (.ifCond .ne 6, 3) := by decide +kernel
theorem dX3_winters_37 : decode cX3_winters 37 = .ok (.bipush (-103), 2) := by decide +kernel
theorem dX3_winters_39 : decode cX3_winters 39 = .ok (.ireturn, 1) := by decide +kernel
theorem dX3_winters_40 : decode cX3_winters 40 = .ok (.aload_n 0, 1) := by decide +kernel
theorem dX3_winters_41 : decode cX3_winters 41 = .ok (.iload_n 1, 1) := by decide +kernel
theorem dX3_winters_42 : decode cX3_winters 42 = .ok (.iload_n 2, 1) := by decide +kernel
theorem dX3_winters_43 : decode cX3_winters 43 = .ok (.invokevirtual 180, 3) := by decide +kernel
theorem dX3_winters_46 : decode cX3_winters 46 = .ok (.istore 4, 2) := by decide +kernel
theorem dX3_winters_48 : decode cX3_winters 48 = .ok (.iload_n 3, 1) := by decide +kernel
theorem dX3_winters_49 : decode cX3_winters 49 = .ok (.iconst 2, 1) := by decide +kernel
theorem dX3_winters_50 : decode cX3_winters 50 = .ok (.if_icmp .ne 6, 3) := by decide +kernel
theorem dX3_winters_53 : decode cX3_winters 53 = .ok (.iload 4, 2) := by decide +kernel
theorem dX3_winters_55 : decode cX3_winters 55 = .ok (.ireturn, 1) := by decide +kernel
theorem dX3_winters_56 : decode cX3_winters 56 = .ok (.iload_n 3, 1) := by decide +kernel
theorem dX3_winters_57 : decode cX3_winters 57 = .ok (.ifCond .ne 13, 3) := by decide +kernel
theorem dX3_winters_60 : decode cX3_winters 60 = .ok (.aload_n 0, 1) := by decide +kernel
theorem dX3_winters_61 : decode cX3_winters 61 = .ok (.getfield 33, 3) := by decide +kernel
theorem dX3_winters_64 : decode cX3_winters 64 = .ok (.invokestatic 146, 3) := by decide +kernel
theorem dX3_winters_67 : decode cX3_winters 67 = .ok (.goto 18, 3) := by decide +kernel
theorem dX3_winters_70 : decode cX3_winters 70 = .ok (.aload_n 0, 1) := by decide +kernel
theorem dX3_winters_71 : decode cX3_winters 71 = .ok (.aload_n 0, 1) := by decide +kernel
theorem dX3_winters_72 : decode cX3_winters 72 = .ok (.getfield 26, 3) := by decide +kernel
theorem dX3_winters_75 : decode cX3_winters 75 = .ok (.getfield 100, 3) := by decide +kernel
theorem dX3_winters_78 : decode cX3_winters 78 = .ok (.aload_n 0, 1) := by decide +kernel
theorem dX3_winters_79 : decode cX3_winters 79 = .ok (.getfield 33, 3) := by decide +kernel
theorem dX3_winters_82 : decode cX3_winters 82 = .ok (.invokevirtual 163, 3) := by decide +kernel
theorem dX3_winters_85 : decode cX3_winters 85 = .ok (.ireturn, 1) := by decide +kernel
theorem dX3_count_0 : decode cX3_count 0 = .ok (.iload_n 1, 1) := by decide +kernel
theorem dX3_count_1 : decode cX3_count 1 = .ok (.tableswitch 167 0 10 #[59, 67, 78, 89, 97, 105, 123, 141, 149, 157, 162], 59) := by decide +kernel
theorem dX3_count_60 : decode cX3_count 60 = .ok (.aload_n 0, 1) := by decide +kernel
theorem dX3_count_61 : decode cX3_count 61 = .ok (.getfield 19, 3) := by decide +kernel
theorem dX3_count_64 : decode cX3_count 64 = .ok (.getfield 53, 3) := by decide +kernel
theorem dX3_count_67 : decode cX3_count 67 = .ok (.ireturn, 1) := by decide +kernel
theorem dX3_count_68 : decode cX3_count 68 = .ok (.aload_n 0, 1) := by decide +kernel
theorem dX3_count_69 : decode cX3_count 69 = .ok (.getfield 26, 3) := by decide +kernel
theorem dX3_count_72 : decode cX3_count 72 = .ok (.getfield 100, 3) := by decide +kernel
theorem dX3_count_75 : decode cX3_count 75 = .ok (.invokestatic 187, 3) := by decide +kernel
theorem dX3_count_78 : decode cX3_count 78 = .ok (.ireturn, 1) := by decide +kernel
theorem dX3_count_79 : decode cX3_count 79 = .ok (.aload_n 0, 1) := by decide +kernel
theorem dX3_count_80 : decode cX3_count 80 = .ok (.getfield 26, 3) := by decide +kernel
theorem dX3_count_83 : decode cX3_count 83 = .ok (.getfield 77, 3) := by decide +kernel
theorem dX3_count_86 : decode cX3_count 86 = .ok (.invokestatic 146, 3) := by decide +kernel
theorem dX3_count_89 : decode cX3_count 89 = .ok (.ireturn, 1) := by decide +kernel
theorem dX3_count_90 : decode cX3_count 90 = .ok (.aload_n 0, 1) := by decide +kernel
theorem dX3_count_91 : decode cX3_count 91 = .ok (.getfield 26, 3) := by decide +kernel
theorem dX3_count_94 : decode cX3_count 94 = .ok (.getfield 137, 3) := by decide +kernel
theorem dX3_count_97 : decode cX3_count 97 = .ok (.ireturn, 1) := by decide +kernel
theorem dX3_count_98 : decode cX3_count 98 = .ok (.aload_n 0, 1) := by decide +kernel
theorem dX3_count_99 : decode cX3_count 99 = .ok (.getfield 26, 3) := by decide +kernel
theorem dX3_count_102 : decode cX3_count 102 = .ok (.getfield 140, 3) := by decide +kernel
theorem dX3_count_105 : decode cX3_count 105 = .ok (.ireturn, 1) := by decide +kernel
theorem dX3_count_106 : decode cX3_count 106 = .ok (.aload_n 0, 1) := by decide +kernel
theorem dX3_count_107 : decode cX3_count 107 = .ok (.getfield 19, 3) := by decide +kernel
theorem dX3_count_110 : decode cX3_count 110 = .ok (.aload_n 0, 1) := by decide +kernel
theorem dX3_count_111 : decode cX3_count 111 = .ok (.getfield 26, 3) := by decide +kernel
theorem dX3_count_114 : decode cX3_count 114 = .ok (.getfield 100, 3) := by decide +kernel
theorem dX3_count_117 : decode cX3_count 117 = .ok (.getstatic 91, 3) := by decide +kernel
theorem dX3_count_120 : decode cX3_count 120 = .ok (.invokevirtual 192, 3) := by decide +kernel
theorem dX3_count_123 : decode cX3_count 123 = .ok (.ireturn, 1) := by decide +kernel
theorem dX3_count_124 : decode cX3_count 124 = .ok (.aload_n 0, 1) := by decide +kernel
theorem dX3_count_125 : decode cX3_count 125 = .ok (.getfield 19, 3) := by decide +kernel
theorem dX3_count_128 : decode cX3_count 128 = .ok (.aload_n 0, 1) := by decide +kernel
theorem dX3_count_129 : decode cX3_count 129 = .ok (.getfield 26, 3) := by decide +kernel
theorem dX3_count_132 : decode cX3_count 132 = .ok (.getfield 100, 3) := by decide +kernel
theorem dX3_count_135 : decode cX3_count 135 = .ok (.getstatic 94, 3) := by decide +kernel
theorem dX3_count_138 : decode cX3_count 138 = .ok (.invokevirtual 192, 3) := by decide +kernel
theorem dX3_count_141 : decode cX3_count 141 = .ok (.ireturn, 1) := by decide +kernel
theorem dX3_count_142 : decode cX3_count 142 = .ok (.aload_n 0, 1) := by decide +kernel
theorem dX3_count_143 : decode cX3_count 143 = .ok (.getfield 26, 3) := by decide +kernel
theorem dX3_count_146 : decode cX3_count 146 = .ok (.getfield 173, 3) := by decide +kernel
theorem dX3_count_149 : decode cX3_count 149 = .ok (.ireturn, 1) := by decide +kernel
theorem dX3_count_150 : decode cX3_count 150 = .ok (.aload_n 0, 1) := by decide +kernel
theorem dX3_count_151 : decode cX3_count 151 = .ok (.getfield 10, 3) := by decide +kernel
theorem dX3_count_154 : decode cX3_count 154 = .ok (.getfield 41, 3) := by decide +kernel
theorem dX3_count_157 : decode cX3_count 157 = .ok (.ireturn, 1) := by decide +kernel
theorem dX3_count_158 : decode cX3_count 158 = .ok (.aload_n 0, 1) := by decide +kernel
theorem dX3_count_159 : decode cX3_count 159 = .ok (.getfield 84, 3) := by decide +kernel
theorem dX3_count_162 : decode cX3_count 162 = .ok (.ireturn, 1) := by decide +kernel
theorem dX3_count_163 : decode cX3_count 163 = .ok (.aload_n 0, 1) := by decide +kernel
theorem dX3_count_164 : decode cX3_count 164 = .ok (.getfield 167, 3) := by decide +kernel
theorem dX3_count_167 : decode cX3_count 167 = .ok (.ireturn, 1) := by decide +kernel
theorem dX3_count_168 : decode cX3_count 168 = .ok (.bipush (-102), 2) := by decide +kernel
theorem dX3_count_170 : decode cX3_count 170 = .ok (.ireturn, 1) := by decide +kernel
theorem dX3_isNoCairn_0 : decode cX3_isNoCairn 0 = .ok (.iload_n 1, 1) := by decide +kernel
theorem dX3_isNoCairn_1 : decode cX3_isNoCairn 1 = .ok (.iconst 1, 1) := by decide +kernel
theorem dX3_isNoCairn_2 : decode cX3_isNoCairn 2 = .ok (.if_icmp .lt 18, 3) := by decide +kernel
theorem dX3_isNoCairn_5 : decode cX3_isNoCairn 5 = .ok (.iload_n 1, 1) := by decide +kernel
theorem dX3_isNoCairn_6 : decode cX3_isNoCairn 6 = .ok (.iconst 5, 1) := by decide +kernel
theorem dX3_isNoCairn_7 : decode cX3_isNoCairn 7 = .ok (.if_icmp .gt 13, 3) := by decide +kernel
theorem dX3_isNoCairn_10 : decode cX3_isNoCairn 10 = .ok (.aload_n 0, 1) := by decide +kernel
theorem dX3_isNoCairn_11 : decode cX3_isNoCairn 11 = .ok (.getfield 19, 3) := by decide +kernel
theorem dX3_isNoCairn_14 : decode cX3_isNoCairn 14 = .ok (.getfield 53, 3) := by decide +kernel
theorem dX3_isNoCairn_17 : decode cX3_isNoCairn 17 = .ok (.ifCond .ne 7, 3) := by decide +kernel
theorem dX3_isNoCairn_20 : decode cX3_isNoCairn 20 = .ok (.iconst 1, 1) := by decide +kernel
theorem dX3_isNoCairn_21 : decode cX3_isNoCairn 21 = .ok (.goto 4, 3) := by decide +kernel
theorem dX3_isNoCairn_24 : decode cX3_isNoCairn 24 = .ok (.iconst 0, 1) := by decide +kernel
theorem dX3_isNoCairn_25 : decode cX3_isNoCairn 25 = .ok (.ireturn, 1) := by decide +kernel
theorem dX3_isNobody_0 : decode cX3_isNobody 0 = .ok (.iload_n 1, 1) := by decide +kernel
theorem dX3_isNobody_1 : decode cX3_isNobody 1 = .ok (.iconst 1, 1) := by decide +kernel
theorem dX3_isNobody_2 : decode cX3_isNobody 2 = .ok (.if_icmp .lt 14, 3) := by decide +kernel
theorem dX3_isNobody_5 : decode cX3_isNobody 5 = .ok (.iload_n 1, 1) := by decide +kernel
theorem dX3_isNobody_6 : decode cX3_isNobody 6 = .ok (.aload_n 0, 1) := by decide +kernel
theorem dX3_isNobody_7 : decode cX3_isNobody 7 = .ok (.getfield 19, 3) := by decide +kernel
theorem dX3_isNobody_10 : decode cX3_isNobody 10 = .ok (.invokevirtual 70, 3) := by decide +kernel
theorem dX3_isNobody_13 : decode cX3_isNobody 13 = .ok (.if_icmp .le 7, 3) := by decide +kernel
theorem dX3_isNobody_16 : decode cX3_isNobody 16 = .ok (.iconst 1, 1) := by decide +kernel
theorem dX3_isNobody_17 : decode cX3_isNobody 17 = .ok (.goto 4, 3) := by decide +kernel
theorem dX3_isNobody_20 : decode cX3_isNobody 20 = .ok (.iconst 0, 1) := by decide +kernel
theorem dX3_isNobody_21 : decode cX3_isNobody 21 = .ok (.ireturn, 1) := by decide +kernel
theorem dX3_isNoMarch_0 : decode cX3_isNoMarch 0 = .ok (.aload_n 0, 1) := by decide +kernel
theorem dX3_isNoMarch_1 : decode cX3_isNoMarch 1 = .ok (.iload_n 1, 1) := by decide +kernel
theorem dX3_isNoMarch_2 : decode cX3_isNoMarch 2 = .ok (.invokevirtual 153, 3) := by decide +kernel
theorem dX3_isNoMarch_5 : decode cX3_isNoMarch 5 = .ok (.ifCond .ne 20, 3) := by decide +kernel
theorem dX3_isNoMarch_8 : decode cX3_isNoMarch 8 = .ok (.iload_n 2, 1) := by decide +kernel
theorem dX3_isNoMarch_9 : decode cX3_isNoMarch 9 = .ok (.invokestatic 156, 3) := by decide +kernel
theorem dX3_isNoMarch_12 : decode cX3_isNoMarch 12 = .ok (.ifCond .ne 13, 3) := by decide +kernel
theorem dX3_isNoMarch_15 : decode cX3_isNoMarch 15 = .ok (.iload_n 3, 1) := by decide +kernel
theorem dX3_isNoMarch_16 : decode cX3_isNoMarch 16 = .ok (.ifCond .lt 9, 3) := by decide +kernel
theorem dX3_isNoMarch_19 : decode cX3_isNoMarch 19 = .ok (.iload_n 3, 1) := by decide +kernel
theorem dX3_isNoMarch_20 : decode cX3_isNoMarch 20 = .ok (.bipush 40, 2) := by decide +kernel
theorem dX3_isNoMarch_22 : decode cX3_isNoMarch 22 = .ok (.if_icmp .le 7, 3) := by decide +kernel
theorem dX3_isNoMarch_25 : decode cX3_isNoMarch 25 = .ok (.iconst 1, 1) := by decide +kernel
theorem dX3_isNoMarch_26 : decode cX3_isNoMarch 26 = .ok (.goto 4, 3) := by decide +kernel
theorem dX3_isNoMarch_29 : decode cX3_isNoMarch 29 = .ok (.iconst 0, 1) := by decide +kernel
theorem dX3_isNoMarch_30 : decode cX3_isNoMarch 30 = .ok (.ireturn, 1) := by decide +kernel
theorem dX3_anyIsDead_0 : decode cX3_anyIsDead 0 = .ok (.iload_n 1, 1) := by decide +kernel
theorem dX3_anyIsDead_1 : decode cX3_anyIsDead 1 = .ok (.aload_n 0, 1) := by decide +kernel
theorem dX3_anyIsDead_2 : decode cX3_anyIsDead 2 = .ok (.getfield 26, 3) := by decide +kernel
theorem dX3_anyIsDead_5 : decode cX3_anyIsDead 5 = .ok (.getfield 100, 3) := by decide +kernel
theorem dX3_anyIsDead_8 : decode cX3_anyIsDead 8 = .ok (.iconst (-1), 1) := by decide +kernel
theorem dX3_anyIsDead_9 : decode cX3_anyIsDead 9 = .ok (.ixor, 1) := by decide +kernel
theorem dX3_anyIsDead_10 : decode cX3_anyIsDead 10 = .ok (.iand, 1) := by decide +kernel
theorem dX3_anyIsDead_11 : decode cX3_anyIsDead 11 = .ok (.ifCond .eq 7, 3) := by decide +kernel
theorem dX3_anyIsDead_14 : decode cX3_anyIsDead 14 = .ok (.iconst 1, 1) := by decide +kernel
theorem dX3_anyIsDead_15 : decode cX3_anyIsDead 15 = .ok (.goto 4, 3) := by decide +kernel
theorem dX3_anyIsDead_18 : decode cX3_anyIsDead 18 = .ok (.iconst 0, 1) := by decide +kernel
theorem dX3_anyIsDead_19 : decode cX3_anyIsDead 19 = .ok (.ireturn, 1) := by decide +kernel
theorem dX3_isNoStage_0 : decode cX3_isNoStage 0 = .ok (.iload_n 0, 1) := by decide +kernel
theorem dX3_isNoStage_1 : decode cX3_isNoStage 1 = .ok (.iconst 1, 1) := by decide +kernel
theorem dX3_isNoStage_2 : decode cX3_isNoStage 2 = .ok (.if_icmp .lt 9, 3) := by decide +kernel
theorem dX3_isNoStage_5 : decode cX3_isNoStage 5 = .ok (.iload_n 0, 1) := by decide +kernel
theorem dX3_isNoStage_6 : decode cX3_isNoStage 6 = .ok (.bipush 6, 2) := by decide +kernel
theorem dX3_isNoStage_8 : decode cX3_isNoStage 8 = .ok (.if_icmp .le 7, 3) := by decide +kernel
theorem dX3_isNoStage_11 : decode cX3_isNoStage 11 = .ok (.iconst 1, 1) := by decide +kernel
theorem dX3_isNoStage_12 : decode cX3_isNoStage 12 = .ok (.goto 4, 3) := by decide +kernel
theorem dX3_isNoStage_15 : decode cX3_isNoStage 15 = .ok (.iconst 0, 1) := by decide +kernel
theorem dX3_isNoStage_16 : decode cX3_isNoStage 16 = .ok (.ireturn, 1) := by decide +kernel
theorem dX3_mostFoodOf_0 : decode cX3_mostFoodOf 0 = .ok (.bipush 40, 2) := by decide +kernel
theorem dX3_mostFoodOf_2 : decode cX3_mostFoodOf 2 = .ok (.aload_n 0, 1) := by decide +kernel
theorem dX3_mostFoodOf_3 : decode cX3_mostFoodOf 3 = .ok (.getfield 19, 3) := by decide +kernel
theorem dX3_mostFoodOf_6 : decode cX3_mostFoodOf 6 = .ok (.iload_n 1, 1) := by decide +kernel
theorem dX3_mostFoodOf_7 : decode cX3_mostFoodOf 7 = .ok (.getstatic 91, 3) := by decide +kernel
theorem dX3_mostFoodOf_10 : decode cX3_mostFoodOf 10 = .ok (.invokevirtual 192, 3) := by decide +kernel
theorem dX3_mostFoodOf_13 : decode cX3_mostFoodOf 13 = .ok (.invokestatic 209, 3) := by decide +kernel
theorem dX3_mostFoodOf_16 : decode cX3_mostFoodOf 16 = .ok (.ireturn, 1) := by decide +kernel
theorem dX3_leastFood_0 : decode cX3_leastFood 0 = .ok (.aload_n 0, 1) := by decide +kernel
theorem dX3_leastFood_1 : decode cX3_leastFood 1 = .ok (.iload_n 1, 1) := by decide +kernel
theorem dX3_leastFood_2 : decode cX3_leastFood 2 = .ok (.invokevirtual 214, 3) := by decide +kernel
theorem dX3_leastFood_5 : decode cX3_leastFood 5 = .ok (.istore 4, 2) := by decide +kernel
theorem dX3_leastFood_7 : decode cX3_leastFood 7 = .ok (.iconst 0, 1) := by decide +kernel
theorem dX3_leastFood_8 : decode cX3_leastFood 8 = .ok (.istore 5, 2) := by decide +kernel
theorem dX3_leastFood_10 : decode cX3_leastFood 10 = .ok (.iload 5, 2) := by decide +kernel
theorem dX3_leastFood_12 : decode cX3_leastFood 12 = .ok (.iload 4, 2) := by decide +kernel
theorem dX3_leastFood_14 : decode cX3_leastFood 14 = .ok (.if_icmp .gt 34, 3) := by decide +kernel
theorem dX3_leastFood_17 : decode cX3_leastFood 17 = .ok (.aload_n 0, 1) := by decide +kernel
theorem dX3_leastFood_18 : decode cX3_leastFood 18 = .ok (.getfield 19, 3) := by decide +kernel
theorem dX3_leastFood_21 : decode cX3_leastFood 21 = .ok (.aload_n 3, 1) := by decide +kernel
theorem dX3_leastFood_22 : decode cX3_leastFood 22 = .ok (.invokevirtual 124, 3) := by decide +kernel
theorem dX3_leastFood_25 : decode cX3_leastFood 25 = .ok (.aload_n 0, 1) := by decide +kernel
theorem dX3_leastFood_26 : decode cX3_leastFood 26 = .ok (.getfield 19, 3) := by decide +kernel
theorem dX3_leastFood_29 : decode cX3_leastFood 29 = .ok (.iload_n 1, 1) := by decide +kernel
theorem dX3_leastFood_30 : decode cX3_leastFood 30 = .ok (.iload_n 2, 1) := by decide +kernel
theorem dX3_leastFood_31 : decode cX3_leastFood 31 = .ok (.iload 5, 2) := by decide +kernel
theorem dX3_leastFood_33 : decode cX3_leastFood 33 = .ok (.invokevirtual 128, 3) := by decide +kernel
theorem dX3_leastFood_36 : decode cX3_leastFood 36 = .ok (.ifCond .eq 6, 3) := by decide +kernel
theorem dX3_leastFood_39 : decode cX3_leastFood 39 = .ok (.iload 5, 2) := by decide +kernel
theorem dX3_leastFood_41 : decode cX3_leastFood 41 = .ok (.ireturn, 1) := by decide +kernel
theorem dX3_leastFood_42 : decode cX3_leastFood 42 = .ok (.iinc 5 1, 3) := by decide +kernel
theorem dX3_leastFood_45 : decode cX3_leastFood 45 = .ok (.goto (-35), 3) := by decide +kernel
theorem dX3_leastFood_48 : decode cX3_leastFood 48 = .ok (.iconst (-1), 1) := by decide +kernel
theorem dX3_leastFood_49 : decode cX3_leastFood 49 = .ok (.ireturn, 1) := by decide +kernel
theorem dX3_farthest_0 : decode cX3_farthest 0 = .ok (.bipush 6, 2) := by decide +kernel
theorem dX3_farthest_2 : decode cX3_farthest 2 = .ok (.istore_n 3, 1) := by decide +kernel
theorem dX3_farthest_3 : decode cX3_farthest 3 = .ok (.iload_n 3, 1) := by decide +kernel
theorem dX3_farthest_4 : decode cX3_farthest 4 = .ok (.iconst 1, 1) := by decide +kernel
theorem dX3_farthest_5 : decode cX3_farthest 5 = .ok (.if_icmp .lt 26, 3) := by decide +kernel
theorem dX3_farthest_8 : decode cX3_farthest 8 = .ok (.iload_n 1, 1) := by decide +kernel
theorem dX3_farthest_9 : decode cX3_farthest 9 = .ok (.ifCond .eq 16, 3) := by decide +kernel
theorem dX3_farthest_12 : decode cX3_farthest 12 = .ok (.aload_n 0, 1) := by decide +kernel
theorem dX3_farthest_13 : decode cX3_farthest 13 = .ok (.iload_n 1, 1) := by decide +kernel
theorem dX3_farthest_14 : decode cX3_farthest 14 = .ok (.iload_n 3, 1) := by decide +kernel
theorem dX3_farthest_15 : decode cX3_farthest 15 = .ok (.aload_n 2, 1) := by decide +kernel
theorem dX3_farthest_16 : decode cX3_farthest 16 = .ok (.invokevirtual 159, 3) := by decide +kernel
theorem dX3_farthest_19 : decode cX3_farthest 19 = .ok (.iconst (-1), 1) := by decide +kernel
theorem dX3_farthest_20 : decode cX3_farthest 20 = .ok (.if_icmp .eq 5, 3) := by decide +kernel
theorem dX3_farthest_23 : decode cX3_farthest 23 = .ok (.iload_n 3, 1) := by decide +kernel
theorem dX3_farthest_24 : decode cX3_farthest 24 = .ok (.ireturn, 1) := by decide +kernel
theorem dX3_farthest_25 : decode cX3_farthest 25 = .ok (.iinc 3 (-1), 3) := by decide +kernel
theorem dX3_farthest_28 : decode cX3_farthest 28 = .ok (.goto (-25), 3) := by decide +kernel
theorem dX3_farthest_31 : decode cX3_farthest 31 = .ok (.iconst 0, 1) := by decide +kernel
theorem dX3_farthest_32 : decode cX3_farthest 32 = .ok (.ireturn, 1) := by decide +kernel
theorem dX3_amountsAt_0 : decode cX3_amountsAt 0 = .ok (.iconst 0, 1) := by decide +kernel
theorem dX3_amountsAt_1 : decode cX3_amountsAt 1 = .ok (.istore_n 2, 1) := by decide +kernel
theorem dX3_amountsAt_2 : decode cX3_amountsAt 2 = .ok (.iconst 0, 1) := by decide +kernel
theorem dX3_amountsAt_3 : decode cX3_amountsAt 3 = .ok (.istore_n 3, 1) := by decide +kernel
theorem dX3_amountsAt_4 : decode cX3_amountsAt 4 = .ok (.iload_n 3, 1) := by decide +kernel
theorem dX3_amountsAt_5 : decode cX3_amountsAt 5 = .ok (.bipush 9, 2) := by decide +kernel
theorem dX3_amountsAt_7 : decode cX3_amountsAt 7 = .ok (.if_icmp .gt 24, 3) := by decide +kernel
theorem dX3_amountsAt_10 : decode cX3_amountsAt 10 = .ok (.aload_n 0, 1) := by decide +kernel
theorem dX3_amountsAt_11 : decode cX3_amountsAt 11 = .ok (.iload_n 1, 1) := by decide +kernel
theorem dX3_amountsAt_12 : decode cX3_amountsAt 12 = .ok (.iload_n 3, 1) := by decide +kernel
theorem dX3_amountsAt_13 : decode cX3_amountsAt 13 = .ok (.invokevirtual 217, 3) := by decide +kernel
theorem dX3_amountsAt_16 : decode cX3_amountsAt 16 = .ok (.ifCond .eq 9, 3) := by decide +kernel
theorem dX3_amountsAt_19 : decode cX3_amountsAt 19 = .ok (.iload_n 2, 1) := by decide +kernel
theorem dX3_amountsAt_20 : decode cX3_amountsAt 20 = .ok (.iconst 1, 1) := by decide +kernel
theorem dX3_amountsAt_21 : decode cX3_amountsAt 21 = .ok (.iload_n 3, 1) := by decide +kernel
theorem dX3_amountsAt_22 : decode cX3_amountsAt 22 = .ok (.ishl, 1) := by decide +kernel
theorem dX3_amountsAt_23 : decode cX3_amountsAt 23 = .ok (.ior, 1) := by decide +kernel
theorem dX3_amountsAt_24 : decode cX3_amountsAt 24 = .ok (.istore_n 2, 1) := by decide +kernel
theorem dX3_amountsAt_25 : decode cX3_amountsAt 25 = .ok (.iinc 3 1, 3) := by decide +kernel
theorem dX3_amountsAt_28 : decode cX3_amountsAt 28 = .ok (.goto (-24), 3) := by decide +kernel
theorem dX3_amountsAt_31 : decode cX3_amountsAt 31 = .ok (.iload_n 2, 1) := by decide +kernel
theorem dX3_amountsAt_32 : decode cX3_amountsAt 32 = .ok (.ireturn, 1) := by decide +kernel
theorem dX3_isAllSo_0 : decode cX3_isAllSo 0 = .ok (.iconst 0, 1) := by decide +kernel
theorem dX3_isAllSo_1 : decode cX3_isAllSo 1 = .ok (.istore_n 3, 1) := by decide +kernel
theorem dX3_isAllSo_2 : decode cX3_isAllSo 2 = .ok (.iload_n 3, 1) := by decide +kernel
theorem dX3_isAllSo_3 : decode cX3_isAllSo 3 = .ok (.aload_n 0, 1) := by decide +kernel
theorem dX3_isAllSo_4 : decode cX3_isAllSo 4 = .ok (.getfield 26, 3) := by decide +kernel
theorem dX3_isAllSo_7 : decode cX3_isAllSo 7 = .ok (.getfield 173, 3) := by decide +kernel
theorem dX3_isAllSo_10 : decode cX3_isAllSo 10 = .ok (.if_icmp .ge 110, 3) := by decide +kernel
theorem dX3_isAllSo_13 : decode cX3_isAllSo 13 = .ok (.aload_n 0, 1) := by decide +kernel
theorem dX3_isAllSo_14 : decode cX3_isAllSo 14 = .ok (.getfield 19, 3) := by decide +kernel
theorem dX3_isAllSo_17 : decode cX3_isAllSo 17 = .ok (.aload_n 0, 1) := by decide +kernel
theorem dX3_isAllSo_18 : decode cX3_isAllSo 18 = .ok (.getfield 26, 3) := by decide +kernel
theorem dX3_isAllSo_21 : decode cX3_isAllSo 21 = .ok (.getfield 77, 3) := by decide +kernel
theorem dX3_isAllSo_24 : decode cX3_isAllSo 24 = .ok (.invokevirtual 124, 3) := by decide +kernel
theorem dX3_isAllSo_27 : decode cX3_isAllSo 27 = .ok (.aload_n 0, 1) := by decide +kernel
theorem dX3_isAllSo_28 : decode cX3_isAllSo 28 = .ok (.getfield 19, 3) := by decide +kernel
theorem dX3_isAllSo_31 : decode cX3_isAllSo 31 = .ok (.getfield 132, 3) := by decide +kernel
theorem dX3_isAllSo_34 : decode cX3_isAllSo 34 = .ok (.iload_n 1, 1) := by decide +kernel
theorem dX3_isAllSo_35 : decode cX3_isAllSo 35 = .ok (.iconst 1, 1) := by decide +kernel
theorem dX3_isAllSo_36 : decode cX3_isAllSo 36 = .ok (.isub, 1) := by decide +kernel
theorem dX3_isAllSo_37 : decode cX3_isAllSo 37 = .ok (.iload_n 2, 1) := by decide +kernel
theorem dX3_isAllSo_38 : decode cX3_isAllSo 38 = .ok (.invokestatic 66, 3) := by decide +kernel
theorem dX3_isAllSo_41 : decode cX3_isAllSo 41 = .ok (.aload_n 0, 1) := by decide +kernel
theorem dX3_isAllSo_42 : decode cX3_isAllSo 42 = .ok (.getfield 26, 3) := by decide +kernel
theorem dX3_isAllSo_45 : decode cX3_isAllSo 45 = .ok (.getfield 220, 3) := by decide +kernel
theorem dX3_isAllSo_48 : decode cX3_isAllSo 48 = .ok (.iload_n 3, 1) := by decide +kernel
theorem dX3_isAllSo_49 : decode cX3_isAllSo 49 = .ok (.invokestatic 87, 3) := by decide +kernel
theorem dX3_isAllSo_52 : decode cX3_isAllSo 52 = .ok (.istore 4, 2) := by decide +kernel
theorem dX3_isAllSo_54 : decode cX3_isAllSo 54 = .ok (.aload_n 0, 1) := by decide +kernel
theorem dX3_isAllSo_55 : decode cX3_isAllSo 55 = .ok (.getfield 19, 3) := by decide +kernel
theorem dX3_isAllSo_58 : decode cX3_isAllSo 58 = .ok (.aload_n 0, 1) := by decide +kernel
theorem dX3_isAllSo_59 : decode cX3_isAllSo 59 = .ok (.getfield 26, 3) := by decide +kernel
theorem dX3_isAllSo_62 : decode cX3_isAllSo 62 = .ok (.getfield 223, 3) := by decide +kernel
theorem dX3_isAllSo_65 : decode cX3_isAllSo 65 = .ok (.iload_n 3, 1) := by decide +kernel
theorem dX3_isAllSo_66 : decode cX3_isAllSo 66 = .ok (.invokestatic 87, 3) := by decide +kernel
theorem dX3_isAllSo_69 : decode cX3_isAllSo 69 = .ok (.iload 4, 2) := by decide +kernel
theorem dX3_isAllSo_71 : decode cX3_isAllSo 71 = .ok (.aload_n 0, 1) := by decide +kernel
theorem dX3_isAllSo_72 : decode cX3_isAllSo 72 = .ok (.getfield 26, 3) := by decide +kernel
theorem dX3_isAllSo_75 : decode cX3_isAllSo 75 = .ok (.getfield 226, 3) := by decide +kernel
theorem dX3_isAllSo_78 : decode cX3_isAllSo 78 = .ok (.iload_n 3, 1) := by decide +kernel
theorem dX3_isAllSo_79 : decode cX3_isAllSo 79 = .ok (.invokestatic 87, 3) := by decide +kernel
theorem dX3_isAllSo_82 : decode cX3_isAllSo 82 = .ok (.invokevirtual 128, 3) := by decide +kernel
theorem dX3_isAllSo_85 : decode cX3_isAllSo 85 = .ok (.istore 5, 2) := by decide +kernel
theorem dX3_isAllSo_87 : decode cX3_isAllSo 87 = .ok (.iload 5, 2) := by decide +kernel
theorem dX3_isAllSo_89 : decode cX3_isAllSo 89 = .ok (.aload_n 0, 1) := by decide +kernel
theorem dX3_isAllSo_90 : decode cX3_isAllSo 90 = .ok (.getfield 26, 3) := by decide +kernel
theorem dX3_isAllSo_93 : decode cX3_isAllSo 93 = .ok (.getfield 229, 3) := by decide +kernel
theorem dX3_isAllSo_96 : decode cX3_isAllSo 96 = .ok (.iload_n 3, 1) := by decide +kernel
theorem dX3_isAllSo_97 : decode cX3_isAllSo 97 = .ok (.invokestatic 87, 3) := by decide +kernel
theorem dX3_isAllSo_100 : decode cX3_isAllSo 100 = .ok (.iconst 1, 1) := by decide +kernel
theorem dX3_isAllSo_101 : decode cX3_isAllSo 101 = .ok (.if_icmp .ne 7, 3) := by decide +kernel
theorem dX3_isAllSo_104 : decode cX3_isAllSo 104 = .ok (.iconst 1, 1) := by decide +kernel
theorem dX3_isAllSo_105 : decode cX3_isAllSo 105 = .ok (.goto 4, 3) := by decide +kernel
theorem dX3_isAllSo_108 : decode cX3_isAllSo 108 = .ok (.iconst 0, 1) := by decide +kernel
theorem dX3_isAllSo_109 : decode cX3_isAllSo 109 = .ok (.if_icmp .eq 5, 3) := by decide +kernel
theorem dX3_isAllSo_112 : decode cX3_isAllSo 112 = .ok (.iconst 0, 1) := by decide +kernel
theorem dX3_isAllSo_113 : decode cX3_isAllSo 113 = .ok (.ireturn, 1) := by decide +kernel
theorem dX3_isAllSo_114 : decode cX3_isAllSo 114 = .ok (.iinc 3 1, 3) := by decide +kernel
theorem dX3_isAllSo_117 : decode cX3_isAllSo 117 = .ok (.goto (-115), 3) := by decide +kernel
theorem dX3_isAllSo_120 : decode cX3_isAllSo 120 = .ok (.iconst 1, 1) := by decide +kernel
theorem dX3_isAllSo_121 : decode cX3_isAllSo 121 = .ok (.ireturn, 1) := by decide +kernel
theorem dX3_bestTrial_0 : decode cX3_bestTrial 0 = .ok (.iconst (-1), 1) := by decide +kernel
theorem dX3_bestTrial_1 : decode cX3_bestTrial 1 = .ok (.istore_n 3, 1) := by decide +kernel
theorem dX3_bestTrial_2 : decode cX3_bestTrial 2 = .ok (.iload_n 2, 1) := by decide +kernel
theorem dX3_bestTrial_3 : decode cX3_bestTrial 3 = .ok (.invokestatic 187, 3) := by decide +kernel
theorem dX3_bestTrial_6 : decode cX3_bestTrial 6 = .ok (.iconst 1, 1) := by decide +kernel
theorem dX3_bestTrial_7 : decode cX3_bestTrial 7 = .ok (.iadd, 1) := by decide +kernel
theorem dX3_bestTrial_8 : decode cX3_bestTrial 8 = .ok (.istore 4, 2) := by decide +kernel
theorem dX3_bestTrial_10 : decode cX3_bestTrial 10 = .ok (.aload_n 0, 1) := by decide +kernel
theorem dX3_bestTrial_11 : decode cX3_bestTrial 11 = .ok (.aload_n 0, 1) := by decide +kernel
theorem dX3_bestTrial_12 : decode cX3_bestTrial 12 = .ok (.getfield 19, 3) := by decide +kernel
theorem dX3_bestTrial_15 : decode cX3_bestTrial 15 = .ok (.invokevirtual 70, 3) := by decide +kernel
theorem dX3_bestTrial_18 : decode cX3_bestTrial 18 = .ok (.invokevirtual 214, 3) := by decide +kernel
theorem dX3_bestTrial_21 : decode cX3_bestTrial 21 = .ok (.istore 5, 2) := by decide +kernel
theorem dX3_bestTrial_23 : decode cX3_bestTrial 23 = .ok (.iconst 0, 1) := by decide +kernel
theorem dX3_bestTrial_24 : decode cX3_bestTrial 24 = .ok (.istore 6, 2) := by decide +kernel
theorem dX3_bestTrial_26 : decode cX3_bestTrial 26 = .ok (.iload_n 2, 1) := by decide +kernel
theorem dX3_bestTrial_27 : decode cX3_bestTrial 27 = .ok (.ifCond .eq 40, 3) := by decide +kernel
theorem dX3_bestTrial_30 : decode cX3_bestTrial 30 = .ok (.iload 6, 2) := by decide +kernel
theorem dX3_bestTrial_32 : decode cX3_bestTrial 32 = .ok (.iload 5, 2) := by decide +kernel
theorem dX3_bestTrial_34 : decode cX3_bestTrial 34 = .ok (.if_icmp .gt 33, 3) := by decide +kernel
theorem dX3_bestTrial_37 : decode cX3_bestTrial 37 = .ok (.aload_n 0, 1) := by decide +kernel
theorem dX3_bestTrial_38 : decode cX3_bestTrial 38 = .ok (.iload_n 1, 1) := by decide +kernel
theorem dX3_bestTrial_39 : decode cX3_bestTrial 39 = .ok (.iload_n 2, 1) := by decide +kernel
theorem dX3_bestTrial_40 : decode cX3_bestTrial 40 = .ok (.iload 6, 2) := by decide +kernel
theorem dX3_bestTrial_42 : decode cX3_bestTrial 42 = .ok (.invokevirtual 232, 3) := by decide +kernel
theorem dX3_bestTrial_45 : decode cX3_bestTrial 45 = .ok (.istore 7, 2) := by decide +kernel
theorem dX3_bestTrial_47 : decode cX3_bestTrial 47 = .ok (.iload 7, 2) := by decide +kernel
theorem dX3_bestTrial_49 : decode cX3_bestTrial 49 = .ok (.iload 4, 2) := by decide +kernel
theorem dX3_bestTrial_51 : decode cX3_bestTrial 51 = .ok (.if_icmp .ge 10, 3) := by decide +kernel
theorem dX3_bestTrial_54 : decode cX3_bestTrial 54 = .ok (.iload 6, 2) := by decide +kernel
theorem dX3_bestTrial_56 : decode cX3_bestTrial 56 = .ok (.istore_n 3, 1) := by decide +kernel
theorem dX3_bestTrial_57 : decode cX3_bestTrial 57 = .ok (.iload 7, 2) := by decide +kernel
theorem dX3_bestTrial_59 : decode cX3_bestTrial 59 = .ok (.istore 4, 2) := by decide +kernel
theorem dX3_bestTrial_61 : decode cX3_bestTrial 61 = .ok (.iinc 6 1, 3) := by decide +kernel
theorem dX3_bestTrial_64 : decode cX3_bestTrial 64 = .ok (.goto (-38), 3) := by decide +kernel
theorem dX3_bestTrial_67 : decode cX3_bestTrial 67 = .ok (.iload_n 3, 1) := by decide +kernel
theorem dX3_bestTrial_68 : decode cX3_bestTrial 68 = .ok (.ireturn, 1) := by decide +kernel
theorem dX3_leftAtWorst_0 : decode cX3_leftAtWorst 0 = .ok (.iconst 0, 1) := by decide +kernel
theorem dX3_leftAtWorst_1 : decode cX3_leftAtWorst 1 = .ok (.istore 4, 2) := by decide +kernel
theorem dX3_leftAtWorst_3 : decode cX3_leftAtWorst 3 = .ok (.iconst 0, 1) := by decide +kernel
theorem dX3_leftAtWorst_4 : decode cX3_leftAtWorst 4 = .ok (.istore 5, 2) := by decide +kernel
theorem dX3_leftAtWorst_6 : decode cX3_leftAtWorst 6 = .ok (.iload 5, 2) := by decide +kernel
theorem dX3_leftAtWorst_8 : decode cX3_leftAtWorst 8 = .ok (.bipush 9, 2) := by decide +kernel
theorem dX3_leftAtWorst_10 : decode cX3_leftAtWorst 10 = .ok (.if_icmp .gt 78, 3) := by decide +kernel
theorem dX3_leftAtWorst_13 : decode cX3_leftAtWorst 13 = .ok (.iload_n 2, 1) := by decide +kernel
theorem dX3_leftAtWorst_14 : decode cX3_leftAtWorst 14 = .ok (.iload 5, 2) := by decide +kernel
theorem dX3_leftAtWorst_16 : decode cX3_leftAtWorst 16 = .ok (.ishr, 1) := by decide +kernel
theorem dX3_leftAtWorst_17 : decode cX3_leftAtWorst 17 = .ok (.iconst 1, 1) := by decide +kernel
theorem dX3_leftAtWorst_18 : decode cX3_leftAtWorst 18 = .ok (.iand, 1) := by decide +kernel
theorem dX3_leftAtWorst_19 : decode cX3_leftAtWorst 19 = .ok (.iconst 1, 1) := by decide +kernel
theorem dX3_leftAtWorst_20 : decode cX3_leftAtWorst 20 = .ok (.if_icmp .ne 62, 3) := by decide +kernel
theorem dX3_leftAtWorst_23 : decode cX3_leftAtWorst 23 = .ok (.aload_n 0, 1) := by decide +kernel
theorem dX3_leftAtWorst_24 : decode cX3_leftAtWorst 24 = .ok (.getfield 19, 3) := by decide +kernel
theorem dX3_leftAtWorst_27 : decode cX3_leftAtWorst 27 = .ok (.aload_n 0, 1) := by decide +kernel
theorem dX3_leftAtWorst_28 : decode cX3_leftAtWorst 28 = .ok (.getfield 26, 3) := by decide +kernel
theorem dX3_leftAtWorst_31 : decode cX3_leftAtWorst 31 = .ok (.getfield 77, 3) := by decide +kernel
theorem dX3_leftAtWorst_34 : decode cX3_leftAtWorst 34 = .ok (.invokevirtual 124, 3) := by decide +kernel
theorem dX3_leftAtWorst_37 : decode cX3_leftAtWorst 37 = .ok (.aload_n 0, 1) := by decide +kernel
theorem dX3_leftAtWorst_38 : decode cX3_leftAtWorst 38 = .ok (.getfield 19, 3) := by decide +kernel
theorem dX3_leftAtWorst_41 : decode cX3_leftAtWorst 41 = .ok (.getfield 132, 3) := by decide +kernel
theorem dX3_leftAtWorst_44 : decode cX3_leftAtWorst 44 = .ok (.iload_n 1, 1) := by decide +kernel
theorem dX3_leftAtWorst_45 : decode cX3_leftAtWorst 45 = .ok (.iconst 1, 1) := by decide +kernel
theorem dX3_leftAtWorst_46 : decode cX3_leftAtWorst 46 = .ok (.isub, 1) := by decide +kernel
theorem dX3_leftAtWorst_47 : decode cX3_leftAtWorst 47 = .ok (.iload 5, 2) := by decide +kernel
theorem dX3_leftAtWorst_49 : decode cX3_leftAtWorst 49 = .ok (.invokestatic 66, 3) := by decide +kernel
theorem dX3_leftAtWorst_52 : decode cX3_leftAtWorst 52 = .ok (.iload 4, 2) := by decide +kernel
theorem dX3_leftAtWorst_54 : decode cX3_leftAtWorst 54 = .ok (.aload_n 0, 1) := by decide +kernel
theorem dX3_leftAtWorst_55 : decode cX3_leftAtWorst 55 = .ok (.getfield 19, 3) := by decide +kernel
theorem dX3_leftAtWorst_58 : decode cX3_leftAtWorst 58 = .ok (.aload_n 0, 1) := by decide +kernel
theorem dX3_leftAtWorst_59 : decode cX3_leftAtWorst 59 = .ok (.getfield 19, 3) := by decide +kernel
theorem dX3_leftAtWorst_62 : decode cX3_leftAtWorst 62 = .ok (.invokevirtual 70, 3) := by decide +kernel
theorem dX3_leftAtWorst_65 : decode cX3_leftAtWorst 65 = .ok (.bipush 6, 2) := by decide +kernel
theorem dX3_leftAtWorst_67 : decode cX3_leftAtWorst 67 = .ok (.iload_n 3, 1) := by decide +kernel
theorem dX3_leftAtWorst_68 : decode cX3_leftAtWorst 68 = .ok (.invokevirtual 128, 3) := by decide +kernel
theorem dX3_leftAtWorst_71 : decode cX3_leftAtWorst 71 = .ok (.ifCond .eq 7, 3) := by decide +kernel
theorem dX3_leftAtWorst_74 : decode cX3_leftAtWorst 74 = .ok (.iconst 1, 1) := by decide +kernel
theorem dX3_leftAtWorst_75 : decode cX3_leftAtWorst 75 = .ok (.goto 4, 3) := by decide +kernel
theorem dX3_leftAtWorst_78 : decode cX3_leftAtWorst 78 = .ok (.iconst 0, 1) := by decide +kernel
theorem dX3_leftAtWorst_79 : decode cX3_leftAtWorst 79 = .ok (.iadd, 1) := by decide +kernel
theorem dX3_leftAtWorst_80 : decode cX3_leftAtWorst 80 = .ok (.istore 4, 2) := by decide +kernel
theorem dX3_leftAtWorst_82 : decode cX3_leftAtWorst 82 = .ok (.iinc 5 1, 3) := by decide +kernel
theorem dX3_leftAtWorst_85 : decode cX3_leftAtWorst 85 = .ok (.goto (-79), 3) := by decide +kernel
theorem dX3_leftAtWorst_88 : decode cX3_leftAtWorst 88 = .ok (.iload 4, 2) := by decide +kernel
theorem dX3_leftAtWorst_90 : decode cX3_leftAtWorst 90 = .ok (.iload_n 2, 1) := by decide +kernel
theorem dX3_leftAtWorst_91 : decode cX3_leftAtWorst 91 = .ok (.invokestatic 187, 3) := by decide +kernel
theorem dX3_leftAtWorst_94 : decode cX3_leftAtWorst 94 = .ok (.iload 4, 2) := by decide +kernel
theorem dX3_leftAtWorst_96 : decode cX3_leftAtWorst 96 = .ok (.isub, 1) := by decide +kernel
theorem dX3_leftAtWorst_97 : decode cX3_leftAtWorst 97 = .ok (.invokestatic 236, 3) := by decide +kernel
theorem dX3_leftAtWorst_100 : decode cX3_leftAtWorst 100 = .ok (.ireturn, 1) := by decide +kernel
theorem dX3_letCreep_0 : decode cX3_letCreep 0 = .ok (.aload_n 0, 1) := by decide +kernel
theorem dX3_letCreep_1 : decode cX3_letCreep 1 = .ok (.getfield 26, 3) := by decide +kernel
theorem dX3_letCreep_4 : decode cX3_letCreep 4 = .ok (.getfield 77, 3) := by decide +kernel
theorem dX3_letCreep_7 : decode cX3_letCreep 7 = .ok (.aload_n 0, 1) := by decide +kernel
theorem dX3_letCreep_8 : decode cX3_letCreep 8 = .ok (.getfield 33, 3) := by decide +kernel
theorem dX3_letCreep_11 : decode cX3_letCreep 11 = .ok (.invokestatic 133, 3) := by decide +kernel
theorem dX3_letCreep_14 : decode cX3_letCreep 14 = .ok (.iload_n 2, 1) := by decide +kernel
theorem dX3_letCreep_15 : decode cX3_letCreep 15 = .ok (.istore_n 3, 1) := by decide +kernel
theorem dX3_letCreep_16 : decode cX3_letCreep 16 = .ok (.iconst 0, 1) := by decide +kernel
theorem dX3_letCreep_17 : decode cX3_letCreep 17 = .ok (.istore 4, 2) := by decide +kernel
theorem dX3_letCreep_19 : decode cX3_letCreep 19 = .ok (.iload 4, 2) := by decide +kernel
theorem dX3_letCreep_21 : decode cX3_letCreep 21 = .ok (.iload_n 1, 1) := by decide +kernel
theorem dX3_letCreep_22 : decode cX3_letCreep 22 = .ok (.if_icmp .ge 62, 3) := by decide +kernel
theorem dX3_letCreep_25 : decode cX3_letCreep 25 = .ok (.iconst 0, 1) := by decide +kernel
theorem dX3_letCreep_26 : decode cX3_letCreep 26 = .ok (.istore 5, 2) := by decide +kernel
theorem dX3_letCreep_28 : decode cX3_letCreep 28 = .ok (.iload 5, 2) := by decide +kernel
theorem dX3_letCreep_30 : decode cX3_letCreep 30 = .ok (.iconst 5, 1) := by decide +kernel
theorem dX3_letCreep_31 : decode cX3_letCreep 31 = .ok (.if_icmp .ge 47, 3) := by decide +kernel
theorem dX3_letCreep_34 : decode cX3_letCreep 34 = .ok (.iload_n 3, 1) := by decide +kernel
theorem dX3_letCreep_35 : decode cX3_letCreep 35 = .ok (.invokestatic 239, 3) := by decide +kernel
theorem dX3_letCreep_38 : decode cX3_letCreep 38 = .ok (.istore_n 3, 1) := by decide +kernel
theorem dX3_letCreep_39 : decode cX3_letCreep 39 = .ok (.iload_n 3, 1) := by decide +kernel
theorem dX3_letCreep_40 : decode cX3_letCreep 40 = .ok (.bipush 16, 2) := by decide +kernel
theorem dX3_letCreep_42 : decode cX3_letCreep 42 = .ok (.ishr, 1) := by decide +kernel
theorem dX3_letCreep_43 : decode cX3_letCreep 43 = .ok (.iconst 3, 1) := by decide +kernel
theorem dX3_letCreep_44 : decode cX3_letCreep 44 = .ok (.irem, 1) := by decide +kernel
theorem dX3_letCreep_45 : decode cX3_letCreep 45 = .ok (.istore 6, 2) := by decide +kernel
theorem dX3_letCreep_47 : decode cX3_letCreep 47 = .ok (.aload_n 0, 1) := by decide +kernel
theorem dX3_letCreep_48 : decode cX3_letCreep 48 = .ok (.getfield 33, 3) := by decide +kernel
theorem dX3_letCreep_51 : decode cX3_letCreep 51 = .ok (.iload 5, 2) := by decide +kernel
theorem dX3_letCreep_53 : decode cX3_letCreep 53 = .ok (.iconst 0, 1) := by decide +kernel
theorem dX3_letCreep_54 : decode cX3_letCreep 54 = .ok (.aload_n 0, 1) := by decide +kernel
theorem dX3_letCreep_55 : decode cX3_letCreep 55 = .ok (.getfield 33, 3) := by decide +kernel
theorem dX3_letCreep_58 : decode cX3_letCreep 58 = .ok (.iload 5, 2) := by decide +kernel
theorem dX3_letCreep_60 : decode cX3_letCreep 60 = .ok (.invokestatic 87, 3) := by decide +kernel
theorem dX3_letCreep_63 : decode cX3_letCreep 63 = .ok (.iload 6, 2) := by decide +kernel
theorem dX3_letCreep_65 : decode cX3_letCreep 65 = .ok (.isub, 1) := by decide +kernel
theorem dX3_letCreep_66 : decode cX3_letCreep 66 = .ok (.invokestatic 236, 3) := by decide +kernel
theorem dX3_letCreep_69 : decode cX3_letCreep 69 = .ok (.invokestatic 66, 3) := by decide +kernel
theorem dX3_letCreep_72 : decode cX3_letCreep 72 = .ok (.iinc 5 1, 3) := by decide +kernel
theorem dX3_letCreep_75 : decode cX3_letCreep 75 = .ok (.goto (-47), 3) := by decide +kernel
theorem dX3_letCreep_78 : decode cX3_letCreep 78 = .ok (.iinc 4 1, 3) := by decide +kernel
theorem dX3_letCreep_81 : decode cX3_letCreep 81 = .ok (.goto (-62), 3) := by decide +kernel
theorem dX3_letCreep_84 : decode cX3_letCreep 84 = .ok (.iload_n 3, 1) := by decide +kernel
theorem dX3_letCreep_85 : decode cX3_letCreep 85 = .ok (.ireturn, 1) := by decide +kernel
theorem dX3_nextSeed_0 : decode cX3_nextSeed 0 = .ok (.ldc 242, 2) := by decide +kernel
theorem dX3_nextSeed_2 : decode cX3_nextSeed 2 = .ok (.iload_n 0, 1) := by decide +kernel
theorem dX3_nextSeed_3 : decode cX3_nextSeed 3 = .ok (.imul, 1) := by decide +kernel
theorem dX3_nextSeed_4 : decode cX3_nextSeed 4 = .ok (.sipush 12345, 3) := by decide +kernel
theorem dX3_nextSeed_7 : decode cX3_nextSeed 7 = .ok (.iadd, 1) := by decide +kernel
theorem dX3_nextSeed_8 : decode cX3_nextSeed 8 = .ok (.ldc 243, 2) := by decide +kernel
theorem dX3_nextSeed_10 : decode cX3_nextSeed 10 = .ok (.iand, 1) := by decide +kernel
theorem dX3_nextSeed_11 : decode cX3_nextSeed 11 = .ok (.ireturn, 1) := by decide +kernel
theorem dX3_kindOf_0 : decode cX3_kindOf 0 = .ok (.iload_n 0, 1) := by decide +kernel
theorem dX3_kindOf_1 : decode cX3_kindOf 1 = .ok (.tableswitch 85 98 112 #[81, 85, 79, 85, 85, 85, 83, 85, 85, 85, 85, 75, 85, 85, 77], 75) := by decide +kernel
theorem dX3_kindOf_76 : decode cX3_kindOf 76 = .ok (.iconst 0, 1) := by decide +kernel
theorem dX3_kindOf_77 : decode cX3_kindOf 77 = .ok (.ireturn, 1) := by decide +kernel
theorem dX3_kindOf_78 : decode cX3_kindOf 78 = .ok (.iconst 1, 1) := by decide +kernel
theorem dX3_kindOf_79 : decode cX3_kindOf 79 = .ok (.ireturn, 1) := by decide +kernel
theorem dX3_kindOf_80 : decode cX3_kindOf 80 = .ok (.iconst 2, 1) := by decide +kernel
theorem dX3_kindOf_81 : decode cX3_kindOf 81 = .ok (.ireturn, 1) := by decide +kernel
theorem dX3_kindOf_82 : decode cX3_kindOf 82 = .ok (.iconst 3, 1) := by decide +kernel
theorem dX3_kindOf_83 : decode cX3_kindOf 83 = .ok (.ireturn, 1) := by decide +kernel
theorem dX3_kindOf_84 : decode cX3_kindOf 84 = .ok (.iconst 4, 1) := by decide +kernel
theorem dX3_kindOf_85 : decode cX3_kindOf 85 = .ok (.ireturn, 1) := by decide +kernel
theorem dX3_kindOf_86 : decode cX3_kindOf 86 = .ok (.iconst (-1), 1) := by decide +kernel
theorem dX3_kindOf_87 : decode cX3_kindOf 87 = .ok (.ireturn, 1) := by decide +kernel
theorem dX3_isOf_0 : decode cX3_isOf 0 = .ok (.iload_n 1, 1) := by decide +kernel
theorem dX3_isOf_1 : decode cX3_isOf 1 = .ok (.ifCond .eq 18, 3) := by decide +kernel
theorem dX3_isOf_4 : decode cX3_isOf 4 = .ok (.iload_n 0, 1) := by decide +kernel
theorem dX3_isOf_5 : decode cX3_isOf 5 = .ok (.iload_n 1, 1) := by decide +kernel
theorem dX3_isOf_6 : decode cX3_isOf 6 = .ok (.if_icmp .eq 13, 3) := by decide +kernel
theorem dX3_isOf_9 : decode cX3_isOf 9 = .ok (.iload_n 1, 1) := by decide +kernel
theorem dX3_isOf_10 : decode cX3_isOf 10 = .ok (.iconst 2, 1) := by decide +kernel
theorem dX3_isOf_11 : decode cX3_isOf 11 = .ok (.if_icmp .ne 12, 3) := by decide +kernel
theorem dX3_isOf_14 : decode cX3_isOf 14 = .ok (.iload_n 0, 1) := by decide +kernel
theorem dX3_isOf_15 : decode cX3_isOf 15 = .ok (.iconst 4, 1) := by decide +kernel
theorem dX3_isOf_16 : decode cX3_isOf 16 = .ok (.if_icmp .ne 7, 3) := by decide +kernel
theorem dX3_isOf_19 : decode cX3_isOf 19 = .ok (.iconst 1, 1) := by decide +kernel
theorem dX3_isOf_20 : decode cX3_isOf 20 = .ok (.goto 4, 3) := by decide +kernel
theorem dX3_isOf_23 : decode cX3_isOf 23 = .ok (.iconst 0, 1) := by decide +kernel
theorem dX3_isOf_24 : decode cX3_isOf 24 = .ok (.ireturn, 1) := by decide +kernel
theorem dX3_at_0 : decode cX3_at 0 = .ok (.aload_n 0, 1) := by decide +kernel
theorem dX3_at_1 : decode cX3_at 1 = .ok (.ifnull 19, 3) := by decide +kernel
theorem dX3_at_4 : decode cX3_at 4 = .ok (.iload_n 1, 1) := by decide +kernel
theorem dX3_at_5 : decode cX3_at 5 = .ok (.ifCond .lt 15, 3) := by decide +kernel
theorem dX3_at_8 : decode cX3_at 8 = .ok (.iload_n 1, 1) := by decide +kernel
theorem dX3_at_9 : decode cX3_at 9 = .ok (.aload_n 0, 1) := by decide +kernel
theorem dX3_at_10 : decode cX3_at 10 = .ok (.arraylength, 1) := by decide +kernel
theorem dX3_at_11 : decode cX3_at 11 = .ok (.if_icmp .ge 9, 3) := by decide +kernel
theorem dX3_at_14 : decode cX3_at 14 = .ok (.aload_n 0, 1) := by decide +kernel
theorem dX3_at_15 : decode cX3_at 15 = .ok (.iload_n 1, 1) := by decide +kernel
theorem dX3_at_16 : decode cX3_at 16 = .ok (.iaload, 1) := by decide +kernel
theorem dX3_at_17 : decode cX3_at 17 = .ok (.goto 4, 3) := by decide +kernel
theorem dX3_at_20 : decode cX3_at 20 = .ok (.iconst 0, 1) := by decide +kernel
theorem dX3_at_21 : decode cX3_at 21 = .ok (.ireturn, 1) := by decide +kernel
theorem dX3_put_0 : decode cX3_put 0 = .ok (.aload_n 0, 1) := by decide +kernel
theorem dX3_put_1 : decode cX3_put 1 = .ok (.ifnull 17, 3) := by decide +kernel
theorem dX3_put_4 : decode cX3_put 4 = .ok (.iload_n 1, 1) := by decide +kernel
theorem dX3_put_5 : decode cX3_put 5 = .ok (.ifCond .lt 13, 3) := by decide +kernel
theorem dX3_put_8 : decode cX3_put 8 = .ok (.iload_n 1, 1) := by decide +kernel
theorem dX3_put_9 : decode cX3_put 9 = .ok (.aload_n 0, 1) := by decide +kernel
theorem dX3_put_10 : decode cX3_put 10 = .ok (.arraylength, 1) := by decide +kernel
theorem dX3_put_11 : decode cX3_put 11 = .ok (.if_icmp .ge 7, 3) := by decide +kernel
theorem dX3_put_14 : decode cX3_put 14 = .ok (.aload_n 0, 1) := by decide +kernel
theorem dX3_put_15 : decode cX3_put 15 = .ok (.iload_n 1, 1) := by decide +kernel
theorem dX3_put_16 : decode cX3_put 16 = .ok (.iload_n 2, 1) := by decide +kernel
theorem dX3_put_17 : decode cX3_put 17 = .ok (.iastore, 1) := by decide +kernel
theorem dX3_put_18 : decode cX3_put 18 = .ok (.return_, 1) := by decide +kernel
theorem dX3_copy_0 : decode cX3_copy 0 = .ok (.iconst 0, 1) := by decide +kernel
theorem dX3_copy_1 : decode cX3_copy 1 = .ok (.istore_n 2, 1) := by decide +kernel
theorem dX3_copy_2 : decode cX3_copy 2 = .ok (.aload_n 1, 1) := by decide +kernel
theorem dX3_copy_3 : decode cX3_copy 3 = .ok (.ifnull 25, 3) := by decide +kernel
theorem dX3_copy_6 : decode cX3_copy 6 = .ok (.iload_n 2, 1) := by decide +kernel
theorem dX3_copy_7 : decode cX3_copy 7 = .ok (.aload_n 1, 1) := by decide +kernel
theorem dX3_copy_8 : decode cX3_copy 8 = .ok (.arraylength, 1) := by decide +kernel
theorem dX3_copy_9 : decode cX3_copy 9 = .ok (.if_icmp .ge 19, 3) := by decide +kernel
theorem dX3_copy_12 : decode cX3_copy 12 = .ok (.aload_n 1, 1) := by decide +kernel
theorem dX3_copy_13 : decode cX3_copy 13 = .ok (.iload_n 2, 1) := by decide +kernel
theorem dX3_copy_14 : decode cX3_copy 14 = .ok (.aload_n 0, 1) := by decide +kernel
theorem dX3_copy_15 : decode cX3_copy 15 = .ok (.iload_n 2, 1) := by decide +kernel
theorem dX3_copy_16 : decode cX3_copy 16 = .ok (.invokestatic 87, 3) := by decide +kernel
theorem dX3_copy_19 : decode cX3_copy 19 = .ok (.invokestatic 66, 3) := by decide +kernel
theorem dX3_copy_22 : decode cX3_copy 22 = .ok (.iinc 2 1, 3) := by decide +kernel
theorem dX3_copy_25 : decode cX3_copy 25 = .ok (.goto (-23), 3) := by decide +kernel
theorem dX3_copy_28 : decode cX3_copy 28 = .ok (.return_, 1) := by decide +kernel
theorem dX3_sum_0 : decode cX3_sum 0 = .ok (.iconst 0, 1) := by decide +kernel
theorem dX3_sum_1 : decode cX3_sum 1 = .ok (.istore_n 1, 1) := by decide +kernel
theorem dX3_sum_2 : decode cX3_sum 2 = .ok (.iconst 0, 1) := by decide +kernel
theorem dX3_sum_3 : decode cX3_sum 3 = .ok (.istore_n 2, 1) := by decide +kernel
theorem dX3_sum_4 : decode cX3_sum 4 = .ok (.aload_n 0, 1) := by decide +kernel
theorem dX3_sum_5 : decode cX3_sum 5 = .ok (.ifnull 21, 3) := by decide +kernel
theorem dX3_sum_8 : decode cX3_sum 8 = .ok (.iload_n 2, 1) := by decide +kernel
theorem dX3_sum_9 : decode cX3_sum 9 = .ok (.aload_n 0, 1) := by decide +kernel
theorem dX3_sum_10 : decode cX3_sum 10 = .ok (.arraylength, 1) := by decide +kernel
theorem dX3_sum_11 : decode cX3_sum 11 = .ok (.if_icmp .ge 15, 3) := by decide +kernel
theorem dX3_sum_14 : decode cX3_sum 14 = .ok (.iload_n 1, 1) := by decide +kernel
theorem dX3_sum_15 : decode cX3_sum 15 = .ok (.aload_n 0, 1) := by decide +kernel
theorem dX3_sum_16 : decode cX3_sum 16 = .ok (.iload_n 2, 1) := by decide +kernel
theorem dX3_sum_17 : decode cX3_sum 17 = .ok (.iaload, 1) := by decide +kernel
theorem dX3_sum_18 : decode cX3_sum 18 = .ok (.iadd, 1) := by decide +kernel
theorem dX3_sum_19 : decode cX3_sum 19 = .ok (.istore_n 1, 1) := by decide +kernel
theorem dX3_sum_20 : decode cX3_sum 20 = .ok (.iinc 2 1, 3) := by decide +kernel
theorem dX3_sum_23 : decode cX3_sum 23 = .ok (.goto (-19), 3) := by decide +kernel
theorem dX3_sum_26 : decode cX3_sum 26 = .ok (.iload_n 1, 1) := by decide +kernel
theorem dX3_sum_27 : decode cX3_sum 27 = .ok (.ireturn, 1) := by decide +kernel
end
section
theorem dJ6_bitCount_0f7a4_0 : decode cJ6_bitCount_0f7a4 0 = .ok (.iload_n 0, 1) := by decide +kernel
theorem dJ6_bitCount_0f7a4_1 : decode cJ6_bitCount_0f7a4 1 = .ok (.iload_n 0, 1) := by decide +kernel
theorem dJ6_bitCount_0f7a4_2 : decode cJ6_bitCount_0f7a4 2 = .ok (.iconst 1, 1) := by decide +kernel
theorem dJ6_bitCount_0f7a4_3 : decode cJ6_bitCount_0f7a4 3 = .ok (.iushr, 1) := by decide +kernel
theorem dJ6_bitCount_0f7a4_4 : decode cJ6_bitCount_0f7a4 4 = .ok (.ldc_w 265, 3) := by decide +kernel
theorem dJ6_bitCount_0f7a4_7 : decode cJ6_bitCount_0f7a4 7 = .ok (.iand, 1) := by decide +kernel
theorem dJ6_bitCount_0f7a4_8 : decode cJ6_bitCount_0f7a4 8 = .ok (.isub, 1) := by decide +kernel
theorem dJ6_bitCount_0f7a4_9 : decode cJ6_bitCount_0f7a4 9 = .ok (.istore_n 0, 1) := by decide +kernel
theorem dJ6_bitCount_0f7a4_10 : decode cJ6_bitCount_0f7a4 10 = .ok (.iload_n 0, 1) := by decide +kernel
theorem dJ6_bitCount_0f7a4_11 : decode cJ6_bitCount_0f7a4 11 = .ok (.ldc_w 266, 3) := by decide +kernel
theorem dJ6_bitCount_0f7a4_14 : decode cJ6_bitCount_0f7a4 14 = .ok (.iand, 1) := by decide +kernel
theorem dJ6_bitCount_0f7a4_15 : decode cJ6_bitCount_0f7a4 15 = .ok (.iload_n 0, 1) := by decide +kernel
theorem dJ6_bitCount_0f7a4_16 : decode cJ6_bitCount_0f7a4 16 = .ok (.iconst 2, 1) := by decide +kernel
theorem dJ6_bitCount_0f7a4_17 : decode cJ6_bitCount_0f7a4 17 = .ok (.iushr, 1) := by decide +kernel
theorem dJ6_bitCount_0f7a4_18 : decode cJ6_bitCount_0f7a4 18 = .ok (.ldc_w 266, 3) := by decide +kernel
theorem dJ6_bitCount_0f7a4_21 : decode cJ6_bitCount_0f7a4 21 = .ok (.iand, 1) := by decide +kernel
theorem dJ6_bitCount_0f7a4_22 : decode cJ6_bitCount_0f7a4 22 = .ok (.iadd, 1) := by decide +kernel
theorem dJ6_bitCount_0f7a4_23 : decode cJ6_bitCount_0f7a4 23 = .ok (.istore_n 0, 1) := by decide +kernel
theorem dJ6_bitCount_0f7a4_24 : decode cJ6_bitCount_0f7a4 24 = .ok (.iload_n 0, 1) := by decide +kernel
theorem dJ6_bitCount_0f7a4_25 : decode cJ6_bitCount_0f7a4 25 = .ok (.iload_n 0, 1) := by decide +kernel
theorem dJ6_bitCount_0f7a4_26 : decode cJ6_bitCount_0f7a4 26 = .ok (.iconst 4, 1) := by decide +kernel
theorem dJ6_bitCount_0f7a4_27 : decode cJ6_bitCount_0f7a4 27 = .ok (.iushr, 1) := by decide +kernel
theorem dJ6_bitCount_0f7a4_28 : decode cJ6_bitCount_0f7a4 28 = .ok (.iadd, 1) := by decide +kernel
theorem dJ6_bitCount_0f7a4_29 : decode cJ6_bitCount_0f7a4 29 = .ok (.ldc_w 267, 3) := by decide +kernel
theorem dJ6_bitCount_0f7a4_32 : decode cJ6_bitCount_0f7a4 32 = .ok (.iand, 1) := by decide +kernel
theorem dJ6_bitCount_0f7a4_33 : decode cJ6_bitCount_0f7a4 33 = .ok (.istore_n 0, 1) := by decide +kernel
theorem dJ6_bitCount_0f7a4_34 : decode cJ6_bitCount_0f7a4 34 = .ok (.iload_n 0, 1) := by decide +kernel
theorem dJ6_bitCount_0f7a4_35 : decode cJ6_bitCount_0f7a4 35 = .ok (.iload_n 0, 1) := by decide +kernel
theorem dJ6_bitCount_0f7a4_36 : decode cJ6_bitCount_0f7a4 36 = .ok (.bipush 8, 2) := by decide +kernel
theorem dJ6_bitCount_0f7a4_38 : decode cJ6_bitCount_0f7a4 38 = .ok (.iushr, 1) := by decide +kernel
theorem dJ6_bitCount_0f7a4_39 : decode cJ6_bitCount_0f7a4 39 = .ok (.iadd, 1) := by decide +kernel
theorem dJ6_bitCount_0f7a4_40 : decode cJ6_bitCount_0f7a4 40 = .ok (.istore_n 0, 1) := by decide +kernel
theorem dJ6_bitCount_0f7a4_41 : decode cJ6_bitCount_0f7a4 41 = .ok (.iload_n 0, 1) := by decide +kernel
theorem dJ6_bitCount_0f7a4_42 : decode cJ6_bitCount_0f7a4 42 = .ok (.iload_n 0, 1) := by decide +kernel
theorem dJ6_bitCount_0f7a4_43 : decode cJ6_bitCount_0f7a4 43 = .ok (.bipush 16, 2) := by decide +kernel
theorem dJ6_bitCount_0f7a4_45 : decode cJ6_bitCount_0f7a4 45 = .ok (.iushr, 1) := by decide +kernel
theorem dJ6_bitCount_0f7a4_46 : decode cJ6_bitCount_0f7a4 46 = .ok (.iadd, 1) := by decide +kernel
theorem dJ6_bitCount_0f7a4_47 : decode cJ6_bitCount_0f7a4 47 = .ok (.istore_n 0, 1) := by decide +kernel
theorem dJ6_bitCount_0f7a4_48 : decode cJ6_bitCount_0f7a4 48 = .ok (.iload_n 0, 1) := by decide +kernel
theorem dJ6_bitCount_0f7a4_49 : decode cJ6_bitCount_0f7a4 49 = .ok (.bipush 63, 2) := by decide +kernel
theorem dJ6_bitCount_0f7a4_51 : decode cJ6_bitCount_0f7a4 51 = .ok (.iand, 1) := by decide +kernel
theorem dJ6_bitCount_0f7a4_52 : decode cJ6_bitCount_0f7a4 52 = .ok (.ireturn, 1) := by decide +kernel
theorem dJ9_max_7cf53_0 : decode cJ9_max_7cf53 0 = .ok (.iload_n 0, 1) := by decide +kernel
theorem dJ9_max_7cf53_1 : decode cJ9_max_7cf53 1 = .ok (.iload_n 1, 1) := by decide +kernel
theorem dJ9_max_7cf53_2 : decode cJ9_max_7cf53 2 = .ok (.if_icmp .lt 7, 3) := by decide +kernel
theorem dJ9_max_7cf53_5 : decode cJ9_max_7cf53 5 = .ok (.iload_n 0, 1) := by decide +kernel
theorem dJ9_max_7cf53_6 : decode cJ9_max_7cf53 6 = .ok (.goto 4, 3) := by decide +kernel
theorem dJ9_max_7cf53_9 : decode cJ9_max_7cf53 9 = .ok (.iload_n 1, 1) := by decide +kernel
theorem dJ9_max_7cf53_10 : decode cJ9_max_7cf53 10 = .ok (.ireturn, 1) := by decide +kernel
theorem dJ9_min_7cf53_0 : decode cJ9_min_7cf53 0 = .ok (.iload_n 0, 1) := by decide +kernel
theorem dJ9_min_7cf53_1 : decode cJ9_min_7cf53 1 = .ok (.iload_n 1, 1) := by decide +kernel
theorem dJ9_min_7cf53_2 : decode cJ9_min_7cf53 2 = .ok (.if_icmp .gt 7, 3) := by decide +kernel
theorem dJ9_min_7cf53_5 : decode cJ9_min_7cf53 5 = .ok (.iload_n 0, 1) := by decide +kernel
theorem dJ9_min_7cf53_6 : decode cJ9_min_7cf53 6 = .ok (.goto 4, 3) := by decide +kernel
theorem dJ9_min_7cf53_9 : decode cJ9_min_7cf53 9 = .ok (.iload_n 1, 1) := by decide +kernel
theorem dJ9_min_7cf53_10 : decode cJ9_min_7cf53 10 = .ok (.ireturn, 1) := by decide +kernel
end
section
theorem dL_cell_0 : decode cL_cell 0 = .ok (.iload_n 1, 1) := by decide +kernel
theorem dL_cell_1 : decode cL_cell 1 = .ok (.aload_n 0, 1) := by decide +kernel
theorem dL_cell_2 : decode cL_cell 2 = .ok (.arraylength, 1) := by decide +kernel
theorem dL_cell_3 : decode cL_cell 3 = .ok (.if_icmp .ge 9, 3) := by decide +kernel
theorem dL_cell_6 : decode cL_cell 6 = .ok (.aload_n 0, 1) := by decide +kernel
theorem dL_cell_7 : decode cL_cell 7 = .ok (.iload_n 1, 1) := by decide +kernel
theorem dL_cell_8 : decode cL_cell 8 = .ok (.iaload, 1) := by decide +kernel
theorem dL_cell_9 : decode cL_cell 9 = .ok (.goto 9, 3) := by decide +kernel
theorem dL_cell_12 : decode cL_cell 12 = .ok (.ldc 7, 2) := by decide +kernel
theorem dL_cell_14 : decode cL_cell 14 = .ok (.iload_n 1, 1) := by decide +kernel
theorem dL_cell_15 : decode cL_cell 15 = .ok (.iconst 1, 1) := by decide +kernel
theorem dL_cell_16 : decode cL_cell 16 = .ok (.iadd, 1) := by decide +kernel
theorem dL_cell_17 : decode cL_cell 17 = .ok (.imul, 1) := by decide +kernel
theorem dL_cell_18 : decode cL_cell 18 = .ok (.ireturn, 1) := by decide +kernel
theorem dL_at_0 : decode cL_at 0 = .ok (.iload_n 0, 1) := by decide +kernel
theorem dL_at_1 : decode cL_at 1 = .ok (.iconst 1, 1) := by decide +kernel
theorem dL_at_2 : decode cL_at 2 = .ok (.iushr, 1) := by decide +kernel
theorem dL_at_3 : decode cL_at 3 = .ok (.iload_n 1, 1) := by decide +kernel
theorem dL_at_4 : decode cL_at 4 = .ok (.irem, 1) := by decide +kernel
theorem dL_at_5 : decode cL_at 5 = .ok (.ireturn, 1) := by decide +kernel
theorem dL_campText_0 : decode cL_campText 0 = .ok (.iconst 0, 1) := by decide +kernel
theorem dL_campText_1 : decode cL_campText 1 = .ok (.istore 5, 2) := by decide +kernel
theorem dL_campText_3 : decode cL_campText 3 = .ok (.aload_n 2, 1) := by decide +kernel
theorem dL_campText_4 : decode cL_campText 4 = .ok (.iconst 0, 1) := by decide +kernel
theorem dL_campText_5 : decode cL_campText 5 = .ok (.iconst 2, 1) := by decide +kernel
theorem dL_campText_6 : decode cL_campText 6 = .ok (.iload_n 0, 1) := by decide +kernel
theorem dL_campText_7 : decode cL_campText 7 = .ok (.iconst 5, 1) := by decide +kernel
theorem dL_campText_8 : decode cL_campText 8 = .ok (.invokestatic 8, 3) := by decide +kernel
theorem dL_campText_11 : decode cL_campText 11 = .ok (.iadd, 1) := by decide +kernel
theorem dL_campText_12 : decode cL_campText 12 = .ok (.iastore, 1) := by decide +kernel
theorem dL_campText_13 : decode cL_campText 13 = .ok (.iconst 0, 1) := by decide +kernel
theorem dL_campText_14 : decode cL_campText 14 = .ok (.istore 6, 2) := by decide +kernel
theorem dL_campText_16 : decode cL_campText 16 = .ok (.iload 6, 2) := by decide +kernel
theorem dL_campText_18 : decode cL_campText 18 = .ok (.aload_n 2, 1) := by decide +kernel
theorem dL_campText_19 : decode cL_campText 19 = .ok (.iconst 0, 1) := by decide +kernel
theorem dL_campText_20 : decode cL_campText 20 = .ok (.iaload, 1) := by decide +kernel
theorem dL_campText_21 : decode cL_campText 21 = .ok (.if_icmp .ge 96, 3) := by decide +kernel
theorem dL_campText_24 : decode cL_campText 24 = .ok (.aload_n 2, 1) := by decide +kernel
theorem dL_campText_25 : decode cL_campText 25 = .ok (.iconst 1, 1) := by decide +kernel
theorem dL_campText_26 : decode cL_campText 26 = .ok (.iload 6, 2) := by decide +kernel
theorem dL_campText_28 : decode cL_campText 28 = .ok (.iadd, 1) := by decide +kernel
theorem dL_campText_29 : decode cL_campText 29 = .ok (.iload_n 0, 1) := by decide +kernel
theorem dL_campText_30 : decode cL_campText 30 = .ok (.iconst 3, 1) := by decide +kernel
theorem dL_campText_31 : decode cL_campText 31 = .ok (.iconst 3, 1) := by decide +kernel
theorem dL_campText_32 : decode cL_campText 32 = .ok (.iload 6, 2) := by decide +kernel
theorem dL_campText_34 : decode cL_campText 34 = .ok (.imul, 1) := by decide +kernel
theorem dL_campText_35 : decode cL_campText 35 = .ok (.iadd, 1) := by decide +kernel
theorem dL_campText_36 : decode cL_campText 36 = .ok (.ishr, 1) := by decide +kernel
theorem dL_campText_37 : decode cL_campText 37 = .ok (.iconst 5, 1) := by decide +kernel
theorem dL_campText_38 : decode cL_campText 38 = .ok (.invokestatic 8, 3) := by decide +kernel
theorem dL_campText_41 : decode cL_campText 41 = .ok (.iastore, 1) := by decide +kernel
theorem dL_campText_42 : decode cL_campText 42 = .ok (.aload 4, 2) := by decide +kernel
theorem dL_campText_44 : decode cL_campText 44 = .ok (.iload 5, 2) := by decide +kernel
theorem dL_campText_46 : decode cL_campText 46 = .ok (.iinc 5 1, 3) := by decide +kernel
theorem dL_campText_49 : decode cL_campText 49 = .ok (.aload_n 2, 1) := by decide +kernel
theorem dL_campText_50 : decode cL_campText 50 = .ok (.iconst 1, 1) := by decide +kernel
theorem dL_campText_51 : decode cL_campText 51 = .ok (.iload 6, 2) := by decide +kernel
theorem dL_campText_53 : decode cL_campText 53 = .ok (.iadd, 1) := by decide +kernel
theorem dL_campText_54 : decode cL_campText 54 = .ok (.iaload, 1) := by decide +kernel
theorem dL_campText_55 : decode cL_campText 55 = .ok (.ifCond .ne 8, 3) := by decide +kernel
theorem dL_campText_58 : decode cL_campText 58 = .ok (.bipush 109, 2) := by decide +kernel
theorem dL_campText_60 : decode cL_campText 60 = .ok (.goto 50, 3) := by decide +kernel
theorem dL_campText_63 : decode cL_campText 63 = .ok (.aload_n 2, 1) := by decide +kernel
theorem dL_campText_64 : decode cL_campText 64 = .ok (.iconst 1, 1) := by decide +kernel
theorem dL_campText_65 : decode cL_campText 65 = .ok (.iload 6, 2) := by decide +kernel
theorem dL_campText_67 : decode cL_campText 67 = .ok (.iadd, 1) := by decide +kernel
theorem dL_campText_68 : decode cL_campText 68 = .ok (.iaload, 1) := by decide +kernel
theorem dL_campText_69 : decode cL_campText 69 = .ok (.iconst 1, 1) := by decide +kernel
theorem dL_campText_70 : decode cL_campText 70 = .ok (.if_icmp .ne 8, 3) := by decide +kernel
theorem dL_campText_73 : decode cL_campText 73 = .ok (.bipush 112, 2) := by decide +kernel
theorem dL_campText_75 : decode cL_campText 75 = .ok (.goto 35, 3) := by decide +kernel
theorem dL_campText_78 : decode cL_campText 78 = .ok (.aload_n 2, 1) := by decide +kernel
theorem dL_campText_79 : decode cL_campText 79 = .ok (.iconst 1, 1) := by decide +kernel
theorem dL_campText_80 : decode cL_campText 80 = .ok (.iload 6, 2) := by decide +kernel
theorem dL_campText_82 : decode cL_campText 82 = .ok (.iadd, 1) := by decide +kernel
theorem dL_campText_83 : decode cL_campText 83 = .ok (.iaload, 1) := by decide +kernel
theorem dL_campText_84 : decode cL_campText 84 = .ok (.iconst 2, 1) := by decide +kernel
theorem dL_campText_85 : decode cL_campText 85 = .ok (.if_icmp .ne 8, 3) := by decide +kernel
theorem dL_campText_88 : decode cL_campText 88 = .ok (.bipush 100, 2) := by decide +kernel
theorem dL_campText_90 : decode cL_campText 90 = .ok (.goto 20, 3) := by decide +kernel
theorem dL_campText_93 : decode cL_campText 93 = .ok (.aload_n 2, 1) := by decide +kernel
theorem dL_campText_94 : decode cL_campText 94 = .ok (.iconst 1, 1) := by decide +kernel
theorem dL_campText_95 : decode cL_campText 95 = .ok (.iload 6, 2) := by decide +kernel
theorem dL_campText_97 : decode cL_campText 97 = .ok (.iadd, 1) := by decide +kernel
theorem dL_campText_98 : decode cL_campText 98 = .ok (.iaload, 1) := by decide +kernel
theorem dL_campText_99 : decode cL_campText 99 = .ok (.iconst 3, 1) := by decide +kernel
theorem dL_campText_100 : decode cL_campText 100 = .ok (.if_icmp .ne 8, 3) := by decide +kernel
theorem dL_campText_103 : decode cL_campText 103 = .ok (.bipush 98, 2) := by decide +kernel
theorem dL_campText_105 : decode cL_campText 105 = .ok (.goto 5, 3) := by decide +kernel
theorem dL_campText_108 : decode cL_campText 108 = .ok (.bipush 104, 2) := by decide +kernel
theorem dL_campText_110 : decode cL_campText 110 = .ok (.iastore, 1) := by decide +kernel
theorem dL_campText_111 : decode cL_campText 111 = .ok (.iinc 6 1, 3) := by decide +kernel
theorem dL_campText_114 : decode cL_campText 114 = .ok (.goto (-98), 3) := by decide +kernel
theorem dL_campText_117 : decode cL_campText 117 = .ok (.aload 4, 2) := by decide +kernel
theorem dL_campText_119 : decode cL_campText 119 = .ok (.iload 5, 2) := by decide +kernel
theorem dL_campText_121 : decode cL_campText 121 = .ok (.iinc 5 1, 3) := by decide +kernel
theorem dL_campText_124 : decode cL_campText 124 = .ok (.bipush 59, 2) := by decide +kernel
theorem dL_campText_126 : decode cL_campText 126 = .ok (.iastore, 1) := by decide +kernel
theorem dL_campText_127 : decode cL_campText 127 = .ok (.iconst 0, 1) := by decide +kernel
theorem dL_campText_128 : decode cL_campText 128 = .ok (.istore 6, 2) := by decide +kernel
theorem dL_campText_130 : decode cL_campText 130 = .ok (.iload 6, 2) := by decide +kernel
theorem dL_campText_132 : decode cL_campText 132 = .ok (.bipush 9, 2) := by decide +kernel
theorem dL_campText_134 : decode cL_campText 134 = .ok (.if_icmp .ge 14, 3) := by decide +kernel
theorem dL_campText_137 : decode cL_campText 137 = .ok (.aload_n 3, 1) := by decide +kernel
theorem dL_campText_138 : decode cL_campText 138 = .ok (.iload 6, 2) := by decide +kernel
theorem dL_campText_140 : decode cL_campText 140 = .ok (.iconst 0, 1) := by decide +kernel
theorem dL_campText_141 : decode cL_campText 141 = .ok (.iastore, 1) := by decide +kernel
theorem dL_campText_142 : decode cL_campText 142 = .ok (.iinc 6 1, 3) := by decide +kernel
theorem dL_campText_145 : decode cL_campText 145 = .ok (.goto (-15), 3) := by decide +kernel
theorem dL_campText_148 : decode cL_campText 148 = .ok (.iconst 1, 1) := by decide +kernel
theorem dL_campText_149 : decode cL_campText 149 = .ok (.istore 6, 2) := by decide +kernel
theorem dL_campText_151 : decode cL_campText 151 = .ok (.iload 6, 2) := by decide +kernel
theorem dL_campText_153 : decode cL_campText 153 = .ok (.bipush 6, 2) := by decide +kernel
theorem dL_campText_155 : decode cL_campText 155 = .ok (.if_icmp .ge 39, 3) := by decide +kernel
theorem dL_campText_158 : decode cL_campText 158 = .ok (.aload_n 3, 1) := by decide +kernel
theorem dL_campText_159 : decode cL_campText 159 = .ok (.iload 6, 2) := by decide +kernel
theorem dL_campText_161 : decode cL_campText 161 = .ok (.iload_n 1, 1) := by decide +kernel
theorem dL_campText_162 : decode cL_campText 162 = .ok (.iconst 4, 1) := by decide +kernel
theorem dL_campText_163 : decode cL_campText 163 = .ok (.iload 6, 2) := by decide +kernel
theorem dL_campText_165 : decode cL_campText 165 = .ok (.imul, 1) := by decide +kernel
theorem dL_campText_166 : decode cL_campText 166 = .ok (.ishr, 1) := by decide +kernel
theorem dL_campText_167 : decode cL_campText 167 = .ok (.bipush 10, 2) := by decide +kernel
theorem dL_campText_169 : decode cL_campText 169 = .ok (.invokestatic 8, 3) := by decide +kernel
theorem dL_campText_172 : decode cL_campText 172 = .ok (.iastore, 1) := by decide +kernel
theorem dL_campText_173 : decode cL_campText 173 = .ok (.aload 4, 2) := by decide +kernel
theorem dL_campText_175 : decode cL_campText 175 = .ok (.iload 5, 2) := by decide +kernel
theorem dL_campText_177 : decode cL_campText 177 = .ok (.iinc 5 1, 3) := by decide +kernel
theorem dL_campText_180 : decode cL_campText 180 = .ok (.bipush 48, 2) := by decide +kernel
theorem dL_campText_182 : decode cL_campText 182 = .ok (.aload_n 3, 1) := by decide +kernel
theorem dL_campText_183 : decode cL_campText 183 = .ok (.iload 6, 2) := by decide +kernel
theorem dL_campText_185 : decode cL_campText 185 = .ok (.iaload, 1) := by decide +kernel
theorem dL_campText_186 : decode cL_campText 186 = .ok (.iadd, 1) := by decide +kernel
theorem dL_campText_187 : decode cL_campText 187 = .ok (.iastore, 1) := by decide +kernel
theorem dL_campText_188 : decode cL_campText 188 = .ok (.iinc 6 1, 3) := by decide +kernel
theorem dL_campText_191 : decode cL_campText 191 = .ok (.goto (-40), 3) := by decide +kernel
theorem dL_campText_194 : decode cL_campText 194 = .ok (.aload_n 3, 1) := by decide +kernel
theorem dL_campText_195 : decode cL_campText 195 = .ok (.bipush 6, 2) := by decide +kernel
theorem dL_campText_197 : decode cL_campText 197 = .ok (.iconst 1, 1) := by decide +kernel
theorem dL_campText_198 : decode cL_campText 198 = .ok (.aload_n 2, 1) := by decide +kernel
theorem dL_campText_199 : decode cL_campText 199 = .ok (.iconst 0, 1) := by decide +kernel
theorem dL_campText_200 : decode cL_campText 200 = .ok (.iaload, 1) := by decide +kernel
theorem dL_campText_201 : decode cL_campText 201 = .ok (.ishl, 1) := by decide +kernel
theorem dL_campText_202 : decode cL_campText 202 = .ok (.iconst 1, 1) := by decide +kernel
theorem dL_campText_203 : decode cL_campText 203 = .ok (.isub, 1) := by decide +kernel
theorem dL_campText_204 : decode cL_campText 204 = .ok (.iastore, 1) := by decide +kernel
theorem dL_campText_205 : decode cL_campText 205 = .ok (.iload 5, 2) := by decide +kernel
theorem dL_campText_207 : decode cL_campText 207 = .ok (.ireturn, 1) := by decide +kernel
theorem dL_write_0 : decode cL_write 0 = .ok (.iconst 0, 1) := by decide +kernel
theorem dL_write_1 : decode cL_write 1 = .ok (.istore_n 3, 1) := by decide +kernel
theorem dL_write_2 : decode cL_write 2 = .ok (.iload_n 3, 1) := by decide +kernel
theorem dL_write_3 : decode cL_write 3 = .ok (.iload_n 2, 1) := by decide +kernel
theorem dL_write_4 : decode cL_write 4 = .ok (.if_icmp .ge 24, 3) := by decide +kernel
theorem dL_write_7 : decode cL_write 7 = .ok (.aload_n 0, 1) := by decide +kernel
theorem dL_write_8 : decode cL_write 8 = .ok (.aload_n 1, 1) := by decide +kernel
theorem dL_write_9 : decode cL_write 9 = .ok (.iload_n 3, 1) := by decide +kernel
theorem dL_write_10 : decode cL_write 10 = .ok (.iaload, 1) := by decide +kernel
theorem dL_write_11 : decode cL_write 11 = .ok (.invokevirtual 14, 3) := by decide +kernel
theorem dL_write_14 : decode cL_write 14 = .ok (.iload_n 3, 1) := by decide +kernel
theorem dL_write_15 : decode cL_write 15 = .ok (.iconst 1, 1) := by decide +kernel
theorem dL_write_16 : decode cL_write 16 = .ok (.iadd, 1) := by decide +kernel
theorem dL_write_17 : decode cL_write 17 = .ok (.if_icmp .eq 5, 3) := by decide +kernel
theorem dL_write_20 : decode cL_write 20 = .ok (.iconst 0, 1) := by decide +kernel
theorem dL_write_21 : decode cL_write 21 = .ok (.ireturn, 1) := by decide +kernel
theorem dL_write_22 : decode cL_write 22 = .ok (.iinc 3 1, 3) := by decide +kernel
theorem dL_write_25 : decode cL_write 25 = .ok (.goto (-23), 3) := by decide +kernel
theorem dL_write_28 : decode cL_write 28 = .ok (.iconst 1, 1) := by decide +kernel
theorem dL_write_29 : decode cL_write 29 = .ok (.ireturn, 1) := by decide +kernel
theorem dL_in_0 : decode cL_in 0 = .ok (.iload_n 0, 1) := by decide +kernel
theorem dL_in_1 : decode cL_in 1 = .ok (.iload_n 1, 1) := by decide +kernel
theorem dL_in_2 : decode cL_in 2 = .ok (.ishr, 1) := by decide +kernel
theorem dL_in_3 : decode cL_in 3 = .ok (.iconst 1, 1) := by decide +kernel
theorem dL_in_4 : decode cL_in 4 = .ok (.iand, 1) := by decide +kernel
theorem dL_in_5 : decode cL_in 5 = .ok (.iconst 1, 1) := by decide +kernel
theorem dL_in_6 : decode cL_in 6 = .ok (.if_icmp .ne 7, 3) := by decide +kernel
theorem dL_in_9 : decode cL_in 9 = .ok (.iconst 1, 1) := by decide +kernel
theorem dL_in_10 : decode cL_in 10 = .ok (.goto 4, 3) := by decide +kernel
theorem dL_in_13 : decode cL_in 13 = .ok (.iconst 0, 1) := by decide +kernel
theorem dL_in_14 : decode cL_in 14 = .ok (.ireturn, 1) := by decide +kernel
theorem dL_size_0 : decode cL_size 0 = .ok (.iconst 0, 1) := by decide +kernel
theorem dL_size_1 : decode cL_size 1 = .ok (.istore_n 1, 1) := by decide +kernel
theorem dL_size_2 : decode cL_size 2 = .ok (.iconst 0, 1) := by decide +kernel
theorem dL_size_3 : decode cL_size 3 = .ok (.istore_n 2, 1) := by decide +kernel
theorem dL_size_4 : decode cL_size 4 = .ok (.iload_n 2, 1) := by decide +kernel
theorem dL_size_5 : decode cL_size 5 = .ok (.bipush 10, 2) := by decide +kernel
theorem dL_size_7 : decode cL_size 7 = .ok (.if_icmp .ge 17, 3) := by decide +kernel
theorem dL_size_10 : decode cL_size 10 = .ok (.iload_n 1, 1) := by decide +kernel
theorem dL_size_11 : decode cL_size 11 = .ok (.iload_n 0, 1) := by decide +kernel
theorem dL_size_12 : decode cL_size 12 = .ok (.iload_n 2, 1) := by decide +kernel
theorem dL_size_13 : decode cL_size 13 = .ok (.ishr, 1) := by decide +kernel
theorem dL_size_14 : decode cL_size 14 = .ok (.iconst 1, 1) := by decide +kernel
theorem dL_size_15 : decode cL_size 15 = .ok (.iand, 1) := by decide +kernel
theorem dL_size_16 : decode cL_size 16 = .ok (.iadd, 1) := by decide +kernel
theorem dL_size_17 : decode cL_size 17 = .ok (.istore_n 1, 1) := by decide +kernel
theorem dL_size_18 : decode cL_size 18 = .ok (.iinc 2 1, 3) := by decide +kernel
theorem dL_size_21 : decode cL_size 21 = .ok (.goto (-17), 3) := by decide +kernel
theorem dL_size_24 : decode cL_size 24 = .ok (.iload_n 1, 1) := by decide +kernel
theorem dL_size_25 : decode cL_size 25 = .ok (.ireturn, 1) := by decide +kernel
theorem dL_pulls_0 : decode cL_pulls 0 = .ok (.iload_n 0, 1) := by decide +kernel
theorem dL_pulls_1 : decode cL_pulls 1 = .ok (.ifCond .ne 7, 3) := by decide +kernel
theorem dL_pulls_4 : decode cL_pulls 4 = .ok (.iconst 4, 1) := by decide +kernel
theorem dL_pulls_5 : decode cL_pulls 5 = .ok (.goto 23, 3) := by decide +kernel
theorem dL_pulls_8 : decode cL_pulls 8 = .ok (.iload_n 0, 1) := by decide +kernel
theorem dL_pulls_9 : decode cL_pulls 9 = .ok (.iconst 1, 1) := by decide +kernel
theorem dL_pulls_10 : decode cL_pulls 10 = .ok (.if_icmp .ne 8, 3) := by decide +kernel
theorem dL_pulls_13 : decode cL_pulls 13 = .ok (.bipush 8, 2) := by decide +kernel
theorem dL_pulls_15 : decode cL_pulls 15 = .ok (.goto 13, 3) := by decide +kernel
theorem dL_pulls_18 : decode cL_pulls 18 = .ok (.iload_n 0, 1) := by decide +kernel
theorem dL_pulls_19 : decode cL_pulls 19 = .ok (.iconst 4, 1) := by decide +kernel
theorem dL_pulls_20 : decode cL_pulls 20 = .ok (.if_icmp .ne 7, 3) := by decide +kernel
theorem dL_pulls_23 : decode cL_pulls 23 = .ok (.iconst 3, 1) := by decide +kernel
theorem dL_pulls_24 : decode cL_pulls 24 = .ok (.goto 4, 3) := by decide +kernel
theorem dL_pulls_27 : decode cL_pulls 27 = .ok (.iconst 2, 1) := by decide +kernel
theorem dL_pulls_28 : decode cL_pulls 28 = .ok (.ireturn, 1) := by decide +kernel
theorem dL_feeds_0 : decode cL_feeds 0 = .ok (.iload_n 0, 1) := by decide +kernel
theorem dL_feeds_1 : decode cL_feeds 1 = .ok (.iconst 1, 1) := by decide +kernel
theorem dL_feeds_2 : decode cL_feeds 2 = .ok (.if_icmp .ne 8, 3) := by decide +kernel
theorem dL_feeds_5 : decode cL_feeds 5 = .ok (.bipush 6, 2) := by decide +kernel
theorem dL_feeds_7 : decode cL_feeds 7 = .ok (.goto 22, 3) := by decide +kernel
theorem dL_feeds_10 : decode cL_feeds 10 = .ok (.iload_n 0, 1) := by decide +kernel
theorem dL_feeds_11 : decode cL_feeds 11 = .ok (.iconst 2, 1) := by decide +kernel
theorem dL_feeds_12 : decode cL_feeds 12 = .ok (.if_icmp .ne 7, 3) := by decide +kernel
theorem dL_feeds_15 : decode cL_feeds 15 = .ok (.iconst 2, 1) := by decide +kernel
theorem dL_feeds_16 : decode cL_feeds 16 = .ok (.goto 13, 3) := by decide +kernel
theorem dL_feeds_19 : decode cL_feeds 19 = .ok (.iload_n 0, 1) := by decide +kernel
theorem dL_feeds_20 : decode cL_feeds 20 = .ok (.iconst 4, 1) := by decide +kernel
theorem dL_feeds_21 : decode cL_feeds 21 = .ok (.if_icmp .ne 7, 3) := by decide +kernel
theorem dL_feeds_24 : decode cL_feeds 24 = .ok (.iconst 3, 1) := by decide +kernel
theorem dL_feeds_25 : decode cL_feeds 25 = .ok (.goto 4, 3) := by decide +kernel
theorem dL_feeds_28 : decode cL_feeds 28 = .ok (.iconst 0, 1) := by decide +kernel
theorem dL_feeds_29 : decode cL_feeds 29 = .ok (.ireturn, 1) := by decide +kernel
theorem dL_sum_0 : decode cL_sum 0 = .ok (.iconst 0, 1) := by decide +kernel
theorem dL_sum_1 : decode cL_sum 1 = .ok (.istore_n 3, 1) := by decide +kernel
theorem dL_sum_2 : decode cL_sum 2 = .ok (.iconst 0, 1) := by decide +kernel
theorem dL_sum_3 : decode cL_sum 3 = .ok (.istore 4, 2) := by decide +kernel
theorem dL_sum_5 : decode cL_sum 5 = .ok (.iload 4, 2) := by decide +kernel
theorem dL_sum_7 : decode cL_sum 7 = .ok (.aload_n 0, 1) := by decide +kernel
theorem dL_sum_8 : decode cL_sum 8 = .ok (.iconst 0, 1) := by decide +kernel
theorem dL_sum_9 : decode cL_sum 9 = .ok (.iaload, 1) := by decide +kernel
theorem dL_sum_10 : decode cL_sum 10 = .ok (.if_icmp .ge 52, 3) := by decide +kernel
theorem dL_sum_13 : decode cL_sum 13 = .ok (.iload_n 1, 1) := by decide +kernel
theorem dL_sum_14 : decode cL_sum 14 = .ok (.iload 4, 2) := by decide +kernel
theorem dL_sum_16 : decode cL_sum 16 = .ok (.invokestatic 20, 3) := by decide +kernel
theorem dL_sum_19 : decode cL_sum 19 = .ok (.ifCond .eq 37, 3) := by decide +kernel
theorem dL_sum_22 : decode cL_sum 22 = .ok (.iload_n 3, 1) := by decide +kernel
theorem dL_sum_23 : decode cL_sum 23 = .ok (.iload_n 2, 1) := by decide +kernel
theorem dL_sum_24 : decode cL_sum 24 = .ok (.ifCond .ne 15, 3) := by decide +kernel
theorem dL_sum_27 : decode cL_sum 27 = .ok (.aload_n 0, 1) := by decide +kernel
theorem dL_sum_28 : decode cL_sum 28 = .ok (.iconst 1, 1) := by decide +kernel
theorem dL_sum_29 : decode cL_sum 29 = .ok (.iload 4, 2) := by decide +kernel
theorem dL_sum_31 : decode cL_sum 31 = .ok (.iadd, 1) := by decide +kernel
theorem dL_sum_32 : decode cL_sum 32 = .ok (.iaload, 1) := by decide +kernel
theorem dL_sum_33 : decode cL_sum 33 = .ok (.invokestatic 24, 3) := by decide +kernel
theorem dL_sum_36 : decode cL_sum 36 = .ok (.goto 18, 3) := by decide +kernel
theorem dL_sum_39 : decode cL_sum 39 = .ok (.aload_n 0, 1) := by decide +kernel
theorem dL_sum_40 : decode cL_sum 40 = .ok (.iconst 1, 1) := by decide +kernel
theorem dL_sum_41 : decode cL_sum 41 = .ok (.iload 4, 2) := by decide +kernel
theorem dL_sum_43 : decode cL_sum 43 = .ok (.iadd, 1) := by decide +kernel
theorem dL_sum_44 : decode cL_sum 44 = .ok (.iaload, 1) := by decide +kernel
theorem dL_sum_45 : decode cL_sum 45 = .ok (.iconst 1, 1) := by decide +kernel
theorem dL_sum_46 : decode cL_sum 46 = .ok (.if_icmp .ne 7, 3) := by decide +kernel
theorem dL_sum_49 : decode cL_sum 49 = .ok (.iconst 2, 1) := by decide +kernel
theorem dL_sum_50 : decode cL_sum 50 = .ok (.goto 4, 3) := by decide +kernel
theorem dL_sum_53 : decode cL_sum 53 = .ok (.iconst 1, 1) := by decide +kernel
theorem dL_sum_54 : decode cL_sum 54 = .ok (.iadd, 1) := by decide +kernel
theorem dL_sum_55 : decode cL_sum 55 = .ok (.istore_n 3, 1) := by decide +kernel
theorem dL_sum_56 : decode cL_sum 56 = .ok (.iinc 4 1, 3) := by decide +kernel
theorem dL_sum_59 : decode cL_sum 59 = .ok (.goto (-54), 3) := by decide +kernel
theorem dL_sum_62 : decode cL_sum 62 = .ok (.iload_n 3, 1) := by decide +kernel
theorem dL_sum_63 : decode cL_sum 63 = .ok (.ireturn, 1) := by decide +kernel
theorem dL_march_0 : decode cL_march 0 = .ok (.aload_n 2, 1) := by decide +kernel
theorem dL_march_1 : decode cL_march 1 = .ok (.iconst 0, 1) := by decide +kernel
theorem dL_march_2 : decode cL_march 2 = .ok (.iload_n 3, 1) := by decide +kernel
theorem dL_march_3 : decode cL_march 3 = .ok (.iastore, 1) := by decide +kernel
theorem dL_march_4 : decode cL_march 4 = .ok (.aload_n 2, 1) := by decide +kernel
theorem dL_march_5 : decode cL_march 5 = .ok (.iconst 1, 1) := by decide +kernel
theorem dL_march_6 : decode cL_march 6 = .ok (.iload 5, 2) := by decide +kernel
theorem dL_march_8 : decode cL_march 8 = .ok (.aload_n 0, 1) := by decide +kernel
theorem dL_march_9 : decode cL_march 9 = .ok (.iload_n 3, 1) := by decide +kernel
theorem dL_march_10 : decode cL_march 10 = .ok (.iconst 0, 1) := by decide +kernel
theorem dL_march_11 : decode cL_march 11 = .ok (.invokestatic 27, 3) := by decide +kernel
theorem dL_march_14 : decode cL_march 14 = .ok (.if_icmp .ge 8, 3) := by decide +kernel
theorem dL_march_17 : decode cL_march 17 = .ok (.iload 5, 2) := by decide +kernel
theorem dL_march_19 : decode cL_march 19 = .ok (.goto 9, 3) := by decide +kernel
theorem dL_march_22 : decode cL_march 22 = .ok (.aload_n 0, 1) := by decide +kernel
theorem dL_march_23 : decode cL_march 23 = .ok (.iload_n 3, 1) := by decide +kernel
theorem dL_march_24 : decode cL_march 24 = .ok (.iconst 0, 1) := by decide +kernel
theorem dL_march_25 : decode cL_march 25 = .ok (.invokestatic 27, 3) := by decide +kernel
theorem dL_march_28 : decode cL_march 28 = .ok (.iastore, 1) := by decide +kernel
theorem dL_march_29 : decode cL_march 29 = .ok (.aload_n 2, 1) := by decide +kernel
theorem dL_march_30 : decode cL_march 30 = .ok (.iconst 2, 1) := by decide +kernel
theorem dL_march_31 : decode cL_march 31 = .ok (.iconst 0, 1) := by decide +kernel
theorem dL_march_32 : decode cL_march 32 = .ok (.iastore, 1) := by decide +kernel
theorem dL_march_33 : decode cL_march 33 = .ok (.iconst 1, 1) := by decide +kernel
theorem dL_march_34 : decode cL_march 34 = .ok (.istore 6, 2) := by decide +kernel
theorem dL_march_36 : decode cL_march 36 = .ok (.iload 6, 2) := by decide +kernel
theorem dL_march_38 : decode cL_march 38 = .ok (.iconst 2, 1) := by decide +kernel
theorem dL_march_39 : decode cL_march 39 = .ok (.iload 4, 2) := by decide +kernel
theorem dL_march_41 : decode cL_march 41 = .ok (.imul, 1) := by decide +kernel
theorem dL_march_42 : decode cL_march 42 = .ok (.if_icmp .gt 298, 3) := by decide +kernel
theorem dL_march_45 : decode cL_march 45 = .ok (.iconst 0, 1) := by decide +kernel
theorem dL_march_46 : decode cL_march 46 = .ok (.istore 7, 2) := by decide +kernel
theorem dL_march_48 : decode cL_march 48 = .ok (.iload 7, 2) := by decide +kernel
theorem dL_march_50 : decode cL_march 50 = .ok (.iconst 2, 1) := by decide +kernel
theorem dL_march_51 : decode cL_march 51 = .ok (.if_icmp .ge 165, 3) := by decide +kernel
theorem dL_march_54 : decode cL_march 54 = .ok (.aload_n 0, 1) := by decide +kernel
theorem dL_march_55 : decode cL_march 55 = .ok (.iconst 0, 1) := by decide +kernel
theorem dL_march_56 : decode cL_march 56 = .ok (.iaload, 1) := by decide +kernel
theorem dL_march_57 : decode cL_march 57 = .ok (.iconst 1, 1) := by decide +kernel
theorem dL_march_58 : decode cL_march 58 = .ok (.isub, 1) := by decide +kernel
theorem dL_march_59 : decode cL_march 59 = .ok (.istore 8, 2) := by decide +kernel
theorem dL_march_61 : decode cL_march 61 = .ok (.iload 8, 2) := by decide +kernel
theorem dL_march_63 : decode cL_march 63 = .ok (.ifCond .lt 147, 3) := by decide +kernel
theorem dL_march_66 : decode cL_march 66 = .ok (.iload 7, 2) := by decide +kernel
theorem dL_march_68 : decode cL_march 68 = .ok (.ifCond .ne 34, 3) := by decide +kernel
theorem dL_march_71 : decode cL_march 71 = .ok (.iload 6, 2) := by decide +kernel
theorem dL_march_73 : decode cL_march 73 = .ok (.iconst 3, 1) := by decide +kernel
theorem dL_march_74 : decode cL_march 74 = .ok (.if_icmp .le 24, 3) := by decide +kernel
theorem dL_march_77 : decode cL_march 77 = .ok (.iload 6, 2) := by decide +kernel
theorem dL_march_79 : decode cL_march 79 = .ok (.iload 4, 2) := by decide +kernel
theorem dL_march_81 : decode cL_march 81 = .ok (.if_icmp .gt 17, 3) := by decide +kernel
theorem dL_march_84 : decode cL_march 84 = .ok (.aload_n 0, 1) := by decide +kernel
theorem dL_march_85 : decode cL_march 85 = .ok (.iconst 1, 1) := by decide +kernel
theorem dL_march_86 : decode cL_march 86 = .ok (.iload 8, 2) := by decide +kernel
theorem dL_march_88 : decode cL_march 88 = .ok (.iadd, 1) := by decide +kernel
theorem dL_march_89 : decode cL_march 89 = .ok (.iaload, 1) := by decide +kernel
theorem dL_march_90 : decode cL_march 90 = .ok (.iconst 1, 1) := by decide +kernel
theorem dL_march_91 : decode cL_march 91 = .ok (.if_icmp .ne 7, 3) := by decide +kernel
theorem dL_march_94 : decode cL_march 94 = .ok (.iconst 1, 1) := by decide +kernel
theorem dL_march_95 : decode cL_march 95 = .ok (.goto 38, 3) := by decide +kernel
theorem dL_march_98 : decode cL_march 98 = .ok (.iconst 0, 1) := by decide +kernel
theorem dL_march_99 : decode cL_march 99 = .ok (.goto 34, 3) := by decide +kernel
theorem dL_march_102 : decode cL_march 102 = .ok (.aload_n 0, 1) := by decide +kernel
theorem dL_march_103 : decode cL_march 103 = .ok (.iconst 1, 1) := by decide +kernel
theorem dL_march_104 : decode cL_march 104 = .ok (.iload 8, 2) := by decide +kernel
theorem dL_march_106 : decode cL_march 106 = .ok (.iadd, 1) := by decide +kernel
theorem dL_march_107 : decode cL_march 107 = .ok (.iaload, 1) := by decide +kernel
theorem dL_march_108 : decode cL_march 108 = .ok (.invokestatic 31, 3) := by decide +kernel
theorem dL_march_111 : decode cL_march 111 = .ok (.ifCond .le 21, 3) := by decide +kernel
theorem dL_march_114 : decode cL_march 114 = .ok (.aload_n 2, 1) := by decide +kernel
theorem dL_march_115 : decode cL_march 115 = .ok (.iconst 1, 1) := by decide +kernel
theorem dL_march_116 : decode cL_march 116 = .ok (.iaload, 1) := by decide +kernel
theorem dL_march_117 : decode cL_march 117 = .ok (.aload_n 0, 1) := by decide +kernel
theorem dL_march_118 : decode cL_march 118 = .ok (.aload_n 2, 1) := by decide +kernel
theorem dL_march_119 : decode cL_march 119 = .ok (.iconst 0, 1) := by decide +kernel
theorem dL_march_120 : decode cL_march 120 = .ok (.iaload, 1) := by decide +kernel
theorem dL_march_121 : decode cL_march 121 = .ok (.iconst 1, 1) := by decide +kernel
theorem dL_march_122 : decode cL_march 122 = .ok (.invokestatic 27, 3) := by decide +kernel
theorem dL_march_125 : decode cL_march 125 = .ok (.if_icmp .ge 7, 3) := by decide +kernel
theorem dL_march_128 : decode cL_march 128 = .ok (.iconst 1, 1) := by decide +kernel
theorem dL_march_129 : decode cL_march 129 = .ok (.goto 4, 3) := by decide +kernel
theorem dL_march_132 : decode cL_march 132 = .ok (.iconst 0, 1) := by decide +kernel
theorem dL_march_133 : decode cL_march 133 = .ok (.istore 9, 2) := by decide +kernel
theorem dL_march_135 : decode cL_march 135 = .ok (.aload_n 2, 1) := by decide +kernel
theorem dL_march_136 : decode cL_march 136 = .ok (.iconst 0, 1) := by decide +kernel
theorem dL_march_137 : decode cL_march 137 = .ok (.iaload, 1) := by decide +kernel
theorem dL_march_138 : decode cL_march 138 = .ok (.iload 8, 2) := by decide +kernel
theorem dL_march_140 : decode cL_march 140 = .ok (.invokestatic 20, 3) := by decide +kernel
theorem dL_march_143 : decode cL_march 143 = .ok (.ifCond .eq 61, 3) := by decide +kernel
theorem dL_march_146 : decode cL_march 146 = .ok (.iload 9, 2) := by decide +kernel
theorem dL_march_148 : decode cL_march 148 = .ok (.ifCond .ne 6, 3) := by decide +kernel
theorem dL_march_151 : decode cL_march 151 = .ok (.goto 53, 3) := by decide +kernel
theorem dL_march_154 : decode cL_march 154 = .ok (.aload_n 2, 1) := by decide +kernel
theorem dL_march_155 : decode cL_march 155 = .ok (.iconst 0, 1) := by decide +kernel
theorem dL_march_156 : decode cL_march 156 = .ok (.dup2, 1) := by decide +kernel
theorem dL_march_157 : decode cL_march 157 = .ok (.iaload, 1) := by decide +kernel
theorem dL_march_158 : decode cL_march 158 = .ok (.iconst 1, 1) := by decide +kernel
theorem dL_march_159 : decode cL_march 159 = .ok (.iload 8, 2) := by decide +kernel
theorem dL_march_161 : decode cL_march 161 = .ok (.ishl, 1) := by decide +kernel
theorem dL_march_162 : decode cL_march 162 = .ok (.isub, 1) := by decide +kernel
theorem dL_march_163 : decode cL_march 163 = .ok (.iastore, 1) := by decide +kernel
theorem dL_march_164 : decode cL_march 164 = .ok (.aload_n 2, 1) := by decide +kernel
theorem dL_march_165 : decode cL_march 165 = .ok (.iconst 1, 1) := by decide +kernel
theorem dL_march_166 : decode cL_march 166 = .ok (.dup2, 1) := by decide +kernel
theorem dL_march_167 : decode cL_march 167 = .ok (.iaload, 1) := by decide +kernel
theorem dL_march_168 : decode cL_march 168 = .ok (.aload_n 0, 1) := by decide +kernel
theorem dL_march_169 : decode cL_march 169 = .ok (.iconst 1, 1) := by decide +kernel
theorem dL_march_170 : decode cL_march 170 = .ok (.iload 8, 2) := by decide +kernel
theorem dL_march_172 : decode cL_march 172 = .ok (.iadd, 1) := by decide +kernel
theorem dL_march_173 : decode cL_march 173 = .ok (.iaload, 1) := by decide +kernel
theorem dL_march_174 : decode cL_march 174 = .ok (.invokestatic 31, 3) := by decide +kernel
theorem dL_march_177 : decode cL_march 177 = .ok (.iadd, 1) := by decide +kernel
theorem dL_march_178 : decode cL_march 178 = .ok (.iastore, 1) := by decide +kernel
theorem dL_march_179 : decode cL_march 179 = .ok (.aload_n 2, 1) := by decide +kernel
theorem dL_march_180 : decode cL_march 180 = .ok (.iconst 1, 1) := by decide +kernel
theorem dL_march_181 : decode cL_march 181 = .ok (.iaload, 1) := by decide +kernel
theorem dL_march_182 : decode cL_march 182 = .ok (.aload_n 0, 1) := by decide +kernel
theorem dL_march_183 : decode cL_march 183 = .ok (.aload_n 2, 1) := by decide +kernel
theorem dL_march_184 : decode cL_march 184 = .ok (.iconst 0, 1) := by decide +kernel
theorem dL_march_185 : decode cL_march 185 = .ok (.iaload, 1) := by decide +kernel
theorem dL_march_186 : decode cL_march 186 = .ok (.iconst 0, 1) := by decide +kernel
theorem dL_march_187 : decode cL_march 187 = .ok (.invokestatic 27, 3) := by decide +kernel
theorem dL_march_190 : decode cL_march 190 = .ok (.if_icmp .le 14, 3) := by decide +kernel
theorem dL_march_193 : decode cL_march 193 = .ok (.aload_n 2, 1) := by decide +kernel
theorem dL_march_194 : decode cL_march 194 = .ok (.iconst 1, 1) := by decide +kernel
theorem dL_march_195 : decode cL_march 195 = .ok (.aload_n 0, 1) := by decide +kernel
theorem dL_march_196 : decode cL_march 196 = .ok (.aload_n 2, 1) := by decide +kernel
theorem dL_march_197 : decode cL_march 197 = .ok (.iconst 0, 1) := by decide +kernel
theorem dL_march_198 : decode cL_march 198 = .ok (.iaload, 1) := by decide +kernel
theorem dL_march_199 : decode cL_march 199 = .ok (.iconst 0, 1) := by decide +kernel
theorem dL_march_200 : decode cL_march 200 = .ok (.invokestatic 27, 3) := by decide +kernel
theorem dL_march_203 : decode cL_march 203 = .ok (.iastore, 1) := by decide +kernel
theorem dL_march_204 : decode cL_march 204 = .ok (.iinc 8 (-1), 3) := by decide +kernel
theorem dL_march_207 : decode cL_march 207 = .ok (.goto (-146), 3) := by decide +kernel
theorem dL_march_210 : decode cL_march 210 = .ok (.iinc 7 1, 3) := by decide +kernel
theorem dL_march_213 : decode cL_march 213 = .ok (.goto (-165), 3) := by decide +kernel
theorem dL_march_216 : decode cL_march 216 = .ok (.aload_n 2, 1) := by decide +kernel
theorem dL_march_217 : decode cL_march 217 = .ok (.iconst 0, 1) := by decide +kernel
theorem dL_march_218 : decode cL_march 218 = .ok (.iaload, 1) := by decide +kernel
theorem dL_march_219 : decode cL_march 219 = .ok (.ifCond .eq 17, 3) := by decide +kernel
theorem dL_march_222 : decode cL_march 222 = .ok (.aload_n 2, 1) := by decide +kernel
theorem dL_march_223 : decode cL_march 223 = .ok (.iconst 1, 1) := by decide +kernel
theorem dL_march_224 : decode cL_march 224 = .ok (.iaload, 1) := by decide +kernel
theorem dL_march_225 : decode cL_march 225 = .ok (.aload_n 0, 1) := by decide +kernel
theorem dL_march_226 : decode cL_march 226 = .ok (.aload_n 2, 1) := by decide +kernel
theorem dL_march_227 : decode cL_march 227 = .ok (.iconst 0, 1) := by decide +kernel
theorem dL_march_228 : decode cL_march 228 = .ok (.iaload, 1) := by decide +kernel
theorem dL_march_229 : decode cL_march 229 = .ok (.iconst 1, 1) := by decide +kernel
theorem dL_march_230 : decode cL_march 230 = .ok (.invokestatic 27, 3) := by decide +kernel
theorem dL_march_233 : decode cL_march 233 = .ok (.if_icmp .ge 17, 3) := by decide +kernel
theorem dL_march_236 : decode cL_march 236 = .ok (.aload_n 2, 1) := by decide +kernel
theorem dL_march_237 : decode cL_march 237 = .ok (.iconst 0, 1) := by decide +kernel
theorem dL_march_238 : decode cL_march 238 = .ok (.iconst 0, 1) := by decide +kernel
theorem dL_march_239 : decode cL_march 239 = .ok (.iastore, 1) := by decide +kernel
theorem dL_march_240 : decode cL_march 240 = .ok (.aload_n 2, 1) := by decide +kernel
theorem dL_march_241 : decode cL_march 241 = .ok (.iconst 1, 1) := by decide +kernel
theorem dL_march_242 : decode cL_march 242 = .ok (.iconst 0, 1) := by decide +kernel
theorem dL_march_243 : decode cL_march 243 = .ok (.iastore, 1) := by decide +kernel
theorem dL_march_244 : decode cL_march 244 = .ok (.aload_n 2, 1) := by decide +kernel
theorem dL_march_245 : decode cL_march 245 = .ok (.iconst 2, 1) := by decide +kernel
theorem dL_march_246 : decode cL_march 246 = .ok (.iload 6, 2) := by decide +kernel
theorem dL_march_248 : decode cL_march 248 = .ok (.iastore, 1) := by decide +kernel
theorem dL_march_249 : decode cL_march 249 = .ok (.return_, 1) := by decide +kernel
theorem dL_march_250 : decode cL_march 250 = .ok (.aload_n 2, 1) := by decide +kernel
theorem dL_march_251 : decode cL_march 251 = .ok (.iconst 1, 1) := by decide +kernel
theorem dL_march_252 : decode cL_march 252 = .ok (.dup2, 1) := by decide +kernel
theorem dL_march_253 : decode cL_march 253 = .ok (.iaload, 1) := by decide +kernel
theorem dL_march_254 : decode cL_march 254 = .ok (.aload_n 0, 1) := by decide +kernel
theorem dL_march_255 : decode cL_march 255 = .ok (.aload_n 2, 1) := by decide +kernel
theorem dL_march_256 : decode cL_march 256 = .ok (.iconst 0, 1) := by decide +kernel
theorem dL_march_257 : decode cL_march 257 = .ok (.iaload, 1) := by decide +kernel
theorem dL_march_258 : decode cL_march 258 = .ok (.iconst 1, 1) := by decide +kernel
theorem dL_march_259 : decode cL_march 259 = .ok (.invokestatic 27, 3) := by decide +kernel
theorem dL_march_262 : decode cL_march 262 = .ok (.isub, 1) := by decide +kernel
theorem dL_march_263 : decode cL_march 263 = .ok (.iastore, 1) := by decide +kernel
theorem dL_march_264 : decode cL_march 264 = .ok (.iconst 2, 1) := by decide +kernel
theorem dL_march_265 : decode cL_march 265 = .ok (.iload 4, 2) := by decide +kernel
theorem dL_march_267 : decode cL_march 267 = .ok (.imul, 1) := by decide +kernel
theorem dL_march_268 : decode cL_march 268 = .ok (.iload 6, 2) := by decide +kernel
theorem dL_march_270 : decode cL_march 270 = .ok (.isub, 1) := by decide +kernel
theorem dL_march_271 : decode cL_march 271 = .ok (.istore 7, 2) := by decide +kernel
theorem dL_march_273 : decode cL_march 273 = .ok (.iload 6, 2) := by decide +kernel
theorem dL_march_275 : decode cL_march 275 = .ok (.iload 4, 2) := by decide +kernel
theorem dL_march_277 : decode cL_march 277 = .ok (.if_icmp .le 57, 3) := by decide +kernel
theorem dL_march_280 : decode cL_march 280 = .ok (.iload 7, 2) := by decide +kernel
theorem dL_march_282 : decode cL_march 282 = .ok (.ifCond .ne 6, 3) := by decide +kernel
theorem dL_march_285 : decode cL_march 285 = .ok (.goto 49, 3) := by decide +kernel
theorem dL_march_288 : decode cL_march 288 = .ok (.aload_n 0, 1) := by decide +kernel
theorem dL_march_289 : decode cL_march 289 = .ok (.aload_n 2, 1) := by decide +kernel
theorem dL_march_290 : decode cL_march 290 = .ok (.iconst 0, 1) := by decide +kernel
theorem dL_march_291 : decode cL_march 291 = .ok (.iaload, 1) := by decide +kernel
theorem dL_march_292 : decode cL_march 292 = .ok (.iconst 0, 1) := by decide +kernel
theorem dL_march_293 : decode cL_march 293 = .ok (.invokestatic 27, 3) := by decide +kernel
theorem dL_march_296 : decode cL_march 296 = .ok (.aload_n 2, 1) := by decide +kernel
theorem dL_march_297 : decode cL_march 297 = .ok (.iconst 1, 1) := by decide +kernel
theorem dL_march_298 : decode cL_march 298 = .ok (.iaload, 1) := by decide +kernel
theorem dL_march_299 : decode cL_march 299 = .ok (.isub, 1) := by decide +kernel
theorem dL_march_300 : decode cL_march 300 = .ok (.istore 8, 2) := by decide +kernel
theorem dL_march_302 : decode cL_march 302 = .ok (.iload 8, 2) := by decide +kernel
theorem dL_march_304 : decode cL_march 304 = .ok (.aload_n 1, 1) := by decide +kernel
theorem dL_march_305 : decode cL_march 305 = .ok (.iload 7, 2) := by decide +kernel
theorem dL_march_307 : decode cL_march 307 = .ok (.iaload, 1) := by decide +kernel
theorem dL_march_308 : decode cL_march 308 = .ok (.if_icmp .le 9, 3) := by decide +kernel
theorem dL_march_311 : decode cL_march 311 = .ok (.aload_n 1, 1) := by decide +kernel
theorem dL_march_312 : decode cL_march 312 = .ok (.iload 7, 2) := by decide +kernel
theorem dL_march_314 : decode cL_march 314 = .ok (.iaload, 1) := by decide +kernel
theorem dL_march_315 : decode cL_march 315 = .ok (.istore 8, 2) := by decide +kernel
theorem dL_march_317 : decode cL_march 317 = .ok (.aload_n 1, 1) := by decide +kernel
theorem dL_march_318 : decode cL_march 318 = .ok (.iload 7, 2) := by decide +kernel
theorem dL_march_320 : decode cL_march 320 = .ok (.dup2, 1) := by decide +kernel
theorem dL_march_321 : decode cL_march 321 = .ok (.iaload, 1) := by decide +kernel
theorem dL_march_322 : decode cL_march 322 = .ok (.iload 8, 2) := by decide +kernel
theorem dL_march_324 : decode cL_march 324 = .ok (.isub, 1) := by decide +kernel
theorem dL_march_325 : decode cL_march 325 = .ok (.iastore, 1) := by decide +kernel
theorem dL_march_326 : decode cL_march 326 = .ok (.aload_n 2, 1) := by decide +kernel
theorem dL_march_327 : decode cL_march 327 = .ok (.iconst 1, 1) := by decide +kernel
theorem dL_march_328 : decode cL_march 328 = .ok (.dup2, 1) := by decide +kernel
theorem dL_march_329 : decode cL_march 329 = .ok (.iaload, 1) := by decide +kernel
theorem dL_march_330 : decode cL_march 330 = .ok (.iload 8, 2) := by decide +kernel
theorem dL_march_332 : decode cL_march 332 = .ok (.iadd, 1) := by decide +kernel
theorem dL_march_333 : decode cL_march 333 = .ok (.iastore, 1) := by decide +kernel
theorem dL_march_334 : decode cL_march 334 = .ok (.iinc 6 1, 3) := by decide +kernel
theorem dL_march_337 : decode cL_march 337 = .ok (.goto (-301), 3) := by decide +kernel
theorem dL_march_340 : decode cL_march 340 = .ok (.return_, 1) := by decide +kernel
theorem dL_lying_0 : decode cL_lying 0 = .ok (.aload_n 0, 1) := by decide +kernel
theorem dL_lying_1 : decode cL_lying 1 = .ok (.iconst 1, 1) := by decide +kernel
theorem dL_lying_2 : decode cL_lying 2 = .ok (.iaload, 1) := by decide +kernel
theorem dL_lying_3 : decode cL_lying 3 = .ok (.aload_n 0, 1) := by decide +kernel
theorem dL_lying_4 : decode cL_lying 4 = .ok (.iconst 2, 1) := by decide +kernel
theorem dL_lying_5 : decode cL_lying 5 = .ok (.iaload, 1) := by decide +kernel
theorem dL_lying_6 : decode cL_lying 6 = .ok (.iadd, 1) := by decide +kernel
theorem dL_lying_7 : decode cL_lying 7 = .ok (.aload_n 0, 1) := by decide +kernel
theorem dL_lying_8 : decode cL_lying 8 = .ok (.iconst 3, 1) := by decide +kernel
theorem dL_lying_9 : decode cL_lying 9 = .ok (.iaload, 1) := by decide +kernel
theorem dL_lying_10 : decode cL_lying 10 = .ok (.iadd, 1) := by decide +kernel
theorem dL_lying_11 : decode cL_lying 11 = .ok (.aload_n 0, 1) := by decide +kernel
theorem dL_lying_12 : decode cL_lying 12 = .ok (.iconst 4, 1) := by decide +kernel
theorem dL_lying_13 : decode cL_lying 13 = .ok (.iaload, 1) := by decide +kernel
theorem dL_lying_14 : decode cL_lying 14 = .ok (.iadd, 1) := by decide +kernel
theorem dL_lying_15 : decode cL_lying 15 = .ok (.aload_n 0, 1) := by decide +kernel
theorem dL_lying_16 : decode cL_lying 16 = .ok (.iconst 5, 1) := by decide +kernel
theorem dL_lying_17 : decode cL_lying 17 = .ok (.iaload, 1) := by decide +kernel
theorem dL_lying_18 : decode cL_lying 18 = .ok (.iadd, 1) := by decide +kernel
theorem dL_lying_19 : decode cL_lying 19 = .ok (.ireturn, 1) := by decide +kernel
theorem dL_over_0 : decode cL_over 0 = .ok (.iconst 0, 1) := by decide +kernel
theorem dL_over_1 : decode cL_over 1 = .ok (.istore_n 2, 1) := by decide +kernel
theorem dL_over_2 : decode cL_over 2 = .ok (.iload_n 2, 1) := by decide +kernel
theorem dL_over_3 : decode cL_over 3 = .ok (.bipush 9, 2) := by decide +kernel
theorem dL_over_5 : decode cL_over 5 = .ok (.if_icmp .ge 15, 3) := by decide +kernel
theorem dL_over_8 : decode cL_over 8 = .ok (.aload_n 0, 1) := by decide +kernel
theorem dL_over_9 : decode cL_over 9 = .ok (.iload_n 2, 1) := by decide +kernel
theorem dL_over_10 : decode cL_over 10 = .ok (.aload_n 1, 1) := by decide +kernel
theorem dL_over_11 : decode cL_over 11 = .ok (.iload_n 2, 1) := by decide +kernel
theorem dL_over_12 : decode cL_over 12 = .ok (.iaload, 1) := by decide +kernel
theorem dL_over_13 : decode cL_over 13 = .ok (.iastore, 1) := by decide +kernel
theorem dL_over_14 : decode cL_over 14 = .ok (.iinc 2 1, 3) := by decide +kernel
theorem dL_over_17 : decode cL_over 17 = .ok (.goto (-15), 3) := by decide +kernel
theorem dL_over_20 : decode cL_over 20 = .ok (.return_, 1) := by decide +kernel
theorem dL_home_0 : decode cL_home 0 = .ok (.aload_n 2, 1) := by decide +kernel
theorem dL_home_1 : decode cL_home 1 = .ok (.aload_n 1, 1) := by decide +kernel
theorem dL_home_2 : decode cL_home 2 = .ok (.invokestatic 34, 3) := by decide +kernel
theorem dL_home_5 : decode cL_home 5 = .ok (.aload_n 0, 1) := by decide +kernel
theorem dL_home_6 : decode cL_home 6 = .ok (.aload_n 2, 1) := by decide +kernel
theorem dL_home_7 : decode cL_home 7 = .ok (.aload_n 3, 1) := by decide +kernel
theorem dL_home_8 : decode cL_home 8 = .ok (.iload 4, 2) := by decide +kernel
theorem dL_home_10 : decode cL_home 10 = .ok (.iload 5, 2) := by decide +kernel
theorem dL_home_12 : decode cL_home 12 = .ok (.iload 6, 2) := by decide +kernel
theorem dL_home_14 : decode cL_home 14 = .ok (.invokestatic 38, 3) := by decide +kernel
theorem dL_home_17 : decode cL_home 17 = .ok (.aload_n 3, 1) := by decide +kernel
theorem dL_home_18 : decode cL_home 18 = .ok (.iconst 0, 1) := by decide +kernel
theorem dL_home_19 : decode cL_home 19 = .ok (.iaload, 1) := by decide +kernel
theorem dL_home_20 : decode cL_home 20 = .ok (.ifCond .le 7, 3) := by decide +kernel
theorem dL_home_23 : decode cL_home 23 = .ok (.iconst 1, 1) := by decide +kernel
theorem dL_home_24 : decode cL_home 24 = .ok (.goto 4, 3) := by decide +kernel
theorem dL_home_27 : decode cL_home 27 = .ok (.iconst 0, 1) := by decide +kernel
theorem dL_home_28 : decode cL_home 28 = .ok (.ireturn, 1) := by decide +kernel
theorem dL_need_0 : decode cL_need 0 = .ok (.iconst 0, 1) := by decide +kernel
theorem dL_need_1 : decode cL_need 1 = .ok (.istore 6, 2) := by decide +kernel
theorem dL_need_3 : decode cL_need 3 = .ok (.iload 6, 2) := by decide +kernel
theorem dL_need_5 : decode cL_need 5 = .ok (.bipush 41, 2) := by decide +kernel
theorem dL_need_7 : decode cL_need 7 = .ok (.if_icmp .ge 28, 3) := by decide +kernel
theorem dL_need_10 : decode cL_need 10 = .ok (.aload_n 0, 1) := by decide +kernel
theorem dL_need_11 : decode cL_need 11 = .ok (.aload_n 1, 1) := by decide +kernel
theorem dL_need_12 : decode cL_need 12 = .ok (.aload_n 2, 1) := by decide +kernel
theorem dL_need_13 : decode cL_need 13 = .ok (.aload_n 3, 1) := by decide +kernel
theorem dL_need_14 : decode cL_need 14 = .ok (.iload 4, 2) := by decide +kernel
theorem dL_need_16 : decode cL_need 16 = .ok (.iload 5, 2) := by decide +kernel
theorem dL_need_18 : decode cL_need 18 = .ok (.iload 6, 2) := by decide +kernel
theorem dL_need_20 : decode cL_need 20 = .ok (.invokestatic 42, 3) := by decide +kernel
theorem dL_need_23 : decode cL_need 23 = .ok (.ifCond .eq 6, 3) := by decide +kernel
theorem dL_need_26 : decode cL_need 26 = .ok (.iload 6, 2) := by decide +kernel
theorem dL_need_28 : decode cL_need 28 = .ok (.ireturn, 1) := by decide +kernel
theorem dL_need_29 : decode cL_need 29 = .ok (.iinc 6 1, 3) := by decide +kernel
theorem dL_need_32 : decode cL_need 32 = .ok (.goto (-29), 3) := by decide +kernel
theorem dL_need_35 : decode cL_need 35 = .ok (.iconst (-1), 1) := by decide +kernel
theorem dL_need_36 : decode cL_need 36 = .ok (.ireturn, 1) := by decide +kernel
theorem dL_far_0 : decode cL_far 0 = .ok (.bipush 6, 2) := by decide +kernel
theorem dL_far_2 : decode cL_far 2 = .ok (.istore 5, 2) := by decide +kernel
theorem dL_far_4 : decode cL_far 4 = .ok (.iload 5, 2) := by decide +kernel
theorem dL_far_6 : decode cL_far 6 = .ok (.ifCond .le 26, 3) := by decide +kernel
theorem dL_far_9 : decode cL_far 9 = .ok (.aload_n 0, 1) := by decide +kernel
theorem dL_far_10 : decode cL_far 10 = .ok (.aload_n 1, 1) := by decide +kernel
theorem dL_far_11 : decode cL_far 11 = .ok (.aload_n 2, 1) := by decide +kernel
theorem dL_far_12 : decode cL_far 12 = .ok (.aload_n 3, 1) := by decide +kernel
theorem dL_far_13 : decode cL_far 13 = .ok (.iload 4, 2) := by decide +kernel
theorem dL_far_15 : decode cL_far 15 = .ok (.iload 5, 2) := by decide +kernel
theorem dL_far_17 : decode cL_far 17 = .ok (.invokestatic 46, 3) := by decide +kernel
theorem dL_far_20 : decode cL_far 20 = .ok (.ifCond .lt 6, 3) := by decide +kernel
theorem dL_far_23 : decode cL_far 23 = .ok (.iload 5, 2) := by decide +kernel
theorem dL_far_25 : decode cL_far 25 = .ok (.ireturn, 1) := by decide +kernel
theorem dL_far_26 : decode cL_far 26 = .ok (.iinc 5 (-1), 3) := by decide +kernel
theorem dL_far_29 : decode cL_far 29 = .ok (.goto (-25), 3) := by decide +kernel
theorem dL_far_32 : decode cL_far 32 = .ok (.iconst 0, 1) := by decide +kernel
theorem dL_far_33 : decode cL_far 33 = .ok (.ireturn, 1) := by decide +kernel
theorem dL_stands_0 : decode cL_stands 0 = .ok (.iconst 0, 1) := by decide +kernel
theorem dL_stands_1 : decode cL_stands 1 = .ok (.istore_n 3, 1) := by decide +kernel
theorem dL_stands_2 : decode cL_stands 2 = .ok (.iload_n 3, 1) := by decide +kernel
theorem dL_stands_3 : decode cL_stands 3 = .ok (.aload_n 1, 1) := by decide +kernel
theorem dL_stands_4 : decode cL_stands 4 = .ok (.iconst 0, 1) := by decide +kernel
theorem dL_stands_5 : decode cL_stands 5 = .ok (.iaload, 1) := by decide +kernel
theorem dL_stands_6 : decode cL_stands 6 = .ok (.if_icmp .ge 99, 3) := by decide +kernel
theorem dL_stands_9 : decode cL_stands 9 = .ok (.aload_n 0, 1) := by decide +kernel
theorem dL_stands_10 : decode cL_stands 10 = .ok (.iload_n 3, 1) := by decide +kernel
theorem dL_stands_11 : decode cL_stands 11 = .ok (.iconst 0, 1) := by decide +kernel
theorem dL_stands_12 : decode cL_stands 12 = .ok (.invokevirtual 50, 3) := by decide +kernel
theorem dL_stands_15 : decode cL_stands 15 = .ok (.aload_n 1, 1) := by decide +kernel
theorem dL_stands_16 : decode cL_stands 16 = .ok (.iconst 1, 1) := by decide +kernel
theorem dL_stands_17 : decode cL_stands 17 = .ok (.iload_n 3, 1) := by decide +kernel
theorem dL_stands_18 : decode cL_stands 18 = .ok (.iadd, 1) := by decide +kernel
theorem dL_stands_19 : decode cL_stands 19 = .ok (.iaload, 1) := by decide +kernel
theorem dL_stands_20 : decode cL_stands 20 = .ok (.if_icmp .ne 77, 3) := by decide +kernel
theorem dL_stands_23 : decode cL_stands 23 = .ok (.aload_n 0, 1) := by decide +kernel
theorem dL_stands_24 : decode cL_stands 24 = .ok (.iload_n 3, 1) := by decide +kernel
theorem dL_stands_25 : decode cL_stands 25 = .ok (.iconst 1, 1) := by decide +kernel
theorem dL_stands_26 : decode cL_stands 26 = .ok (.invokevirtual 50, 3) := by decide +kernel
theorem dL_stands_29 : decode cL_stands 29 = .ok (.aload_n 1, 1) := by decide +kernel
theorem dL_stands_30 : decode cL_stands 30 = .ok (.iconst 1, 1) := by decide +kernel
theorem dL_stands_31 : decode cL_stands 31 = .ok (.iload_n 3, 1) := by decide +kernel
theorem dL_stands_32 : decode cL_stands 32 = .ok (.iadd, 1) := by decide +kernel
theorem dL_stands_33 : decode cL_stands 33 = .ok (.iaload, 1) := by decide +kernel
theorem dL_stands_34 : decode cL_stands 34 = .ok (.invokestatic 24, 3) := by decide +kernel
theorem dL_stands_37 : decode cL_stands 37 = .ok (.if_icmp .ne 60, 3) := by decide +kernel
theorem dL_stands_40 : decode cL_stands 40 = .ok (.aload_n 0, 1) := by decide +kernel
theorem dL_stands_41 : decode cL_stands 41 = .ok (.iload_n 3, 1) := by decide +kernel
theorem dL_stands_42 : decode cL_stands 42 = .ok (.iconst 2, 1) := by decide +kernel
theorem dL_stands_43 : decode cL_stands 43 = .ok (.invokevirtual 50, 3) := by decide +kernel
theorem dL_stands_46 : decode cL_stands 46 = .ok (.aload_n 1, 1) := by decide +kernel
theorem dL_stands_47 : decode cL_stands 47 = .ok (.iconst 1, 1) := by decide +kernel
theorem dL_stands_48 : decode cL_stands 48 = .ok (.iload_n 3, 1) := by decide +kernel
theorem dL_stands_49 : decode cL_stands 49 = .ok (.iadd, 1) := by decide +kernel
theorem dL_stands_50 : decode cL_stands 50 = .ok (.iaload, 1) := by decide +kernel
theorem dL_stands_51 : decode cL_stands 51 = .ok (.iconst 1, 1) := by decide +kernel
theorem dL_stands_52 : decode cL_stands 52 = .ok (.if_icmp .ne 7, 3) := by decide +kernel
theorem dL_stands_55 : decode cL_stands 55 = .ok (.iconst 2, 1) := by decide +kernel
theorem dL_stands_56 : decode cL_stands 56 = .ok (.goto 4, 3) := by decide +kernel
theorem dL_stands_59 : decode cL_stands 59 = .ok (.iconst 1, 1) := by decide +kernel
theorem dL_stands_60 : decode cL_stands 60 = .ok (.if_icmp .ne 37, 3) := by decide +kernel
theorem dL_stands_63 : decode cL_stands 63 = .ok (.aload_n 0, 1) := by decide +kernel
theorem dL_stands_64 : decode cL_stands 64 = .ok (.iload_n 3, 1) := by decide +kernel
theorem dL_stands_65 : decode cL_stands 65 = .ok (.iconst 3, 1) := by decide +kernel
theorem dL_stands_66 : decode cL_stands 66 = .ok (.invokevirtual 50, 3) := by decide +kernel
theorem dL_stands_69 : decode cL_stands 69 = .ok (.aload_n 1, 1) := by decide +kernel
theorem dL_stands_70 : decode cL_stands 70 = .ok (.iconst 1, 1) := by decide +kernel
theorem dL_stands_71 : decode cL_stands 71 = .ok (.iload_n 3, 1) := by decide +kernel
theorem dL_stands_72 : decode cL_stands 72 = .ok (.iadd, 1) := by decide +kernel
theorem dL_stands_73 : decode cL_stands 73 = .ok (.iaload, 1) := by decide +kernel
theorem dL_stands_74 : decode cL_stands 74 = .ok (.invokestatic 31, 3) := by decide +kernel
theorem dL_stands_77 : decode cL_stands 77 = .ok (.if_icmp .ne 20, 3) := by decide +kernel
theorem dL_stands_80 : decode cL_stands 80 = .ok (.aload_n 0, 1) := by decide +kernel
theorem dL_stands_81 : decode cL_stands 81 = .ok (.iload_n 3, 1) := by decide +kernel
theorem dL_stands_82 : decode cL_stands 82 = .ok (.iconst 4, 1) := by decide +kernel
theorem dL_stands_83 : decode cL_stands 83 = .ok (.invokevirtual 50, 3) := by decide +kernel
theorem dL_stands_86 : decode cL_stands 86 = .ok (.aload_n 2, 1) := by decide +kernel
theorem dL_stands_87 : decode cL_stands 87 = .ok (.bipush 6, 2) := by decide +kernel
theorem dL_stands_89 : decode cL_stands 89 = .ok (.iaload, 1) := by decide +kernel
theorem dL_stands_90 : decode cL_stands 90 = .ok (.iload_n 3, 1) := by decide +kernel
theorem dL_stands_91 : decode cL_stands 91 = .ok (.ishr, 1) := by decide +kernel
theorem dL_stands_92 : decode cL_stands 92 = .ok (.iconst 1, 1) := by decide +kernel
theorem dL_stands_93 : decode cL_stands 93 = .ok (.iand, 1) := by decide +kernel
theorem dL_stands_94 : decode cL_stands 94 = .ok (.if_icmp .eq 5, 3) := by decide +kernel
theorem dL_stands_97 : decode cL_stands 97 = .ok (.iconst 0, 1) := by decide +kernel
theorem dL_stands_98 : decode cL_stands 98 = .ok (.ireturn, 1) := by decide +kernel
theorem dL_stands_99 : decode cL_stands 99 = .ok (.iinc 3 1, 3) := by decide +kernel
theorem dL_stands_102 : decode cL_stands 102 = .ok (.goto (-100), 3) := by decide +kernel
theorem dL_stands_105 : decode cL_stands 105 = .ok (.iconst 1, 1) := by decide +kernel
theorem dL_stands_106 : decode cL_stands 106 = .ok (.istore_n 3, 1) := by decide +kernel
theorem dL_stands_107 : decode cL_stands 107 = .ok (.iload_n 3, 1) := by decide +kernel
theorem dL_stands_108 : decode cL_stands 108 = .ok (.bipush 6, 2) := by decide +kernel
theorem dL_stands_110 : decode cL_stands 110 = .ok (.if_icmp .ge 23, 3) := by decide +kernel
theorem dL_stands_113 : decode cL_stands 113 = .ok (.aload_n 0, 1) := by decide +kernel
theorem dL_stands_114 : decode cL_stands 114 = .ok (.iload_n 3, 1) := by decide +kernel
theorem dL_stands_115 : decode cL_stands 115 = .ok (.iconst 0, 1) := by decide +kernel
theorem dL_stands_116 : decode cL_stands 116 = .ok (.invokevirtual 53, 3) := by decide +kernel
theorem dL_stands_119 : decode cL_stands 119 = .ok (.aload_n 2, 1) := by decide +kernel
theorem dL_stands_120 : decode cL_stands 120 = .ok (.iload_n 3, 1) := by decide +kernel
theorem dL_stands_121 : decode cL_stands 121 = .ok (.iaload, 1) := by decide +kernel
theorem dL_stands_122 : decode cL_stands 122 = .ok (.if_icmp .eq 5, 3) := by decide +kernel
theorem dL_stands_125 : decode cL_stands 125 = .ok (.iconst 0, 1) := by decide +kernel
theorem dL_stands_126 : decode cL_stands 126 = .ok (.ireturn, 1) := by decide +kernel
theorem dL_stands_127 : decode cL_stands 127 = .ok (.iinc 3 1, 3) := by decide +kernel
theorem dL_stands_130 : decode cL_stands 130 = .ok (.goto (-23), 3) := by decide +kernel
theorem dL_stands_133 : decode cL_stands 133 = .ok (.aload_n 0, 1) := by decide +kernel
theorem dL_stands_134 : decode cL_stands 134 = .ok (.iconst 0, 1) := by decide +kernel
theorem dL_stands_135 : decode cL_stands 135 = .ok (.invokevirtual 56, 3) := by decide +kernel
theorem dL_stands_138 : decode cL_stands 138 = .ok (.aload_n 1, 1) := by decide +kernel
theorem dL_stands_139 : decode cL_stands 139 = .ok (.iconst 0, 1) := by decide +kernel
theorem dL_stands_140 : decode cL_stands 140 = .ok (.iaload, 1) := by decide +kernel
theorem dL_stands_141 : decode cL_stands 141 = .ok (.if_icmp .ne 93, 3) := by decide +kernel
theorem dL_stands_144 : decode cL_stands 144 = .ok (.aload_n 0, 1) := by decide +kernel
theorem dL_stands_145 : decode cL_stands 145 = .ok (.iconst 1, 1) := by decide +kernel
theorem dL_stands_146 : decode cL_stands 146 = .ok (.invokevirtual 56, 3) := by decide +kernel
theorem dL_stands_149 : decode cL_stands 149 = .ok (.aload_n 2, 1) := by decide +kernel
theorem dL_stands_150 : decode cL_stands 150 = .ok (.bipush 6, 2) := by decide +kernel
theorem dL_stands_152 : decode cL_stands 152 = .ok (.iaload, 1) := by decide +kernel
theorem dL_stands_153 : decode cL_stands 153 = .ok (.invokestatic 59, 3) := by decide +kernel
theorem dL_stands_156 : decode cL_stands 156 = .ok (.if_icmp .ne 78, 3) := by decide +kernel
theorem dL_stands_159 : decode cL_stands 159 = .ok (.aload_n 0, 1) := by decide +kernel
theorem dL_stands_160 : decode cL_stands 160 = .ok (.iconst 2, 1) := by decide +kernel
theorem dL_stands_161 : decode cL_stands 161 = .ok (.invokevirtual 56, 3) := by decide +kernel
theorem dL_stands_164 : decode cL_stands 164 = .ok (.aload_n 2, 1) := by decide +kernel
theorem dL_stands_165 : decode cL_stands 165 = .ok (.invokestatic 62, 3) := by decide +kernel
theorem dL_stands_168 : decode cL_stands 168 = .ok (.if_icmp .ne 66, 3) := by decide +kernel
theorem dL_stands_171 : decode cL_stands 171 = .ok (.aload_n 0, 1) := by decide +kernel
theorem dL_stands_172 : decode cL_stands 172 = .ok (.iconst 3, 1) := by decide +kernel
theorem dL_stands_173 : decode cL_stands 173 = .ok (.invokevirtual 56, 3) := by decide +kernel
theorem dL_stands_176 : decode cL_stands 176 = .ok (.aload_n 2, 1) := by decide +kernel
theorem dL_stands_177 : decode cL_stands 177 = .ok (.bipush 7, 2) := by decide +kernel
theorem dL_stands_179 : decode cL_stands 179 = .ok (.iaload, 1) := by decide +kernel
theorem dL_stands_180 : decode cL_stands 180 = .ok (.if_icmp .ne 54, 3) := by decide +kernel
theorem dL_stands_183 : decode cL_stands 183 = .ok (.aload_n 0, 1) := by decide +kernel
theorem dL_stands_184 : decode cL_stands 184 = .ok (.iconst 4, 1) := by decide +kernel
theorem dL_stands_185 : decode cL_stands 185 = .ok (.invokevirtual 56, 3) := by decide +kernel
theorem dL_stands_188 : decode cL_stands 188 = .ok (.aload_n 2, 1) := by decide +kernel
theorem dL_stands_189 : decode cL_stands 189 = .ok (.bipush 8, 2) := by decide +kernel
theorem dL_stands_191 : decode cL_stands 191 = .ok (.iaload, 1) := by decide +kernel
theorem dL_stands_192 : decode cL_stands 192 = .ok (.if_icmp .ne 42, 3) := by decide +kernel
theorem dL_stands_195 : decode cL_stands 195 = .ok (.aload_n 0, 1) := by decide +kernel
theorem dL_stands_196 : decode cL_stands 196 = .ok (.iconst 5, 1) := by decide +kernel
theorem dL_stands_197 : decode cL_stands 197 = .ok (.invokevirtual 56, 3) := by decide +kernel
theorem dL_stands_200 : decode cL_stands 200 = .ok (.aload_n 1, 1) := by decide +kernel
theorem dL_stands_201 : decode cL_stands 201 = .ok (.aload_n 2, 1) := by decide +kernel
theorem dL_stands_202 : decode cL_stands 202 = .ok (.bipush 6, 2) := by decide +kernel
theorem dL_stands_204 : decode cL_stands 204 = .ok (.iaload, 1) := by decide +kernel
theorem dL_stands_205 : decode cL_stands 205 = .ok (.iconst 0, 1) := by decide +kernel
theorem dL_stands_206 : decode cL_stands 206 = .ok (.invokestatic 27, 3) := by decide +kernel
theorem dL_stands_209 : decode cL_stands 209 = .ok (.if_icmp .ne 25, 3) := by decide +kernel
theorem dL_stands_212 : decode cL_stands 212 = .ok (.aload_n 0, 1) := by decide +kernel
theorem dL_stands_213 : decode cL_stands 213 = .ok (.bipush 6, 2) := by decide +kernel
theorem dL_stands_215 : decode cL_stands 215 = .ok (.invokevirtual 56, 3) := by decide +kernel
theorem dL_stands_218 : decode cL_stands 218 = .ok (.aload_n 1, 1) := by decide +kernel
theorem dL_stands_219 : decode cL_stands 219 = .ok (.aload_n 2, 1) := by decide +kernel
theorem dL_stands_220 : decode cL_stands 220 = .ok (.bipush 6, 2) := by decide +kernel
theorem dL_stands_222 : decode cL_stands 222 = .ok (.iaload, 1) := by decide +kernel
theorem dL_stands_223 : decode cL_stands 223 = .ok (.iconst 1, 1) := by decide +kernel
theorem dL_stands_224 : decode cL_stands 224 = .ok (.invokestatic 27, 3) := by decide +kernel
theorem dL_stands_227 : decode cL_stands 227 = .ok (.if_icmp .ne 7, 3) := by decide +kernel
theorem dL_stands_230 : decode cL_stands 230 = .ok (.iconst 1, 1) := by decide +kernel
theorem dL_stands_231 : decode cL_stands 231 = .ok (.goto 4, 3) := by decide +kernel
theorem dL_stands_234 : decode cL_stands 234 = .ok (.iconst 0, 1) := by decide +kernel
theorem dL_stands_235 : decode cL_stands 235 = .ok (.ireturn, 1) := by decide +kernel
theorem dL_does_0 : decode cL_does 0 = .ok (.iload 4, 2) := by decide +kernel
theorem dL_does_2 : decode cL_does 2 = .ok (.iconst 4, 1) := by decide +kernel
theorem dL_does_3 : decode cL_does 3 = .ok (.invokestatic 8, 3) := by decide +kernel
theorem dL_does_6 : decode cL_does 6 = .ok (.ifCond .gt 10, 3) := by decide +kernel
theorem dL_does_9 : decode cL_does 9 = .ok (.aload_n 2, 1) := by decide +kernel
theorem dL_does_10 : decode cL_does 10 = .ok (.bipush 6, 2) := by decide +kernel
theorem dL_does_12 : decode cL_does 12 = .ok (.iaload, 1) := by decide +kernel
theorem dL_does_13 : decode cL_does 13 = .ok (.ifCond .ne 55, 3) := by decide +kernel
theorem dL_does_16 : decode cL_does 16 = .ok (.iconst 1, 1) := by decide +kernel
theorem dL_does_17 : decode cL_does 17 = .ok (.iload 4, 2) := by decide +kernel
theorem dL_does_19 : decode cL_does 19 = .ok (.iconst 2, 1) := by decide +kernel
theorem dL_does_20 : decode cL_does 20 = .ok (.ishr, 1) := by decide +kernel
theorem dL_does_21 : decode cL_does 21 = .ok (.iconst 5, 1) := by decide +kernel
theorem dL_does_22 : decode cL_does 22 = .ok (.invokestatic 8, 3) := by decide +kernel
theorem dL_does_25 : decode cL_does 25 = .ok (.iadd, 1) := by decide +kernel
theorem dL_does_26 : decode cL_does 26 = .ok (.istore 5, 2) := by decide +kernel
theorem dL_does_28 : decode cL_does 28 = .ok (.aload_n 2, 1) := by decide +kernel
theorem dL_does_29 : decode cL_does 29 = .ok (.iload 5, 2) := by decide +kernel
theorem dL_does_31 : decode cL_does 31 = .ok (.iaload, 1) := by decide +kernel
theorem dL_does_32 : decode cL_does 32 = .ok (.istore 6, 2) := by decide +kernel
theorem dL_does_34 : decode cL_does 34 = .ok (.aload_n 2, 1) := by decide +kernel
theorem dL_does_35 : decode cL_does 35 = .ok (.iload 5, 2) := by decide +kernel
theorem dL_does_37 : decode cL_does 37 = .ok (.iload 4, 2) := by decide +kernel
theorem dL_does_39 : decode cL_does 39 = .ok (.iconst 5, 1) := by decide +kernel
theorem dL_does_40 : decode cL_does 40 = .ok (.ishr, 1) := by decide +kernel
theorem dL_does_41 : decode cL_does 41 = .ok (.bipush 10, 2) := by decide +kernel
theorem dL_does_43 : decode cL_does 43 = .ok (.invokestatic 8, 3) := by decide +kernel
theorem dL_does_46 : decode cL_does 46 = .ok (.iastore, 1) := by decide +kernel
theorem dL_does_47 : decode cL_does 47 = .ok (.aload_n 0, 1) := by decide +kernel
theorem dL_does_48 : decode cL_does 48 = .ok (.iload 5, 2) := by decide +kernel
theorem dL_does_50 : decode cL_does 50 = .ok (.aload_n 2, 1) := by decide +kernel
theorem dL_does_51 : decode cL_does 51 = .ok (.iload 5, 2) := by decide +kernel
theorem dL_does_53 : decode cL_does 53 = .ok (.iaload, 1) := by decide +kernel
theorem dL_does_54 : decode cL_does 54 = .ok (.invokevirtual 66, 3) := by decide +kernel
theorem dL_does_57 : decode cL_does 57 = .ok (.iload 6, 2) := by decide +kernel
theorem dL_does_59 : decode cL_does 59 = .ok (.if_icmp .ne 7, 3) := by decide +kernel
theorem dL_does_62 : decode cL_does 62 = .ok (.iconst 1, 1) := by decide +kernel
theorem dL_does_63 : decode cL_does 63 = .ok (.goto 4, 3) := by decide +kernel
theorem dL_does_66 : decode cL_does 66 = .ok (.iconst 0, 1) := by decide +kernel
theorem dL_does_67 : decode cL_does 67 = .ok (.ireturn, 1) := by decide +kernel
theorem dL_does_68 : decode cL_does 68 = .ok (.iconst 1, 1) := by decide +kernel
theorem dL_does_69 : decode cL_does 69 = .ok (.iload 4, 2) := by decide +kernel
theorem dL_does_71 : decode cL_does 71 = .ok (.iconst 2, 1) := by decide +kernel
theorem dL_does_72 : decode cL_does 72 = .ok (.ishr, 1) := by decide +kernel
theorem dL_does_73 : decode cL_does 73 = .ok (.iconst 1, 1) := by decide +kernel
theorem dL_does_74 : decode cL_does 74 = .ok (.aload_n 1, 1) := by decide +kernel
theorem dL_does_75 : decode cL_does 75 = .ok (.iconst 0, 1) := by decide +kernel
theorem dL_does_76 : decode cL_does 76 = .ok (.iaload, 1) := by decide +kernel
theorem dL_does_77 : decode cL_does 77 = .ok (.ishl, 1) := by decide +kernel
theorem dL_does_78 : decode cL_does 78 = .ok (.iconst 1, 1) := by decide +kernel
theorem dL_does_79 : decode cL_does 79 = .ok (.isub, 1) := by decide +kernel
theorem dL_does_80 : decode cL_does 80 = .ok (.invokestatic 8, 3) := by decide +kernel
theorem dL_does_83 : decode cL_does 83 = .ok (.iadd, 1) := by decide +kernel
theorem dL_does_84 : decode cL_does 84 = .ok (.istore 5, 2) := by decide +kernel
theorem dL_does_86 : decode cL_does 86 = .ok (.iload 4, 2) := by decide +kernel
theorem dL_does_88 : decode cL_does 88 = .ok (.bipush 8, 2) := by decide +kernel
theorem dL_does_90 : decode cL_does 90 = .ok (.ishr, 1) := by decide +kernel
theorem dL_does_91 : decode cL_does 91 = .ok (.iconst 3, 1) := by decide +kernel
theorem dL_does_92 : decode cL_does 92 = .ok (.invokestatic 8, 3) := by decide +kernel
theorem dL_does_95 : decode cL_does 95 = .ok (.ifCond .le 22, 3) := by decide +kernel
theorem dL_does_98 : decode cL_does 98 = .ok (.iload 5, 2) := by decide +kernel
theorem dL_does_100 : decode cL_does 100 = .ok (.aload_n 2, 1) := by decide +kernel
theorem dL_does_101 : decode cL_does 101 = .ok (.bipush 6, 2) := by decide +kernel
theorem dL_does_103 : decode cL_does 103 = .ok (.iaload, 1) := by decide +kernel
theorem dL_does_104 : decode cL_does 104 = .ok (.iand, 1) := by decide +kernel
theorem dL_does_105 : decode cL_does 105 = .ok (.ifCond .le 12, 3) := by decide +kernel
theorem dL_does_108 : decode cL_does 108 = .ok (.iload 5, 2) := by decide +kernel
theorem dL_does_110 : decode cL_does 110 = .ok (.aload_n 2, 1) := by decide +kernel
theorem dL_does_111 : decode cL_does 111 = .ok (.bipush 6, 2) := by decide +kernel
theorem dL_does_113 : decode cL_does 113 = .ok (.iaload, 1) := by decide +kernel
theorem dL_does_114 : decode cL_does 114 = .ok (.iand, 1) := by decide +kernel
theorem dL_does_115 : decode cL_does 115 = .ok (.istore 5, 2) := by decide +kernel
theorem dL_does_117 : decode cL_does 117 = .ok (.iconst 1, 1) := by decide +kernel
theorem dL_does_118 : decode cL_does 118 = .ok (.iload 4, 2) := by decide +kernel
theorem dL_does_120 : decode cL_does 120 = .ok (.bipush 10, 2) := by decide +kernel
theorem dL_does_122 : decode cL_does 122 = .ok (.ishr, 1) := by decide +kernel
theorem dL_does_123 : decode cL_does 123 = .ok (.bipush 6, 2) := by decide +kernel
theorem dL_does_125 : decode cL_does 125 = .ok (.invokestatic 8, 3) := by decide +kernel
theorem dL_does_128 : decode cL_does 128 = .ok (.iadd, 1) := by decide +kernel
theorem dL_does_129 : decode cL_does 129 = .ok (.istore 6, 2) := by decide +kernel
theorem dL_does_131 : decode cL_does 131 = .ok (.iload 4, 2) := by decide +kernel
theorem dL_does_133 : decode cL_does 133 = .ok (.bipush 13, 2) := by decide +kernel
theorem dL_does_135 : decode cL_does 135 = .ok (.ishr, 1) := by decide +kernel
theorem dL_does_136 : decode cL_does 136 = .ok (.iload 4, 2) := by decide +kernel
theorem dL_does_138 : decode cL_does 138 = .ok (.bipush 19, 2) := by decide +kernel
theorem dL_does_140 : decode cL_does 140 = .ok (.ishr, 1) := by decide +kernel
theorem dL_does_141 : decode cL_does 141 = .ok (.iconst 2, 1) := by decide +kernel
theorem dL_does_142 : decode cL_does 142 = .ok (.invokestatic 8, 3) := by decide +kernel
theorem dL_does_145 : decode cL_does 145 = .ok (.ifCond .ne 8, 3) := by decide +kernel
theorem dL_does_148 : decode cL_does 148 = .ok (.bipush 41, 2) := by decide +kernel
theorem dL_does_150 : decode cL_does 150 = .ok (.goto 5, 3) := by decide +kernel
theorem dL_does_153 : decode cL_does 153 = .ok (.bipush 21, 2) := by decide +kernel
theorem dL_does_155 : decode cL_does 155 = .ok (.invokestatic 8, 3) := by decide +kernel
theorem dL_does_158 : decode cL_does 158 = .ok (.istore 7, 2) := by decide +kernel
theorem dL_does_160 : decode cL_does 160 = .ok (.iload 5, 2) := by decide +kernel
theorem dL_does_162 : decode cL_does 162 = .ok (.aload_n 2, 1) := by decide +kernel
theorem dL_does_163 : decode cL_does 163 = .ok (.bipush 6, 2) := by decide +kernel
theorem dL_does_165 : decode cL_does 165 = .ok (.iaload, 1) := by decide +kernel
theorem dL_does_166 : decode cL_does 166 = .ok (.iconst (-1), 1) := by decide +kernel
theorem dL_does_167 : decode cL_does 167 = .ok (.ixor, 1) := by decide +kernel
theorem dL_does_168 : decode cL_does 168 = .ok (.iand, 1) := by decide +kernel
theorem dL_does_169 : decode cL_does 169 = .ok (.ifCond .eq 24, 3) := by decide +kernel
theorem dL_does_172 : decode cL_does 172 = .ok (.aload_n 0, 1) := by decide +kernel
theorem dL_does_173 : decode cL_does 173 = .ok (.iload 5, 2) := by decide +kernel
theorem dL_does_175 : decode cL_does 175 = .ok (.iload 6, 2) := by decide +kernel
theorem dL_does_177 : decode cL_does 177 = .ok (.iload 7, 2) := by decide +kernel
theorem dL_does_179 : decode cL_does 179 = .ok (.invokevirtual 69, 3) := by decide +kernel
theorem dL_does_182 : decode cL_does 182 = .ok (.bipush (-103), 2) := by decide +kernel
theorem dL_does_184 : decode cL_does 184 = .ok (.if_icmp .ne 7, 3) := by decide +kernel
theorem dL_does_187 : decode cL_does 187 = .ok (.iconst 1, 1) := by decide +kernel
theorem dL_does_188 : decode cL_does 188 = .ok (.goto 4, 3) := by decide +kernel
theorem dL_does_191 : decode cL_does 191 = .ok (.iconst 0, 1) := by decide +kernel
theorem dL_does_192 : decode cL_does 192 = .ok (.ireturn, 1) := by decide +kernel
theorem dL_does_193 : decode cL_does 193 = .ok (.aload_n 1, 1) := by decide +kernel
theorem dL_does_194 : decode cL_does 194 = .ok (.aload_n 2, 1) := by decide +kernel
theorem dL_does_195 : decode cL_does 195 = .ok (.aload_n 3, 1) := by decide +kernel
theorem dL_does_196 : decode cL_does 196 = .ok (.iload 5, 2) := by decide +kernel
theorem dL_does_198 : decode cL_does 198 = .ok (.iload 6, 2) := by decide +kernel
theorem dL_does_200 : decode cL_does 200 = .ok (.iload 7, 2) := by decide +kernel
theorem dL_does_202 : decode cL_does 202 = .ok (.invokestatic 38, 3) := by decide +kernel
theorem dL_does_205 : decode cL_does 205 = .ok (.aload_n 2, 1) := by decide +kernel
theorem dL_does_206 : decode cL_does 206 = .ok (.bipush 6, 2) := by decide +kernel
theorem dL_does_208 : decode cL_does 208 = .ok (.aload_n 2, 1) := by decide +kernel
theorem dL_does_209 : decode cL_does 209 = .ok (.bipush 6, 2) := by decide +kernel
theorem dL_does_211 : decode cL_does 211 = .ok (.iaload, 1) := by decide +kernel
theorem dL_does_212 : decode cL_does 212 = .ok (.iload 5, 2) := by decide +kernel
theorem dL_does_214 : decode cL_does 214 = .ok (.iconst (-1), 1) := by decide +kernel
theorem dL_does_215 : decode cL_does 215 = .ok (.ixor, 1) := by decide +kernel
theorem dL_does_216 : decode cL_does 216 = .ok (.iand, 1) := by decide +kernel
theorem dL_does_217 : decode cL_does 217 = .ok (.aload_n 3, 1) := by decide +kernel
theorem dL_does_218 : decode cL_does 218 = .ok (.iconst 0, 1) := by decide +kernel
theorem dL_does_219 : decode cL_does 219 = .ok (.iaload, 1) := by decide +kernel
theorem dL_does_220 : decode cL_does 220 = .ok (.ior, 1) := by decide +kernel
theorem dL_does_221 : decode cL_does 221 = .ok (.iastore, 1) := by decide +kernel
theorem dL_does_222 : decode cL_does 222 = .ok (.aload_n 2, 1) := by decide +kernel
theorem dL_does_223 : decode cL_does 223 = .ok (.bipush 7, 2) := by decide +kernel
theorem dL_does_225 : decode cL_does 225 = .ok (.dup2, 1) := by decide +kernel
theorem dL_does_226 : decode cL_does 226 = .ok (.iaload, 1) := by decide +kernel
theorem dL_does_227 : decode cL_does 227 = .ok (.iconst 1, 1) := by decide +kernel
theorem dL_does_228 : decode cL_does 228 = .ok (.iadd, 1) := by decide +kernel
theorem dL_does_229 : decode cL_does 229 = .ok (.iastore, 1) := by decide +kernel
theorem dL_does_230 : decode cL_does 230 = .ok (.aload_n 3, 1) := by decide +kernel
theorem dL_does_231 : decode cL_does 231 = .ok (.iconst 0, 1) := by decide +kernel
theorem dL_does_232 : decode cL_does 232 = .ok (.iaload, 1) := by decide +kernel
theorem dL_does_233 : decode cL_does 233 = .ok (.ifCond .le 11, 3) := by decide +kernel
theorem dL_does_236 : decode cL_does 236 = .ok (.aload_n 2, 1) := by decide +kernel
theorem dL_does_237 : decode cL_does 237 = .ok (.bipush 8, 2) := by decide +kernel
theorem dL_does_239 : decode cL_does 239 = .ok (.dup2, 1) := by decide +kernel
theorem dL_does_240 : decode cL_does 240 = .ok (.iaload, 1) := by decide +kernel
theorem dL_does_241 : decode cL_does 241 = .ok (.iconst 1, 1) := by decide +kernel
theorem dL_does_242 : decode cL_does 242 = .ok (.iadd, 1) := by decide +kernel
theorem dL_does_243 : decode cL_does 243 = .ok (.iastore, 1) := by decide +kernel
theorem dL_does_244 : decode cL_does 244 = .ok (.aload_n 0, 1) := by decide +kernel
theorem dL_does_245 : decode cL_does 245 = .ok (.iload 5, 2) := by decide +kernel
theorem dL_does_247 : decode cL_does 247 = .ok (.iload 6, 2) := by decide +kernel
theorem dL_does_249 : decode cL_does 249 = .ok (.iload 7, 2) := by decide +kernel
theorem dL_does_251 : decode cL_does 251 = .ok (.invokevirtual 69, 3) := by decide +kernel
theorem dL_does_254 : decode cL_does 254 = .ok (.aload_n 3, 1) := by decide +kernel
theorem dL_does_255 : decode cL_does 255 = .ok (.iconst 0, 1) := by decide +kernel
theorem dL_does_256 : decode cL_does 256 = .ok (.iaload, 1) := by decide +kernel
theorem dL_does_257 : decode cL_does 257 = .ok (.if_icmp .ne 7, 3) := by decide +kernel
theorem dL_does_260 : decode cL_does 260 = .ok (.iconst 1, 1) := by decide +kernel
theorem dL_does_261 : decode cL_does 261 = .ok (.goto 4, 3) := by decide +kernel
theorem dL_does_264 : decode cL_does 264 = .ok (.iconst 0, 1) := by decide +kernel
theorem dL_does_265 : decode cL_does 265 = .ok (.ireturn, 1) := by decide +kernel
theorem dL_law_0 : decode cL_law 0 = .ok (.new 15, 3) := by decide +kernel
theorem dL_law_3 : decode cL_law 3 = .ok (.dup, 1) := by decide +kernel
theorem dL_law_4 : decode cL_law 4 = .ok (.invokespecial 72, 3) := by decide +kernel
theorem dL_law_7 : decode cL_law 7 = .ok (.astore_n 1, 1) := by decide +kernel
theorem dL_law_8 : decode cL_law 8 = .ok (.bipush 7, 2) := by decide +kernel
theorem dL_law_10 : decode cL_law 10 = .ok (.newarray .int, 2) := by decide +kernel
theorem dL_law_12 : decode cL_law 12 = .ok (.astore_n 2, 1) := by decide +kernel
theorem dL_law_13 : decode cL_law 13 = .ok (.bipush 9, 2) := by decide +kernel
theorem dL_law_15 : decode cL_law 15 = .ok (.newarray .int, 2) := by decide +kernel
theorem dL_law_17 : decode cL_law 17 = .ok (.astore_n 3, 1) := by decide +kernel
theorem dL_law_18 : decode cL_law 18 = .ok (.bipush 9, 2) := by decide +kernel
theorem dL_law_20 : decode cL_law 20 = .ok (.newarray .int, 2) := by decide +kernel
theorem dL_law_22 : decode cL_law 22 = .ok (.astore 4, 2) := by decide +kernel
theorem dL_law_24 : decode cL_law 24 = .ok (.iconst 3, 1) := by decide +kernel
theorem dL_law_25 : decode cL_law 25 = .ok (.newarray .int, 2) := by decide +kernel
theorem dL_law_27 : decode cL_law 27 = .ok (.astore 5, 2) := by decide +kernel
theorem dL_law_29 : decode cL_law 29 = .ok (.bipush 15, 2) := by decide +kernel
theorem dL_law_31 : decode cL_law 31 = .ok (.newarray .int, 2) := by decide +kernel
theorem dL_law_33 : decode cL_law 33 = .ok (.astore 6, 2) := by decide +kernel
theorem dL_law_35 : decode cL_law 35 = .ok (.aload_n 0, 1) := by decide +kernel
theorem dL_law_36 : decode cL_law 36 = .ok (.iconst 0, 1) := by decide +kernel
theorem dL_law_37 : decode cL_law 37 = .ok (.invokestatic 73, 3) := by decide +kernel
theorem dL_law_40 : decode cL_law 40 = .ok (.aload_n 0, 1) := by decide +kernel
theorem dL_law_41 : decode cL_law 41 = .ok (.iconst 1, 1) := by decide +kernel
theorem dL_law_42 : decode cL_law 42 = .ok (.invokestatic 73, 3) := by decide +kernel
theorem dL_law_45 : decode cL_law 45 = .ok (.aload_n 2, 1) := by decide +kernel
theorem dL_law_46 : decode cL_law 46 = .ok (.aload_n 3, 1) := by decide +kernel
theorem dL_law_47 : decode cL_law 47 = .ok (.aload 6, 2) := by decide +kernel
theorem dL_law_49 : decode cL_law 49 = .ok (.invokestatic 77, 3) := by decide +kernel
theorem dL_law_52 : decode cL_law 52 = .ok (.istore 7, 2) := by decide +kernel
theorem dL_law_54 : decode cL_law 54 = .ok (.aload_n 1, 1) := by decide +kernel
theorem dL_law_55 : decode cL_law 55 = .ok (.aload 6, 2) := by decide +kernel
theorem dL_law_57 : decode cL_law 57 = .ok (.iload 7, 2) := by decide +kernel
theorem dL_law_59 : decode cL_law 59 = .ok (.invokestatic 81, 3) := by decide +kernel
theorem dL_law_62 : decode cL_law 62 = .ok (.ifCond .eq 31, 3) := by decide +kernel
theorem dL_law_65 : decode cL_law 65 = .ok (.aload_n 1, 1) := by decide +kernel
theorem dL_law_66 : decode cL_law 66 = .ok (.invokevirtual 85, 3) := by decide +kernel
theorem dL_law_69 : decode cL_law 69 = .ok (.iload 7, 2) := by decide +kernel
theorem dL_law_71 : decode cL_law 71 = .ok (.if_icmp .ne 22, 3) := by decide +kernel
theorem dL_law_74 : decode cL_law 74 = .ok (.aload_n 1, 1) := by decide +kernel
theorem dL_law_75 : decode cL_law 75 = .ok (.invokevirtual 89, 3) := by decide +kernel
theorem dL_law_78 : decode cL_law 78 = .ok (.aload_n 2, 1) := by decide +kernel
theorem dL_law_79 : decode cL_law 79 = .ok (.iconst 0, 1) := by decide +kernel
theorem dL_law_80 : decode cL_law 80 = .ok (.iaload, 1) := by decide +kernel
theorem dL_law_81 : decode cL_law 81 = .ok (.if_icmp .ne 12, 3) := by decide +kernel
theorem dL_law_84 : decode cL_law 84 = .ok (.aload_n 1, 1) := by decide +kernel
theorem dL_law_85 : decode cL_law 85 = .ok (.aload_n 2, 1) := by decide +kernel
theorem dL_law_86 : decode cL_law 86 = .ok (.aload_n 3, 1) := by decide +kernel
theorem dL_law_87 : decode cL_law 87 = .ok (.invokestatic 92, 3) := by decide +kernel
theorem dL_law_90 : decode cL_law 90 = .ok (.ifCond .ne 5, 3) := by decide +kernel
theorem dL_law_93 : decode cL_law 93 = .ok (.iconst 0, 1) := by decide +kernel
theorem dL_law_94 : decode cL_law 94 = .ok (.ireturn, 1) := by decide +kernel
theorem dL_law_95 : decode cL_law 95 = .ok (.iconst 0, 1) := by decide +kernel
theorem dL_law_96 : decode cL_law 96 = .ok (.istore 8, 2) := by decide +kernel
theorem dL_law_98 : decode cL_law 98 = .ok (.iload 8, 2) := by decide +kernel
theorem dL_law_100 : decode cL_law 100 = .ok (.aload_n 2, 1) := by decide +kernel
theorem dL_law_101 : decode cL_law 101 = .ok (.iconst 0, 1) := by decide +kernel
theorem dL_law_102 : decode cL_law 102 = .ok (.iaload, 1) := by decide +kernel
theorem dL_law_103 : decode cL_law 103 = .ok (.if_icmp .ge 75, 3) := by decide +kernel
theorem dL_law_106 : decode cL_law 106 = .ok (.iconst 0, 1) := by decide +kernel
theorem dL_law_107 : decode cL_law 107 = .ok (.istore 9, 2) := by decide +kernel
theorem dL_law_109 : decode cL_law 109 = .ok (.iload 9, 2) := by decide +kernel
theorem dL_law_111 : decode cL_law 111 = .ok (.iconst 5, 1) := by decide +kernel
theorem dL_law_112 : decode cL_law 112 = .ok (.if_icmp .ge 60, 3) := by decide +kernel
theorem dL_law_115 : decode cL_law 115 = .ok (.aload_n 1, 1) := by decide +kernel
theorem dL_law_116 : decode cL_law 116 = .ok (.iload 8, 2) := by decide +kernel
theorem dL_law_118 : decode cL_law 118 = .ok (.iload 9, 2) := by decide +kernel
theorem dL_law_120 : decode cL_law 120 = .ok (.invokevirtual 96, 3) := by decide +kernel
theorem dL_law_123 : decode cL_law 123 = .ok (.iload 9, 2) := by decide +kernel
theorem dL_law_125 : decode cL_law 125 = .ok (.ifCond .eq 30, 3) := by decide +kernel
theorem dL_law_128 : decode cL_law 128 = .ok (.iload 9, 2) := by decide +kernel
theorem dL_law_130 : decode cL_law 130 = .ok (.aload_n 2, 1) := by decide +kernel
theorem dL_law_131 : decode cL_law 131 = .ok (.iconst 1, 1) := by decide +kernel
theorem dL_law_132 : decode cL_law 132 = .ok (.iload 8, 2) := by decide +kernel
theorem dL_law_134 : decode cL_law 134 = .ok (.iadd, 1) := by decide +kernel
theorem dL_law_135 : decode cL_law 135 = .ok (.iaload, 1) := by decide +kernel
theorem dL_law_136 : decode cL_law 136 = .ok (.if_icmp .eq 19, 3) := by decide +kernel
theorem dL_law_139 : decode cL_law 139 = .ok (.iload 9, 2) := by decide +kernel
theorem dL_law_141 : decode cL_law 141 = .ok (.iconst 2, 1) := by decide +kernel
theorem dL_law_142 : decode cL_law 142 = .ok (.if_icmp .ne 18, 3) := by decide +kernel
theorem dL_law_145 : decode cL_law 145 = .ok (.aload_n 2, 1) := by decide +kernel
theorem dL_law_146 : decode cL_law 146 = .ok (.iconst 1, 1) := by decide +kernel
theorem dL_law_147 : decode cL_law 147 = .ok (.iload 8, 2) := by decide +kernel
theorem dL_law_149 : decode cL_law 149 = .ok (.iadd, 1) := by decide +kernel
theorem dL_law_150 : decode cL_law 150 = .ok (.iaload, 1) := by decide +kernel
theorem dL_law_151 : decode cL_law 151 = .ok (.iconst 4, 1) := by decide +kernel
theorem dL_law_152 : decode cL_law 152 = .ok (.if_icmp .ne 8, 3) := by decide +kernel
theorem dL_law_155 : decode cL_law 155 = .ok (.iload 8, 2) := by decide +kernel
theorem dL_law_157 : decode cL_law 157 = .ok (.goto 4, 3) := by decide +kernel
theorem dL_law_160 : decode cL_law 160 = .ok (.iconst (-1), 1) := by decide +kernel
theorem dL_law_161 : decode cL_law 161 = .ok (.if_icmp .eq 5, 3) := by decide +kernel
theorem dL_law_164 : decode cL_law 164 = .ok (.iconst 0, 1) := by decide +kernel
theorem dL_law_165 : decode cL_law 165 = .ok (.ireturn, 1) := by decide +kernel
theorem dL_law_166 : decode cL_law 166 = .ok (.iinc 9 1, 3) := by decide +kernel
theorem dL_law_169 : decode cL_law 169 = .ok (.goto (-60), 3) := by decide +kernel
theorem dL_law_172 : decode cL_law 172 = .ok (.iinc 8 1, 3) := by decide +kernel
theorem dL_law_175 : decode cL_law 175 = .ok (.goto (-77), 3) := by decide +kernel
theorem dL_law_178 : decode cL_law 178 = .ok (.iconst 0, 1) := by decide +kernel
theorem dL_law_179 : decode cL_law 179 = .ok (.istore 8, 2) := by decide +kernel
theorem dL_law_181 : decode cL_law 181 = .ok (.iload 8, 2) := by decide +kernel
theorem dL_law_183 : decode cL_law 183 = .ok (.bipush 24, 2) := by decide +kernel
theorem dL_law_185 : decode cL_law 185 = .ok (.if_icmp .ge 308, 3) := by decide +kernel
theorem dL_law_188 : decode cL_law 188 = .ok (.aload_n 0, 1) := by decide +kernel
theorem dL_law_189 : decode cL_law 189 = .ok (.iconst 2, 1) := by decide +kernel
theorem dL_law_190 : decode cL_law 190 = .ok (.iload 8, 2) := by decide +kernel
theorem dL_law_192 : decode cL_law 192 = .ok (.iadd, 1) := by decide +kernel
theorem dL_law_193 : decode cL_law 193 = .ok (.invokestatic 73, 3) := by decide +kernel
theorem dL_law_196 : decode cL_law 196 = .ok (.istore 9, 2) := by decide +kernel
theorem dL_law_198 : decode cL_law 198 = .ok (.iload 9, 2) := by decide +kernel
theorem dL_law_200 : decode cL_law 200 = .ok (.bipush 8, 2) := by decide +kernel
theorem dL_law_202 : decode cL_law 202 = .ok (.invokestatic 8, 3) := by decide +kernel
theorem dL_law_205 : decode cL_law 205 = .ok (.istore 10, 2) := by decide +kernel
theorem dL_law_207 : decode cL_law 207 = .ok (.iload 10, 2) := by decide +kernel
theorem dL_law_209 : decode cL_law 209 = .ok (.iconst 5, 1) := by decide +kernel
theorem dL_law_210 : decode cL_law 210 = .ok (.if_icmp .ge 20, 3) := by decide +kernel
theorem dL_law_213 : decode cL_law 213 = .ok (.aload_n 1, 1) := by decide +kernel
theorem dL_law_214 : decode cL_law 214 = .ok (.aload_n 2, 1) := by decide +kernel
theorem dL_law_215 : decode cL_law 215 = .ok (.aload_n 3, 1) := by decide +kernel
theorem dL_law_216 : decode cL_law 216 = .ok (.aload 5, 2) := by decide +kernel
theorem dL_law_218 : decode cL_law 218 = .ok (.iload 9, 2) := by decide +kernel
theorem dL_law_220 : decode cL_law 220 = .ok (.iconst 3, 1) := by decide +kernel
theorem dL_law_221 : decode cL_law 221 = .ok (.ishr, 1) := by decide +kernel
theorem dL_law_222 : decode cL_law 222 = .ok (.invokestatic 99, 3) := by decide +kernel
theorem dL_law_225 : decode cL_law 225 = .ok (.ifCond .ne 251, 3) := by decide +kernel
theorem dL_law_228 : decode cL_law 228 = .ok (.iconst 0, 1) := by decide +kernel
theorem dL_law_229 : decode cL_law 229 = .ok (.ireturn, 1) := by decide +kernel
theorem dL_law_230 : decode cL_law 230 = .ok (.iload 10, 2) := by decide +kernel
theorem dL_law_232 : decode cL_law 232 = .ok (.bipush 7, 2) := by decide +kernel
theorem dL_law_234 : decode cL_law 234 = .ok (.if_icmp .ge 204, 3) := by decide +kernel
theorem dL_law_237 : decode cL_law 237 = .ok (.iconst 1, 1) := by decide +kernel
theorem dL_law_238 : decode cL_law 238 = .ok (.iload 9, 2) := by decide +kernel
theorem dL_law_240 : decode cL_law 240 = .ok (.iconst 3, 1) := by decide +kernel
theorem dL_law_241 : decode cL_law 241 = .ok (.ishr, 1) := by decide +kernel
theorem dL_law_242 : decode cL_law 242 = .ok (.iconst 1, 1) := by decide +kernel
theorem dL_law_243 : decode cL_law 243 = .ok (.aload_n 2, 1) := by decide +kernel
theorem dL_law_244 : decode cL_law 244 = .ok (.iconst 0, 1) := by decide +kernel
theorem dL_law_245 : decode cL_law 245 = .ok (.iaload, 1) := by decide +kernel
theorem dL_law_246 : decode cL_law 246 = .ok (.ishl, 1) := by decide +kernel
theorem dL_law_247 : decode cL_law 247 = .ok (.iconst 1, 1) := by decide +kernel
theorem dL_law_248 : decode cL_law 248 = .ok (.isub, 1) := by decide +kernel
theorem dL_law_249 : decode cL_law 249 = .ok (.invokestatic 8, 3) := by decide +kernel
theorem dL_law_252 : decode cL_law 252 = .ok (.iadd, 1) := by decide +kernel
theorem dL_law_253 : decode cL_law 253 = .ok (.istore 11, 2) := by decide +kernel
theorem dL_law_255 : decode cL_law 255 = .ok (.iconst 1, 1) := by decide +kernel
theorem dL_law_256 : decode cL_law 256 = .ok (.iload 9, 2) := by decide +kernel
theorem dL_law_258 : decode cL_law 258 = .ok (.bipush 9, 2) := by decide +kernel
theorem dL_law_260 : decode cL_law 260 = .ok (.ishr, 1) := by decide +kernel
theorem dL_law_261 : decode cL_law 261 = .ok (.bipush 6, 2) := by decide +kernel
theorem dL_law_263 : decode cL_law 263 = .ok (.invokestatic 8, 3) := by decide +kernel
theorem dL_law_266 : decode cL_law 266 = .ok (.iadd, 1) := by decide +kernel
theorem dL_law_267 : decode cL_law 267 = .ok (.istore 12, 2) := by decide +kernel
theorem dL_law_269 : decode cL_law 269 = .ok (.iload 9, 2) := by decide +kernel
theorem dL_law_271 : decode cL_law 271 = .ok (.bipush 12, 2) := by decide +kernel
theorem dL_law_273 : decode cL_law 273 = .ok (.ishr, 1) := by decide +kernel
theorem dL_law_274 : decode cL_law 274 = .ok (.bipush 41, 2) := by decide +kernel
theorem dL_law_276 : decode cL_law 276 = .ok (.invokestatic 8, 3) := by decide +kernel
theorem dL_law_279 : decode cL_law 279 = .ok (.istore 13, 2) := by decide +kernel
theorem dL_law_281 : decode cL_law 281 = .ok (.iload 11, 2) := by decide +kernel
theorem dL_law_283 : decode cL_law 283 = .ok (.aload_n 3, 1) := by decide +kernel
theorem dL_law_284 : decode cL_law 284 = .ok (.bipush 6, 2) := by decide +kernel
theorem dL_law_286 : decode cL_law 286 = .ok (.iaload, 1) := by decide +kernel
theorem dL_law_287 : decode cL_law 287 = .ok (.iconst (-1), 1) := by decide +kernel
theorem dL_law_288 : decode cL_law 288 = .ok (.ixor, 1) := by decide +kernel
theorem dL_law_289 : decode cL_law 289 = .ok (.iand, 1) := by decide +kernel
theorem dL_law_290 : decode cL_law 290 = .ok (.ifCond .ne 7, 3) := by decide +kernel
theorem dL_law_293 : decode cL_law 293 = .ok (.iconst 1, 1) := by decide +kernel
theorem dL_law_294 : decode cL_law 294 = .ok (.goto 4, 3) := by decide +kernel
theorem dL_law_297 : decode cL_law 297 = .ok (.iconst 0, 1) := by decide +kernel
theorem dL_law_298 : decode cL_law 298 = .ok (.istore 14, 2) := by decide +kernel
theorem dL_law_300 : decode cL_law 300 = .ok (.aload 4, 2) := by decide +kernel
theorem dL_law_302 : decode cL_law 302 = .ok (.aload_n 3, 1) := by decide +kernel
theorem dL_law_303 : decode cL_law 303 = .ok (.invokestatic 34, 3) := by decide +kernel
theorem dL_law_306 : decode cL_law 306 = .ok (.aload_n 2, 1) := by decide +kernel
theorem dL_law_307 : decode cL_law 307 = .ok (.aload 4, 2) := by decide +kernel
theorem dL_law_309 : decode cL_law 309 = .ok (.aload 5, 2) := by decide +kernel
theorem dL_law_311 : decode cL_law 311 = .ok (.iload 11, 2) := by decide +kernel
theorem dL_law_313 : decode cL_law 313 = .ok (.iload 12, 2) := by decide +kernel
theorem dL_law_315 : decode cL_law 315 = .ok (.iload 13, 2) := by decide +kernel
theorem dL_law_317 : decode cL_law 317 = .ok (.invokestatic 38, 3) := by decide +kernel
theorem dL_law_320 : decode cL_law 320 = .ok (.aload_n 1, 1) := by decide +kernel
theorem dL_law_321 : decode cL_law 321 = .ok (.iload 11, 2) := by decide +kernel
theorem dL_law_323 : decode cL_law 323 = .ok (.iload 12, 2) := by decide +kernel
theorem dL_law_325 : decode cL_law 325 = .ok (.iload 13, 2) := by decide +kernel
theorem dL_law_327 : decode cL_law 327 = .ok (.iconst 0, 1) := by decide +kernel
theorem dL_law_328 : decode cL_law 328 = .ok (.invokevirtual 103, 3) := by decide +kernel
theorem dL_law_331 : decode cL_law 331 = .ok (.iload 14, 2) := by decide +kernel
theorem dL_law_333 : decode cL_law 333 = .ok (.ifCond .eq 10, 3) := by decide +kernel
theorem dL_law_336 : decode cL_law 336 = .ok (.aload 5, 2) := by decide +kernel
theorem dL_law_338 : decode cL_law 338 = .ok (.iconst 0, 1) := by decide +kernel
theorem dL_law_339 : decode cL_law 339 = .ok (.iaload, 1) := by decide +kernel
theorem dL_law_340 : decode cL_law 340 = .ok (.goto 5, 3) := by decide +kernel
theorem dL_law_343 : decode cL_law 343 = .ok (.bipush (-103), 2) := by decide +kernel
theorem dL_law_345 : decode cL_law 345 = .ok (.if_icmp .ne 88, 3) := by decide +kernel
theorem dL_law_348 : decode cL_law 348 = .ok (.aload_n 1, 1) := by decide +kernel
theorem dL_law_349 : decode cL_law 349 = .ok (.iload 11, 2) := by decide +kernel
theorem dL_law_351 : decode cL_law 351 = .ok (.iload 12, 2) := by decide +kernel
theorem dL_law_353 : decode cL_law 353 = .ok (.iload 13, 2) := by decide +kernel
theorem dL_law_355 : decode cL_law 355 = .ok (.iconst 1, 1) := by decide +kernel
theorem dL_law_356 : decode cL_law 356 = .ok (.invokevirtual 103, 3) := by decide +kernel
theorem dL_law_359 : decode cL_law 359 = .ok (.iload 14, 2) := by decide +kernel
theorem dL_law_361 : decode cL_law 361 = .ok (.ifCond .eq 10, 3) := by decide +kernel
theorem dL_law_364 : decode cL_law 364 = .ok (.aload 5, 2) := by decide +kernel
theorem dL_law_366 : decode cL_law 366 = .ok (.iconst 1, 1) := by decide +kernel
theorem dL_law_367 : decode cL_law 367 = .ok (.iaload, 1) := by decide +kernel
theorem dL_law_368 : decode cL_law 368 = .ok (.goto 5, 3) := by decide +kernel
theorem dL_law_371 : decode cL_law 371 = .ok (.bipush (-103), 2) := by decide +kernel
theorem dL_law_373 : decode cL_law 373 = .ok (.if_icmp .ne 60, 3) := by decide +kernel
theorem dL_law_376 : decode cL_law 376 = .ok (.aload_n 1, 1) := by decide +kernel
theorem dL_law_377 : decode cL_law 377 = .ok (.iload 11, 2) := by decide +kernel
theorem dL_law_379 : decode cL_law 379 = .ok (.iload 12, 2) := by decide +kernel
theorem dL_law_381 : decode cL_law 381 = .ok (.iload 13, 2) := by decide +kernel
theorem dL_law_383 : decode cL_law 383 = .ok (.iconst 2, 1) := by decide +kernel
theorem dL_law_384 : decode cL_law 384 = .ok (.invokevirtual 103, 3) := by decide +kernel
theorem dL_law_387 : decode cL_law 387 = .ok (.iload 14, 2) := by decide +kernel
theorem dL_law_389 : decode cL_law 389 = .ok (.ifCond .eq 11, 3) := by decide +kernel
theorem dL_law_392 : decode cL_law 392 = .ok (.aload 4, 2) := by decide +kernel
theorem dL_law_394 : decode cL_law 394 = .ok (.invokestatic 62, 3) := by decide +kernel
theorem dL_law_397 : decode cL_law 397 = .ok (.goto 5, 3) := by decide +kernel
theorem dL_law_400 : decode cL_law 400 = .ok (.bipush (-103), 2) := by decide +kernel
theorem dL_law_402 : decode cL_law 402 = .ok (.if_icmp .ne 31, 3) := by decide +kernel
theorem dL_law_405 : decode cL_law 405 = .ok (.aload_n 1, 1) := by decide +kernel
theorem dL_law_406 : decode cL_law 406 = .ok (.iload 11, 2) := by decide +kernel
theorem dL_law_408 : decode cL_law 408 = .ok (.iload 12, 2) := by decide +kernel
theorem dL_law_410 : decode cL_law 410 = .ok (.iload 13, 2) := by decide +kernel
theorem dL_law_412 : decode cL_law 412 = .ok (.iconst 3, 1) := by decide +kernel
theorem dL_law_413 : decode cL_law 413 = .ok (.invokevirtual 103, 3) := by decide +kernel
theorem dL_law_416 : decode cL_law 416 = .ok (.iload 14, 2) := by decide +kernel
theorem dL_law_418 : decode cL_law 418 = .ok (.ifCond .eq 10, 3) := by decide +kernel
theorem dL_law_421 : decode cL_law 421 = .ok (.aload 5, 2) := by decide +kernel
theorem dL_law_423 : decode cL_law 423 = .ok (.iconst 2, 1) := by decide +kernel
theorem dL_law_424 : decode cL_law 424 = .ok (.iaload, 1) := by decide +kernel
theorem dL_law_425 : decode cL_law 425 = .ok (.goto 5, 3) := by decide +kernel
theorem dL_law_428 : decode cL_law 428 = .ok (.bipush (-103), 2) := by decide +kernel
theorem dL_law_430 : decode cL_law 430 = .ok (.if_icmp .eq 5, 3) := by decide +kernel
theorem dL_law_433 : decode cL_law 433 = .ok (.iconst 0, 1) := by decide +kernel
theorem dL_law_434 : decode cL_law 434 = .ok (.ireturn, 1) := by decide +kernel
theorem dL_law_435 : decode cL_law 435 = .ok (.goto 41, 3) := by decide +kernel
theorem dL_law_438 : decode cL_law 438 = .ok (.aload_n 1, 1) := by decide +kernel
theorem dL_law_439 : decode cL_law 439 = .ok (.aload_n 2, 1) := by decide +kernel
theorem dL_law_440 : decode cL_law 440 = .ok (.aload_n 3, 1) := by decide +kernel
theorem dL_law_441 : decode cL_law 441 = .ok (.aload 5, 2) := by decide +kernel
theorem dL_law_443 : decode cL_law 443 = .ok (.iconst 1, 1) := by decide +kernel
theorem dL_law_444 : decode cL_law 444 = .ok (.iload 9, 2) := by decide +kernel
theorem dL_law_446 : decode cL_law 446 = .ok (.iconst 3, 1) := by decide +kernel
theorem dL_law_447 : decode cL_law 447 = .ok (.ishr, 1) := by decide +kernel
theorem dL_law_448 : decode cL_law 448 = .ok (.bipush 20, 2) := by decide +kernel
theorem dL_law_450 : decode cL_law 450 = .ok (.invokestatic 8, 3) := by decide +kernel
theorem dL_law_453 : decode cL_law 453 = .ok (.iadd, 1) := by decide +kernel
theorem dL_law_454 : decode cL_law 454 = .ok (.aload_n 0, 1) := by decide +kernel
theorem dL_law_455 : decode cL_law 455 = .ok (.bipush 26, 2) := by decide +kernel
theorem dL_law_457 : decode cL_law 457 = .ok (.iload 8, 2) := by decide +kernel
theorem dL_law_459 : decode cL_law 459 = .ok (.iconst 4, 1) := by decide +kernel
theorem dL_law_460 : decode cL_law 460 = .ok (.irem, 1) := by decide +kernel
theorem dL_law_461 : decode cL_law 461 = .ok (.iadd, 1) := by decide +kernel
theorem dL_law_462 : decode cL_law 462 = .ok (.invokestatic 73, 3) := by decide +kernel
theorem dL_law_465 : decode cL_law 465 = .ok (.ldc 107, 2) := by decide +kernel
theorem dL_law_467 : decode cL_law 467 = .ok (.iand, 1) := by decide +kernel
theorem dL_law_468 : decode cL_law 468 = .ok (.invokestatic 108, 3) := by decide +kernel
theorem dL_law_471 : decode cL_law 471 = .ok (.ifCond .ne 5, 3) := by decide +kernel
theorem dL_law_474 : decode cL_law 474 = .ok (.iconst 0, 1) := by decide +kernel
theorem dL_law_475 : decode cL_law 475 = .ok (.ireturn, 1) := by decide +kernel
theorem dL_law_476 : decode cL_law 476 = .ok (.aload_n 1, 1) := by decide +kernel
theorem dL_law_477 : decode cL_law 477 = .ok (.aload_n 2, 1) := by decide +kernel
theorem dL_law_478 : decode cL_law 478 = .ok (.aload_n 3, 1) := by decide +kernel
theorem dL_law_479 : decode cL_law 479 = .ok (.invokestatic 92, 3) := by decide +kernel
theorem dL_law_482 : decode cL_law 482 = .ok (.ifCond .ne 5, 3) := by decide +kernel
theorem dL_law_485 : decode cL_law 485 = .ok (.iconst 0, 1) := by decide +kernel
theorem dL_law_486 : decode cL_law 486 = .ok (.ireturn, 1) := by decide +kernel
theorem dL_law_487 : decode cL_law 487 = .ok (.iinc 8 1, 3) := by decide +kernel
theorem dL_law_490 : decode cL_law 490 = .ok (.goto (-309), 3) := by decide +kernel
theorem dL_law_493 : decode cL_law 493 = .ok (.iconst 1, 1) := by decide +kernel
theorem dL_law_494 : decode cL_law 494 = .ok (.aload_n 2, 1) := by decide +kernel
theorem dL_law_495 : decode cL_law 495 = .ok (.iconst 0, 1) := by decide +kernel
theorem dL_law_496 : decode cL_law 496 = .ok (.iaload, 1) := by decide +kernel
theorem dL_law_497 : decode cL_law 497 = .ok (.ishl, 1) := by decide +kernel
theorem dL_law_498 : decode cL_law 498 = .ok (.istore 8, 2) := by decide +kernel
theorem dL_law_500 : decode cL_law 500 = .ok (.aload_n 1, 1) := by decide +kernel
theorem dL_law_501 : decode cL_law 501 = .ok (.aload_n 2, 1) := by decide +kernel
theorem dL_law_502 : decode cL_law 502 = .ok (.aload_n 3, 1) := by decide +kernel
theorem dL_law_503 : decode cL_law 503 = .ok (.aload 5, 2) := by decide +kernel
theorem dL_law_505 : decode cL_law 505 = .ok (.bipush 20, 2) := by decide +kernel
theorem dL_law_507 : decode cL_law 507 = .ok (.iconst 0, 1) := by decide +kernel
theorem dL_law_508 : decode cL_law 508 = .ok (.invokestatic 108, 3) := by decide +kernel
theorem dL_law_511 : decode cL_law 511 = .ok (.ifCond .eq 310, 3) := by decide +kernel
theorem dL_law_514 : decode cL_law 514 = .ok (.aload_n 1, 1) := by decide +kernel
theorem dL_law_515 : decode cL_law 515 = .ok (.aload_n 2, 1) := by decide +kernel
theorem dL_law_516 : decode cL_law 516 = .ok (.aload_n 3, 1) := by decide +kernel
theorem dL_law_517 : decode cL_law 517 = .ok (.aload 5, 2) := by decide +kernel
theorem dL_law_519 : decode cL_law 519 = .ok (.iconst 1, 1) := by decide +kernel
theorem dL_law_520 : decode cL_law 520 = .ok (.ldc 107, 2) := by decide +kernel
theorem dL_law_522 : decode cL_law 522 = .ok (.invokestatic 108, 3) := by decide +kernel
theorem dL_law_525 : decode cL_law 525 = .ok (.ifCond .eq 296, 3) := by decide +kernel
theorem dL_law_528 : decode cL_law 528 = .ok (.aload_n 1, 1) := by decide +kernel
theorem dL_law_529 : decode cL_law 529 = .ok (.aload_n 2, 1) := by decide +kernel
theorem dL_law_530 : decode cL_law 530 = .ok (.iconst 0, 1) := by decide +kernel
theorem dL_law_531 : decode cL_law 531 = .ok (.iaload, 1) := by decide +kernel
theorem dL_law_532 : decode cL_law 532 = .ok (.iconst 0, 1) := by decide +kernel
theorem dL_law_533 : decode cL_law 533 = .ok (.invokevirtual 50, 3) := by decide +kernel
theorem dL_law_536 : decode cL_law 536 = .ok (.bipush (-101), 2) := by decide +kernel
theorem dL_law_538 : decode cL_law 538 = .ok (.if_icmp .ne 283, 3) := by decide +kernel
theorem dL_law_541 : decode cL_law 541 = .ok (.aload_n 1, 1) := by decide +kernel
theorem dL_law_542 : decode cL_law 542 = .ok (.iconst (-1), 1) := by decide +kernel
theorem dL_law_543 : decode cL_law 543 = .ok (.iconst 0, 1) := by decide +kernel
theorem dL_law_544 : decode cL_law 544 = .ok (.invokevirtual 50, 3) := by decide +kernel
theorem dL_law_547 : decode cL_law 547 = .ok (.bipush (-101), 2) := by decide +kernel
theorem dL_law_549 : decode cL_law 549 = .ok (.if_icmp .ne 272, 3) := by decide +kernel
theorem dL_law_552 : decode cL_law 552 = .ok (.aload_n 1, 1) := by decide +kernel
theorem dL_law_553 : decode cL_law 553 = .ok (.iconst 0, 1) := by decide +kernel
theorem dL_law_554 : decode cL_law 554 = .ok (.iconst 5, 1) := by decide +kernel
theorem dL_law_555 : decode cL_law 555 = .ok (.invokevirtual 50, 3) := by decide +kernel
theorem dL_law_558 : decode cL_law 558 = .ok (.bipush (-102), 2) := by decide +kernel
theorem dL_law_560 : decode cL_law 560 = .ok (.if_icmp .ne 261, 3) := by decide +kernel
theorem dL_law_563 : decode cL_law 563 = .ok (.aload_n 1, 1) := by decide +kernel
theorem dL_law_564 : decode cL_law 564 = .ok (.aload_n 2, 1) := by decide +kernel
theorem dL_law_565 : decode cL_law 565 = .ok (.iconst 0, 1) := by decide +kernel
theorem dL_law_566 : decode cL_law 566 = .ok (.iaload, 1) := by decide +kernel
theorem dL_law_567 : decode cL_law 567 = .ok (.iconst 0, 1) := by decide +kernel
theorem dL_law_568 : decode cL_law 568 = .ok (.invokevirtual 96, 3) := by decide +kernel
theorem dL_law_571 : decode cL_law 571 = .ok (.bipush (-101), 2) := by decide +kernel
theorem dL_law_573 : decode cL_law 573 = .ok (.if_icmp .ne 248, 3) := by decide +kernel
theorem dL_law_576 : decode cL_law 576 = .ok (.aload_n 1, 1) := by decide +kernel
theorem dL_law_577 : decode cL_law 577 = .ok (.iconst 0, 1) := by decide +kernel
theorem dL_law_578 : decode cL_law 578 = .ok (.iconst 5, 1) := by decide +kernel
theorem dL_law_579 : decode cL_law 579 = .ok (.invokevirtual 96, 3) := by decide +kernel
theorem dL_law_582 : decode cL_law 582 = .ok (.bipush (-102), 2) := by decide +kernel
theorem dL_law_584 : decode cL_law 584 = .ok (.if_icmp .ne 237, 3) := by decide +kernel
theorem dL_law_587 : decode cL_law 587 = .ok (.aload_n 1, 1) := by decide +kernel
theorem dL_law_588 : decode cL_law 588 = .ok (.iconst 0, 1) := by decide +kernel
theorem dL_law_589 : decode cL_law 589 = .ok (.iconst 0, 1) := by decide +kernel
theorem dL_law_590 : decode cL_law 590 = .ok (.invokevirtual 53, 3) := by decide +kernel
theorem dL_law_593 : decode cL_law 593 = .ok (.bipush (-101), 2) := by decide +kernel
theorem dL_law_595 : decode cL_law 595 = .ok (.if_icmp .ne 226, 3) := by decide +kernel
theorem dL_law_598 : decode cL_law 598 = .ok (.aload_n 1, 1) := by decide +kernel
theorem dL_law_599 : decode cL_law 599 = .ok (.bipush 6, 2) := by decide +kernel
theorem dL_law_601 : decode cL_law 601 = .ok (.iconst 0, 1) := by decide +kernel
theorem dL_law_602 : decode cL_law 602 = .ok (.invokevirtual 53, 3) := by decide +kernel
theorem dL_law_605 : decode cL_law 605 = .ok (.bipush (-101), 2) := by decide +kernel
theorem dL_law_607 : decode cL_law 607 = .ok (.if_icmp .ne 214, 3) := by decide +kernel
theorem dL_law_610 : decode cL_law 610 = .ok (.aload_n 1, 1) := by decide +kernel
theorem dL_law_611 : decode cL_law 611 = .ok (.iconst 1, 1) := by decide +kernel
theorem dL_law_612 : decode cL_law 612 = .ok (.iconst 3, 1) := by decide +kernel
theorem dL_law_613 : decode cL_law 613 = .ok (.invokevirtual 53, 3) := by decide +kernel
theorem dL_law_616 : decode cL_law 616 = .ok (.bipush (-102), 2) := by decide +kernel
theorem dL_law_618 : decode cL_law 618 = .ok (.if_icmp .ne 203, 3) := by decide +kernel
theorem dL_law_621 : decode cL_law 621 = .ok (.aload_n 1, 1) := by decide +kernel
theorem dL_law_622 : decode cL_law 622 = .ok (.iconst 0, 1) := by decide +kernel
theorem dL_law_623 : decode cL_law 623 = .ok (.iconst 0, 1) := by decide +kernel
theorem dL_law_624 : decode cL_law 624 = .ok (.invokevirtual 66, 3) := by decide +kernel
theorem dL_law_627 : decode cL_law 627 = .ok (.bipush (-101), 2) := by decide +kernel
theorem dL_law_629 : decode cL_law 629 = .ok (.if_icmp .ne 192, 3) := by decide +kernel
theorem dL_law_632 : decode cL_law 632 = .ok (.aload_n 1, 1) := by decide +kernel
theorem dL_law_633 : decode cL_law 633 = .ok (.bipush 6, 2) := by decide +kernel
theorem dL_law_635 : decode cL_law 635 = .ok (.iconst 0, 1) := by decide +kernel
theorem dL_law_636 : decode cL_law 636 = .ok (.invokevirtual 66, 3) := by decide +kernel
theorem dL_law_639 : decode cL_law 639 = .ok (.bipush (-101), 2) := by decide +kernel
theorem dL_law_641 : decode cL_law 641 = .ok (.if_icmp .ne 180, 3) := by decide +kernel
theorem dL_law_644 : decode cL_law 644 = .ok (.aload_n 1, 1) := by decide +kernel
theorem dL_law_645 : decode cL_law 645 = .ok (.iconst 1, 1) := by decide +kernel
theorem dL_law_646 : decode cL_law 646 = .ok (.bipush 10, 2) := by decide +kernel
theorem dL_law_648 : decode cL_law 648 = .ok (.invokevirtual 66, 3) := by decide +kernel
theorem dL_law_651 : decode cL_law 651 = .ok (.bipush (-102), 2) := by decide +kernel
theorem dL_law_653 : decode cL_law 653 = .ok (.if_icmp .ne 168, 3) := by decide +kernel
theorem dL_law_656 : decode cL_law 656 = .ok (.aload_n 1, 1) := by decide +kernel
theorem dL_law_657 : decode cL_law 657 = .ok (.iconst 1, 1) := by decide +kernel
theorem dL_law_658 : decode cL_law 658 = .ok (.iconst (-1), 1) := by decide +kernel
theorem dL_law_659 : decode cL_law 659 = .ok (.invokevirtual 66, 3) := by decide +kernel
theorem dL_law_662 : decode cL_law 662 = .ok (.bipush (-102), 2) := by decide +kernel
theorem dL_law_664 : decode cL_law 664 = .ok (.if_icmp .ne 157, 3) := by decide +kernel
theorem dL_law_667 : decode cL_law 667 = .ok (.aload_n 1, 1) := by decide +kernel
theorem dL_law_668 : decode cL_law 668 = .ok (.iconst 0, 1) := by decide +kernel
theorem dL_law_669 : decode cL_law 669 = .ok (.iconst 1, 1) := by decide +kernel
theorem dL_law_670 : decode cL_law 670 = .ok (.iconst 0, 1) := by decide +kernel
theorem dL_law_671 : decode cL_law 671 = .ok (.invokevirtual 69, 3) := by decide +kernel
theorem dL_law_674 : decode cL_law 674 = .ok (.bipush (-102), 2) := by decide +kernel
theorem dL_law_676 : decode cL_law 676 = .ok (.if_icmp .ne 145, 3) := by decide +kernel
theorem dL_law_679 : decode cL_law 679 = .ok (.aload_n 1, 1) := by decide +kernel
theorem dL_law_680 : decode cL_law 680 = .ok (.iload 8, 2) := by decide +kernel
theorem dL_law_682 : decode cL_law 682 = .ok (.iconst 1, 1) := by decide +kernel
theorem dL_law_683 : decode cL_law 683 = .ok (.iconst 0, 1) := by decide +kernel
theorem dL_law_684 : decode cL_law 684 = .ok (.invokevirtual 69, 3) := by decide +kernel
theorem dL_law_687 : decode cL_law 687 = .ok (.bipush (-102), 2) := by decide +kernel
theorem dL_law_689 : decode cL_law 689 = .ok (.if_icmp .ne 132, 3) := by decide +kernel
theorem dL_law_692 : decode cL_law 692 = .ok (.aload_n 1, 1) := by decide +kernel
theorem dL_law_693 : decode cL_law 693 = .ok (.iconst 1, 1) := by decide +kernel
theorem dL_law_694 : decode cL_law 694 = .ok (.iconst 0, 1) := by decide +kernel
theorem dL_law_695 : decode cL_law 695 = .ok (.iconst 0, 1) := by decide +kernel
theorem dL_law_696 : decode cL_law 696 = .ok (.invokevirtual 69, 3) := by decide +kernel
theorem dL_law_699 : decode cL_law 699 = .ok (.bipush (-102), 2) := by decide +kernel
theorem dL_law_701 : decode cL_law 701 = .ok (.if_icmp .ne 120, 3) := by decide +kernel
theorem dL_law_704 : decode cL_law 704 = .ok (.aload_n 1, 1) := by decide +kernel
theorem dL_law_705 : decode cL_law 705 = .ok (.iconst 1, 1) := by decide +kernel
theorem dL_law_706 : decode cL_law 706 = .ok (.bipush 7, 2) := by decide +kernel
theorem dL_law_708 : decode cL_law 708 = .ok (.iconst 0, 1) := by decide +kernel
theorem dL_law_709 : decode cL_law 709 = .ok (.invokevirtual 69, 3) := by decide +kernel
theorem dL_law_712 : decode cL_law 712 = .ok (.bipush (-102), 2) := by decide +kernel
theorem dL_law_714 : decode cL_law 714 = .ok (.if_icmp .ne 107, 3) := by decide +kernel
theorem dL_law_717 : decode cL_law 717 = .ok (.aload_n 1, 1) := by decide +kernel
theorem dL_law_718 : decode cL_law 718 = .ok (.iconst 1, 1) := by decide +kernel
theorem dL_law_719 : decode cL_law 719 = .ok (.iconst 1, 1) := by decide +kernel
theorem dL_law_720 : decode cL_law 720 = .ok (.bipush 41, 2) := by decide +kernel
theorem dL_law_722 : decode cL_law 722 = .ok (.invokevirtual 69, 3) := by decide +kernel
theorem dL_law_725 : decode cL_law 725 = .ok (.bipush (-102), 2) := by decide +kernel
theorem dL_law_727 : decode cL_law 727 = .ok (.if_icmp .ne 94, 3) := by decide +kernel
theorem dL_law_730 : decode cL_law 730 = .ok (.aload_n 1, 1) := by decide +kernel
theorem dL_law_731 : decode cL_law 731 = .ok (.iconst 1, 1) := by decide +kernel
theorem dL_law_732 : decode cL_law 732 = .ok (.iconst 1, 1) := by decide +kernel
theorem dL_law_733 : decode cL_law 733 = .ok (.iconst (-1), 1) := by decide +kernel
theorem dL_law_734 : decode cL_law 734 = .ok (.invokevirtual 69, 3) := by decide +kernel
theorem dL_law_737 : decode cL_law 737 = .ok (.bipush (-102), 2) := by decide +kernel
theorem dL_law_739 : decode cL_law 739 = .ok (.if_icmp .ne 82, 3) := by decide +kernel
theorem dL_law_742 : decode cL_law 742 = .ok (.aload_n 1, 1) := by decide +kernel
theorem dL_law_743 : decode cL_law 743 = .ok (.iconst 0, 1) := by decide +kernel
theorem dL_law_744 : decode cL_law 744 = .ok (.iconst 1, 1) := by decide +kernel
theorem dL_law_745 : decode cL_law 745 = .ok (.iconst 0, 1) := by decide +kernel
theorem dL_law_746 : decode cL_law 746 = .ok (.iconst 0, 1) := by decide +kernel
theorem dL_law_747 : decode cL_law 747 = .ok (.invokevirtual 103, 3) := by decide +kernel
theorem dL_law_750 : decode cL_law 750 = .ok (.bipush (-102), 2) := by decide +kernel
theorem dL_law_752 : decode cL_law 752 = .ok (.if_icmp .ne 69, 3) := by decide +kernel
theorem dL_law_755 : decode cL_law 755 = .ok (.aload_n 1, 1) := by decide +kernel
theorem dL_law_756 : decode cL_law 756 = .ok (.iconst 1, 1) := by decide +kernel
theorem dL_law_757 : decode cL_law 757 = .ok (.iconst 1, 1) := by decide +kernel
theorem dL_law_758 : decode cL_law 758 = .ok (.iconst 0, 1) := by decide +kernel
theorem dL_law_759 : decode cL_law 759 = .ok (.iconst 4, 1) := by decide +kernel
theorem dL_law_760 : decode cL_law 760 = .ok (.invokevirtual 103, 3) := by decide +kernel
theorem dL_law_763 : decode cL_law 763 = .ok (.bipush (-102), 2) := by decide +kernel
theorem dL_law_765 : decode cL_law 765 = .ok (.if_icmp .ne 56, 3) := by decide +kernel
theorem dL_law_768 : decode cL_law 768 = .ok (.aload_n 1, 1) := by decide +kernel
theorem dL_law_769 : decode cL_law 769 = .ok (.iconst 0, 1) := by decide +kernel
theorem dL_law_770 : decode cL_law 770 = .ok (.iconst 0, 1) := by decide +kernel
theorem dL_law_771 : decode cL_law 771 = .ok (.iconst 0, 1) := by decide +kernel
theorem dL_law_772 : decode cL_law 772 = .ok (.invokevirtual 112, 3) := by decide +kernel
theorem dL_law_775 : decode cL_law 775 = .ok (.bipush (-102), 2) := by decide +kernel
theorem dL_law_777 : decode cL_law 777 = .ok (.if_icmp .ne 44, 3) := by decide +kernel
theorem dL_law_780 : decode cL_law 780 = .ok (.aload_n 1, 1) := by decide +kernel
theorem dL_law_781 : decode cL_law 781 = .ok (.bipush 21, 2) := by decide +kernel
theorem dL_law_783 : decode cL_law 783 = .ok (.iconst 0, 1) := by decide +kernel
theorem dL_law_784 : decode cL_law 784 = .ok (.iconst 0, 1) := by decide +kernel
theorem dL_law_785 : decode cL_law 785 = .ok (.invokevirtual 112, 3) := by decide +kernel
theorem dL_law_788 : decode cL_law 788 = .ok (.bipush (-102), 2) := by decide +kernel
theorem dL_law_790 : decode cL_law 790 = .ok (.if_icmp .ne 31, 3) := by decide +kernel
theorem dL_law_793 : decode cL_law 793 = .ok (.aload_n 1, 1) := by decide +kernel
theorem dL_law_794 : decode cL_law 794 = .ok (.iconst 1, 1) := by decide +kernel
theorem dL_law_795 : decode cL_law 795 = .ok (.iconst (-1), 1) := by decide +kernel
theorem dL_law_796 : decode cL_law 796 = .ok (.iconst 0, 1) := by decide +kernel
theorem dL_law_797 : decode cL_law 797 = .ok (.invokevirtual 112, 3) := by decide +kernel
theorem dL_law_800 : decode cL_law 800 = .ok (.bipush (-102), 2) := by decide +kernel
theorem dL_law_802 : decode cL_law 802 = .ok (.if_icmp .ne 19, 3) := by decide +kernel
theorem dL_law_805 : decode cL_law 805 = .ok (.aload_n 1, 1) := by decide +kernel
theorem dL_law_806 : decode cL_law 806 = .ok (.iconst 1, 1) := by decide +kernel
theorem dL_law_807 : decode cL_law 807 = .ok (.iconst 0, 1) := by decide +kernel
theorem dL_law_808 : decode cL_law 808 = .ok (.iconst 3, 1) := by decide +kernel
theorem dL_law_809 : decode cL_law 809 = .ok (.invokevirtual 112, 3) := by decide +kernel
theorem dL_law_812 : decode cL_law 812 = .ok (.bipush (-102), 2) := by decide +kernel
theorem dL_law_814 : decode cL_law 814 = .ok (.if_icmp .ne 7, 3) := by decide +kernel
theorem dL_law_817 : decode cL_law 817 = .ok (.iconst 1, 1) := by decide +kernel
theorem dL_law_818 : decode cL_law 818 = .ok (.goto 4, 3) := by decide +kernel
theorem dL_law_821 : decode cL_law 821 = .ok (.iconst 0, 1) := by decide +kernel
theorem dL_law_822 : decode cL_law 822 = .ok (.ireturn, 1) := by decide +kernel
theorem dL_winters_0 : decode cL_winters 0 = .ok (.bipush 9, 2) := by decide +kernel
theorem dL_winters_2 : decode cL_winters 2 = .ok (.newarray .int, 2) := by decide +kernel
theorem dL_winters_4 : decode cL_winters 4 = .ok (.astore 6, 2) := by decide +kernel
theorem dL_winters_6 : decode cL_winters 6 = .ok (.bipush 9, 2) := by decide +kernel
theorem dL_winters_8 : decode cL_winters 8 = .ok (.newarray .int, 2) := by decide +kernel
theorem dL_winters_10 : decode cL_winters 10 = .ok (.astore 7, 2) := by decide +kernel
theorem dL_winters_12 : decode cL_winters 12 = .ok (.aload 6, 2) := by decide +kernel
theorem dL_winters_14 : decode cL_winters 14 = .ok (.aload_n 2, 1) := by decide +kernel
theorem dL_winters_15 : decode cL_winters 15 = .ok (.invokestatic 34, 3) := by decide +kernel
theorem dL_winters_18 : decode cL_winters 18 = .ok (.iload 5, 2) := by decide +kernel
theorem dL_winters_20 : decode cL_winters 20 = .ok (.i2l, 1) := by decide +kernel
theorem dL_winters_21 : decode cL_winters 21 = .ok (.lstore 8, 2) := by decide +kernel
theorem dL_winters_23 : decode cL_winters 23 = .ok (.iconst 0, 1) := by decide +kernel
theorem dL_winters_24 : decode cL_winters 24 = .ok (.istore 10, 2) := by decide +kernel
theorem dL_winters_26 : decode cL_winters 26 = .ok (.iload 10, 2) := by decide +kernel
theorem dL_winters_28 : decode cL_winters 28 = .ok (.iload 4, 2) := by decide +kernel
theorem dL_winters_30 : decode cL_winters 30 = .ok (.if_icmp .ge 74, 3) := by decide +kernel
theorem dL_winters_33 : decode cL_winters 33 = .ok (.iconst 1, 1) := by decide +kernel
theorem dL_winters_34 : decode cL_winters 34 = .ok (.istore 11, 2) := by decide +kernel
theorem dL_winters_36 : decode cL_winters 36 = .ok (.iload 11, 2) := by decide +kernel
theorem dL_winters_38 : decode cL_winters 38 = .ok (.bipush 6, 2) := by decide +kernel
theorem dL_winters_40 : decode cL_winters 40 = .ok (.if_icmp .ge 58, 3) := by decide +kernel
theorem dL_winters_43 : decode cL_winters 43 = .ok (.lload 8, 2) := by decide +kernel
theorem dL_winters_45 : decode cL_winters 45 = .ok (.ldc2_w 114, 3) := by decide +kernel
theorem dL_winters_48 : decode cL_winters 48 = .ok (.lmul, 1) := by decide +kernel
theorem dL_winters_49 : decode cL_winters 49 = .ok (.ldc2_w 116, 3) := by decide +kernel
theorem dL_winters_52 : decode cL_winters 52 = .ok (.ladd, 1) := by decide +kernel
theorem dL_winters_53 : decode cL_winters 53 = .ok (.ldc2_w 118, 3) := by decide +kernel
theorem dL_winters_56 : decode cL_winters 56 = .ok (.lrem, 1) := by decide +kernel
theorem dL_winters_57 : decode cL_winters 57 = .ok (.lstore 8, 2) := by decide +kernel
theorem dL_winters_59 : decode cL_winters 59 = .ok (.aload 6, 2) := by decide +kernel
theorem dL_winters_61 : decode cL_winters 61 = .ok (.iload 11, 2) := by decide +kernel
theorem dL_winters_63 : decode cL_winters 63 = .ok (.dup2, 1) := by decide +kernel
theorem dL_winters_64 : decode cL_winters 64 = .ok (.iaload, 1) := by decide +kernel
theorem dL_winters_65 : decode cL_winters 65 = .ok (.lload 8, 2) := by decide +kernel
theorem dL_winters_67 : decode cL_winters 67 = .ok (.ldc2_w 120, 3) := by decide +kernel
theorem dL_winters_70 : decode cL_winters 70 = .ok (.ldiv, 1) := by decide +kernel
theorem dL_winters_71 : decode cL_winters 71 = .ok (.ldc2_w 122, 3) := by decide +kernel
theorem dL_winters_74 : decode cL_winters 74 = .ok (.lrem, 1) := by decide +kernel
theorem dL_winters_75 : decode cL_winters 75 = .ok (.l2i, 1) := by decide +kernel
theorem dL_winters_76 : decode cL_winters 76 = .ok (.isub, 1) := by decide +kernel
theorem dL_winters_77 : decode cL_winters 77 = .ok (.iastore, 1) := by decide +kernel
theorem dL_winters_78 : decode cL_winters 78 = .ok (.aload 6, 2) := by decide +kernel
theorem dL_winters_80 : decode cL_winters 80 = .ok (.iload 11, 2) := by decide +kernel
theorem dL_winters_82 : decode cL_winters 82 = .ok (.iaload, 1) := by decide +kernel
theorem dL_winters_83 : decode cL_winters 83 = .ok (.ifCond .ge 9, 3) := by decide +kernel
theorem dL_winters_86 : decode cL_winters 86 = .ok (.aload 6, 2) := by decide +kernel
theorem dL_winters_88 : decode cL_winters 88 = .ok (.iload 11, 2) := by decide +kernel
theorem dL_winters_90 : decode cL_winters 90 = .ok (.iconst 0, 1) := by decide +kernel
theorem dL_winters_91 : decode cL_winters 91 = .ok (.iastore, 1) := by decide +kernel
theorem dL_winters_92 : decode cL_winters 92 = .ok (.iinc 11 1, 3) := by decide +kernel
theorem dL_winters_95 : decode cL_winters 95 = .ok (.goto (-59), 3) := by decide +kernel
theorem dL_winters_98 : decode cL_winters 98 = .ok (.iinc 10 1, 3) := by decide +kernel
theorem dL_winters_101 : decode cL_winters 101 = .ok (.goto (-75), 3) := by decide +kernel
theorem dL_winters_104 : decode cL_winters 104 = .ok (.aload_n 0, 1) := by decide +kernel
theorem dL_winters_105 : decode cL_winters 105 = .ok (.iload 4, 2) := by decide +kernel
theorem dL_winters_107 : decode cL_winters 107 = .ok (.iload 5, 2) := by decide +kernel
theorem dL_winters_109 : decode cL_winters 109 = .ok (.iconst 0, 1) := by decide +kernel
theorem dL_winters_110 : decode cL_winters 110 = .ok (.invokevirtual 112, 3) := by decide +kernel
theorem dL_winters_113 : decode cL_winters 113 = .ok (.aload 6, 2) := by decide +kernel
theorem dL_winters_115 : decode cL_winters 115 = .ok (.invokestatic 62, 3) := by decide +kernel
theorem dL_winters_118 : decode cL_winters 118 = .ok (.if_icmp .ne 61, 3) := by decide +kernel
theorem dL_winters_121 : decode cL_winters 121 = .ok (.aload_n 0, 1) := by decide +kernel
theorem dL_winters_122 : decode cL_winters 122 = .ok (.iload 4, 2) := by decide +kernel
theorem dL_winters_124 : decode cL_winters 124 = .ok (.iload 5, 2) := by decide +kernel
theorem dL_winters_126 : decode cL_winters 126 = .ok (.iconst 1, 1) := by decide +kernel
theorem dL_winters_127 : decode cL_winters 127 = .ok (.invokevirtual 112, 3) := by decide +kernel
theorem dL_winters_130 : decode cL_winters 130 = .ok (.aload 6, 2) := by decide +kernel
theorem dL_winters_132 : decode cL_winters 132 = .ok (.bipush 6, 2) := by decide +kernel
theorem dL_winters_134 : decode cL_winters 134 = .ok (.iaload, 1) := by decide +kernel
theorem dL_winters_135 : decode cL_winters 135 = .ok (.ifCond .ne 7, 3) := by decide +kernel
theorem dL_winters_138 : decode cL_winters 138 = .ok (.iconst 0, 1) := by decide +kernel
theorem dL_winters_139 : decode cL_winters 139 = .ok (.goto 17, 3) := by decide +kernel
theorem dL_winters_142 : decode cL_winters 142 = .ok (.aload_n 1, 1) := by decide +kernel
theorem dL_winters_143 : decode cL_winters 143 = .ok (.aload 6, 2) := by decide +kernel
theorem dL_winters_145 : decode cL_winters 145 = .ok (.aload 7, 2) := by decide +kernel
theorem dL_winters_147 : decode cL_winters 147 = .ok (.aload_n 3, 1) := by decide +kernel
theorem dL_winters_148 : decode cL_winters 148 = .ok (.aload 6, 2) := by decide +kernel
theorem dL_winters_150 : decode cL_winters 150 = .ok (.bipush 6, 2) := by decide +kernel
theorem dL_winters_152 : decode cL_winters 152 = .ok (.iaload, 1) := by decide +kernel
theorem dL_winters_153 : decode cL_winters 153 = .ok (.invokestatic 124, 3) := by decide +kernel
theorem dL_winters_156 : decode cL_winters 156 = .ok (.if_icmp .ne 23, 3) := by decide +kernel
theorem dL_winters_159 : decode cL_winters 159 = .ok (.aload_n 0, 1) := by decide +kernel
theorem dL_winters_160 : decode cL_winters 160 = .ok (.iload 4, 2) := by decide +kernel
theorem dL_winters_162 : decode cL_winters 162 = .ok (.iload 5, 2) := by decide +kernel
theorem dL_winters_164 : decode cL_winters 164 = .ok (.iconst 2, 1) := by decide +kernel
theorem dL_winters_165 : decode cL_winters 165 = .ok (.invokevirtual 112, 3) := by decide +kernel
theorem dL_winters_168 : decode cL_winters 168 = .ok (.i2l, 1) := by decide +kernel
theorem dL_winters_169 : decode cL_winters 169 = .ok (.lload 8, 2) := by decide +kernel
theorem dL_winters_171 : decode cL_winters 171 = .ok (.lcmp, 1) := by decide +kernel
theorem dL_winters_172 : decode cL_winters 172 = .ok (.ifCond .ne 7, 3) := by decide +kernel
theorem dL_winters_175 : decode cL_winters 175 = .ok (.iconst 1, 1) := by decide +kernel
theorem dL_winters_176 : decode cL_winters 176 = .ok (.goto 4, 3) := by decide +kernel
theorem dL_winters_179 : decode cL_winters 179 = .ok (.iconst 0, 1) := by decide +kernel
theorem dL_winters_180 : decode cL_winters 180 = .ok (.ireturn, 1) := by decide +kernel
end
section
/-! THE Z LAYER: a method's walk over its world alone (heap, written places and locals' array are hidden) -/
theorem nest_forms {w : Cond} (h : nestWord w = true) : (∃ a i b n d t, w = .fieldLinkNest a i b n d t) ∨ (∃ a i x t, w = .methodLinkNest a i x t) := by
  cases w <;> first | exact Or.inl ⟨_, _, _, _, _, _, rfl⟩ | exact Or.inr ⟨_, _, _, _, rfl⟩ | exact absurd h (by simp [nestWord])
def NN (U : State) : Prop := ∀ w ∈ NB, va_Nw w U
theorem NN.vm {u U : State} (h : u.vm = U.vm) (hn : NN u) : NN U := fun w hw => by
  rcases nest_forms (List.mem_filter.mp hw).2 with ⟨a, i, b, n, d, t, rfl⟩ | ⟨a, i, x, t, rfl⟩
  · exact va_Nw.same rfl h (hn _ hw)
  · exact va_Nw.same rfl h (hn _ hw)
theorem NN.warm {s U : State} (hW : s.WarmedH U.vm) (hn : NN s) : NN U := fun w hw => by
  rcases nest_forms (List.mem_filter.mp hw).2 with ⟨a, i, b, n, d, t, rfl⟩ | ⟨a, i, x, t, rfl⟩
  · exact va_Nw.warmF hW (hn _ hw)
  · exact va_Nw.warmM hW (hn _ hw)
def pullsV : Nat → Int32 := fun k => match k with | 0 => 4 | 1 => 8 | 2 => 2 | 3 => 2 | _ => 3
def eatsV : Nat → Int32 := fun k => match k with | 1 => 2 | _ => 1
def feedsV : Nat → Int32 := fun k => match k with | 1 => 6 | 2 => 2 | 4 => 3 | _ => 0
def ST (tt : Nat × Nat × Nat) (A : Nat → Prop) (U : State) (H : Heap) : Prop :=
  (va_Z RX3 "PULLS" "[I" (.ref tt.1) A U H ∧ va_T .int tt.1 5 (fun j => .int (pullsV j)) A U H) ∧
  (va_Z RX3 "EATS" "[I" (.ref tt.2.1) A U H ∧ va_T .int tt.2.1 5 (fun j => .int (eatsV j)) A U H) ∧
  (va_Z RX3 "FEEDS" "[I" (.ref tt.2.2) A U H ∧ va_T .int tt.2.2 5 (fun j => .int (feedsV j)) A U H)
theorem ST.moved {tt : Nat × Nat × Nat} {A : Nat → Prop} {u U : State} {H : Heap} (hvm : u.vm.Alike U.vm) (h : ST tt A u H) : ST tt A U H :=
  ⟨⟨va_Z.moved hvm h.1.1, va_T.moved hvm h.1.2⟩, ⟨va_Z.moved hvm h.2.1.1, va_T.moved hvm h.2.1.2⟩, va_Z.moved hvm h.2.2.1, va_T.moved hvm h.2.2.2⟩
theorem ST.kept {tt : Nat × Nat × Nat} {A : Nat → Prop} {U : State} {H H1 : Heap} (h : ST tt A U H) (hq : ∀ a : Nat, a < H.size → ¬ A a → H1[a]? = H[a]?) : ST tt A U H1 :=
  ⟨⟨h.1.1.kept hq, h.1.2.kept hq⟩, ⟨h.2.1.1.kept hq, h.2.1.2.kept hq⟩, h.2.2.1.kept hq, h.2.2.2.kept hq⟩
theorem ST.narrow {tt : Nat × Nat × Nat} {A B : Nat → Prop} {U : State} {H : Heap} (h : ST tt A U H) (hAB : ∀ q, B q → A q) : ST tt B U H :=
  ⟨⟨h.1.1.narrow hAB, h.1.2.narrow hAB⟩, ⟨h.2.1.1.narrow hAB, h.2.1.2.narrow hAB⟩, h.2.2.1.narrow hAB, h.2.2.2.narrow hAB⟩
/-- what a method is told at its start: its world ws, and nothing else -/
def Pre (D : va_G) (cI : ClassId) (tt : Nat × Nat × Nat) (ws : va_W) (sz : Nat) (U : State) : Prop :=
  U.heap.size = sz ∧ va_P D vwCl ws U.heap ∧ va_D (fun _ => True) ws ∧ va_K D vwCl [(cI, .int)] U ∧ NN U ∧ ST tt (va_A ws sz) U U.heap
def rm (F L : Nat) : Room := { frames := F, cells := 0, slots := 0, locals := L }
/-- contracts: the method returns an int, a long, nothing; 'post' says what of the answer and of the u of the world 'wf u' behind it -/
abbrev MetI {S : Type} (l : Launch) (y : MethodName) (cc : ByteArray) (n : Nat) (rt : Option FieldType) (R : Room) (D : va_G) (cI : ClassId) (tt : Nat × Nat × Nat) (av : List Value) (ws : va_W) (post : Int32 → S → Prop) (wf : S → va_W) : Prop :=
  ∀ sz : Nat, Met l y (.code y cc n rt :: TB) R (va_Pc av (Pre D cI tt ws sz)) (va_Qi post (fun u t => va_P D vwCl (wf u) t.heap) (va_A ws sz)) 0 0 (va_A ws sz)
abbrev MetL {S : Type} (l : Launch) (y : MethodName) (cc : ByteArray) (n : Nat) (rt : Option FieldType) (R : Room) (D : va_G) (cI : ClassId) (tt : Nat × Nat × Nat) (av : List Value) (ws : va_W) (post : Int64 → S → Prop) (wf : S → va_W) : Prop :=
  ∀ sz : Nat, Met l y (.code y cc n rt :: TB) R (va_Pc av (Pre D cI tt ws sz)) (va_Ql post (fun u t => va_P D vwCl (wf u) t.heap) (va_A ws sz)) 0 0 (va_A ws sz)
abbrev MetV {S : Type} (l : Launch) (y : MethodName) (cc : ByteArray) (n : Nat) (rt : Option FieldType) (R : Room) (D : va_G) (cI : ClassId) (tt : Nat × Nat × Nat) (av : List Value) (ws : va_W) (post : S → Prop) (wf : S → va_W) : Prop :=
  ∀ sz : Nat, Met l y (.code y cc n rt :: TB) R (va_Pc av (Pre D cI tt ws sz)) (va_Qv post (fun u t => va_P D vwCl (wf u) t.heap) (va_A ws sz)) 0 0 (va_A ws sz)
/-- what holds all through a method's body -/
def Cx (p : Program) (s : State) (m : MethodId) (args : Array Value) (meth : Method) (c : Code) (own : String) (cc : ByteArray) (n : Nat) (rt : Option FieldType) (D : va_G) (cI : ClassId) (tt : Nat × Nat × Nat) (A : Nat → Prop) : Prop :=
  p.tables.exec = Jvm.exec ∧ c.code = cc ∧ c.maxLocals = n ∧ s.vm.findClass own = some m.cls ∧ (∀ w ∈ TB, w.before args s = true) ∧ va_K D vwCl [(cI, .int)] s ∧ NN s ∧ ST tt A s s.heap ∧ meth.sig.returnType = rt ∧ meth.locks = false ∧ (∀ q : Nat, s.heap.size ≤ q → A q)
def Z (p : Program) (l : Launch) (e : Env) (R : Room) (s : State) (m : MethodId) (args : Array Value) (below : List Frame) (meth : Method) (c : Code) (D : va_G) (A : Nat → Prop) (n ce sl : Nat) (Q : State → Prop) (pc : Nat) (lv : List (Nat × Value)) (st : List Value) (ws : va_W) : Prop :=
  ∀ (H : Heap) (locs : List Loc) (ls : Array Slot), va_P D vwCl ws H → va_D A ws → va_S A s.heap H locs → lv_has ls n lv → W p l e R s m args below meth c H locs ce sl Q (F0 m pc ls st)
/-- a local's value, by its number -/
def lk : List (Nat × Value) → Nat → Option Value
  | [], _ => none
  | q :: t, i => if q.1 = i then some q.2 else lk t i
theorem lk_mem : ∀ {lv : List (Nat × Value)} {i : Nat} {v : Value}, lk lv i = some v → (i, v) ∈ lv
  | [], _, _, h => by cases h
  | q :: t, i, v, h => by
    unfold lk at h
    by_cases e : q.1 = i
    · rw [if_pos e] at h
      cases h
      subst e
      exact List.mem_cons_self
    · rw [if_neg e] at h
      exact List.mem_cons_of_mem _ (lk_mem h)
theorem lk_at {ls : Array Slot} {n : Nat} {lv : List (Nat × Value)} {i : Nat} {v : Value} (h : lv_has ls n lv) (hl : lk lv i = some v) : ls[i]? = some (.val v) := h.2.2 (i, v) (lk_mem hl)
/-- fewer locals, in another order: checked by lookup -/
def lsub (lv : List (Nat × Value)) : List (Nat × Value) → Prop
  | [] => True
  | q :: t => lk lv q.1 = some q.2 ∧ lsub lv t
theorem lsub_has {ls : Array Slot} {n : Nat} {lv : List (Nat × Value)} (h : lv_has ls n lv) : ∀ {lv' : List (Nat × Value)}, lsub lv lv' → lv_has ls n lv'
  | [], _ => ⟨h.1, h.2.1, fun q hq => by cases hq⟩
  | q :: t, hs => ⟨h.1, h.2.1, fun q' hq => by
      rcases List.mem_cons.mp hq with rfl | hq
      · exact lk_at h hs.1
      · exact (lsub_has h hs.2).2.2 q' hq⟩
/-- a store keeps the list's order; the list's other locals are not its neighbours' halves -/
def sto (i : Nat) (v : Value) : List (Nat × Value) → List (Nat × Value)
  | [] => [(i, v)]
  | q :: t => if q.1 = i then (i, v) :: t else q :: sto i v t
def sok1 (i : Nat) (lv : List (Nat × Value)) : Bool := lv.all (fun q => !(q.1 + 1 == i && q.2.category == 2))
def sok2 (i : Nat) (lv : List (Nat × Value)) : Bool := lv.all (fun q => !(q.1 == i + 1) && !(q.1 + 1 == i && q.2.category == 2))
def nodup (lv : List (Nat × Value)) : Bool := match lv with | [] => true | q :: t => t.all (fun r => !(r.1 == q.1)) && nodup t
theorem sto_mem (i : Nat) (v : Value) : ∀ (lv : List (Nat × Value)), nodup lv = true → ∀ q ∈ sto i v lv, q = (i, v) ∨ (q ∈ lv ∧ q.1 ≠ i)
  | [], _, q, h => Or.inl (by simpa [sto] using h)
  | r :: t, hn, q, h => by
    have hn' : t.all (fun x => !(x.1 == r.1)) = true ∧ nodup t = true := by simpa [nodup] using hn
    unfold sto at h
    by_cases e : r.1 = i
    · rw [if_pos e] at h
      rcases List.mem_cons.mp h with h | h
      · exact Or.inl h
      · refine Or.inr ⟨List.mem_cons_of_mem _ h, fun e2 => ?_⟩
        have h3 := List.all_eq_true.mp hn'.1 q h
        simp [e2, e] at h3
    · rw [if_neg e] at h
      rcases List.mem_cons.mp h with rfl | h
      · exact Or.inr ⟨List.mem_cons_self, e⟩
      · rcases sto_mem i v t hn'.2 q h with h | ⟨h1, h2⟩
        · exact Or.inl h
        · exact Or.inr ⟨List.mem_cons_of_mem _ h1, h2⟩
theorem sto_has1 {ls : Array Slot} {n i : Nat} {v : Value} {lv : List (Nat × Value)} (hn : nodup lv = true) (ho : sok1 i lv = true) (h : lv_has ls n ((i, v) :: lv.filter (fun q => !(q.1 == i) && !(q.1 + 1 == i && q.2.category == 2)))) : lv_has ls n (sto i v lv) := by
  refine ⟨h.1, h.2.1, fun q hq => h.2.2 q ?_⟩
  rcases sto_mem i v lv hn q hq with rfl | ⟨h1, h2⟩
  · exact List.mem_cons_self
  · refine List.mem_cons_of_mem _ (List.mem_filter.mpr ⟨h1, ?_⟩)
    have h3 := List.all_eq_true.mp ho q h1
    have h4 : (!(q.1 == i)) = true := by simp [h2]
    rw [h4, Bool.true_and]
    exact h3
theorem sto_has2 {ls : Array Slot} {n i : Nat} {v : Value} {lv : List (Nat × Value)} (hn : nodup lv = true) (ho : sok2 i lv = true) (h : lv_has ls n ((i, v) :: lv.filter (fun q => !(q.1 == i) && (!(q.1 == i + 1) && !(q.1 + 1 == i && q.2.category == 2))))) : lv_has ls n (sto i v lv) := by
  refine ⟨h.1, h.2.1, fun q hq => h.2.2 q ?_⟩
  rcases sto_mem i v lv hn q hq with rfl | ⟨h1, h2⟩
  · exact List.mem_cons_self
  · refine List.mem_cons_of_mem _ (List.mem_filter.mpr ⟨h1, ?_⟩)
    have h3 := List.all_eq_true.mp ho q h1
    have h4 : (!(q.1 == i)) = true := by simp [h2]
    rw [h4, Bool.true_and]
    exact h3
/-- a world with some cells replaced, by their places -/
def weave (ws : va_W) : List Nat → va_W → va_W
  | i :: is, c :: cs => weave (ws.set i c) is cs
  | [], _ => ws
  | _ :: _, [] => ws
theorem weave_at : ∀ (is : List Nat) (cs ws : va_W) (k : Nat) (q : Nat × va_E), is.length = cs.length → (weave ws is cs)[k]? = some q → (k ∉ is ∧ ws[k]? = some q) ∨ ∃ j : Nat, is[j]? = some k ∧ cs[j]? = some q
  | [], cs, ws, k, q, _, h => Or.inl ⟨List.not_mem_nil, by simpa [weave] using h⟩
  | _ :: _, [], _, _, _, hl, _ => by simp at hl
  | i :: is, c :: cs, ws, k, q, hl, h => by
    unfold weave at h
    rcases weave_at is cs (ws.set i c) k q (by simpa using hl) h with ⟨h1, h2⟩ | ⟨j, h1, h2⟩
    · by_cases e : i = k
      · subst e
        rw [List.getElem?_set] at h2
        simp only [if_true] at h2
        split at h2
        · exact Or.inr ⟨0, rfl, h2⟩
        · cases h2
      · rw [List.getElem?_set, if_neg e] at h2
        refine Or.inl ⟨fun hm => ?_, h2⟩
        rcases List.mem_cons.mp hm with r | r
        · exact e r.symm
        · exact h1 r
    · exact Or.inr ⟨j + 1, by simpa using h1, by simpa using h2⟩
theorem va_D_addr {A : Nat → Prop} {ws ws' : va_W} (h : va_D A ws) (e : ws'.map (·.1) = ws.map (·.1)) : va_D A ws' := by
  have key : ∀ (k : Nat) (q : Nat × va_E), ws'[k]? = some q → ∃ q', ws[k]? = some q' ∧ q'.1 = q.1 := by
    intro k q hk
    have h1 : (ws'.map (·.1))[k]? = some q.1 := by rw [List.getElem?_map, hk]; rfl
    rw [e, List.getElem?_map] at h1
    cases hw : ws[k]? with
    | none => rw [hw] at h1; cases h1
    | some q' => rw [hw] at h1; exact ⟨q', rfl, Option.some.inj h1⟩
  refine ⟨fun i j x y hx hy hxy => ?_, fun k q hk => ?_⟩
  · obtain ⟨x', h1, h2⟩ := key i x hx
    obtain ⟨y', h3, h4⟩ := key j y hy
    exact h.1 i j x' y' h1 h3 (by rw [h2, h4]; exact hxy)
  · obtain ⟨q', h1, h2⟩ := key k q hk
    rw [← h2]
    exact h.2 k q' h1
theorem weave_addr : ∀ (is : List Nat) (cs wc ws : va_W), is.map (fun i => ws[i]?) = wc.map some → cs.map (·.1) = wc.map (·.1) → (weave ws is cs).map (·.1) = ws.map (·.1)
  | [], _, _, _, _, _ => by simp [weave]
  | _ :: _, [], _, _, _, _ => by simp [weave]
  | _ :: _, _ :: _, [], _, h, _ => by simp at h
  | i :: is, c :: cs, d :: wc, ws, h, e => by
    have h1 : ws[i]? = some d := by
      have h0 := congrArg List.head? h
      simpa using h0
    have h2 : is.map (fun i => ws[i]?) = wc.map some := by
      have h0 := congrArg List.tail h
      simpa using h0
    have e1 : c.1 = d.1 := by
      have h0 := congrArg List.head? e
      simpa using h0
    have e2 : cs.map (·.1) = wc.map (·.1) := by
      have h0 := congrArg List.tail e
      simpa using h0
    have hmap : (ws.set i c).map (·.1) = ws.map (·.1) := by
      apply List.ext_getElem?
      intro k
      simp only [List.getElem?_map, List.getElem?_set]
      by_cases hk : i = k
      · subst hk
        by_cases hl : i < ws.length
        · simp [hl, h1, e1]
          have := (List.getElem?_eq_some_iff.mp h1).2
          simp [this]
        · simp at hl
          rw [List.getElem?_eq_none hl] at h1
          cases h1
      · simp [hk]
    have key : ∀ (is' : List Nat) (cs' ws1 ws2 : va_W), ws1.map (·.1) = ws2.map (·.1) → (∀ (j : Nat) (i' : Nat) (c' : Nat × va_E), is'[j]? = some i' → cs'[j]? = some c' → (ws1.map (·.1))[i']? = some c'.1) → (weave ws1 is' cs').map (·.1) = ws2.map (·.1) := by
      intro is'
      induction is' with
      | nil => intro cs' ws1 ws2 h3 _; simpa [weave] using h3
      | cons i' is' ih =>
        intro cs' ws1 ws2 h3 h4
        cases cs' with
        | nil => simpa [weave] using h3
        | cons c' cs' =>
          unfold weave
          have h5 := h4 0 i' c' rfl rfl
          have h6 : (ws1.set i' c').map (·.1) = ws1.map (·.1) := by
            apply List.ext_getElem?
            intro k
            simp only [List.getElem?_map, List.getElem?_set]
            by_cases hk : i' = k
            · subst hk
              rw [List.getElem?_map] at h5
              by_cases hl : i' < ws1.length
              · simp only [if_true, hl]
                rw [h5]; rfl
              · simp at hl
                rw [List.getElem?_eq_none hl] at h5
                cases h5
            · simp [hk]
          refine ih cs' _ ws2 (h6.trans h3) (fun j i2 c2 q1 q2 => ?_)
          rw [h6]
          exact h4 (j + 1) i2 c2 (by simpa using q1) (by simpa using q2)
    unfold weave
    refine key is cs _ ws hmap (fun j i' c' q1 q2 => ?_)
    rw [hmap, List.getElem?_map]
    have q3 : (is.map (fun i => ws[i]?))[j]? = some (ws[i']?) := by rw [List.getElem?_map, q1]; rfl
    rw [h2, List.getElem?_map] at q3
    have q4 : (cs.map (·.1))[j]? = some c'.1 := by rw [List.getElem?_map, q2]; rfl
    rw [e2, List.getElem?_map] at q4
    cases hw : wc[j]? with
    | none => rw [hw] at q4; cases q4
    | some d' =>
      rw [hw] at q3 q4
      have q5 : some d' = ws[i']? := by simpa using q3
      rw [← q5]
      exact q4
theorem va_weave {A : Nat → Prop} {D : va_G} {cl : List vw_C} {ws wc w1 : va_W} {H H1 : Heap} (hP : va_P D cl ws H) (hD : va_D A ws) (is : List Nat) (hC : is.map (fun i => ws[i]?) = wc.map some) (he : w1.map (·.1) = wc.map (·.1))
    (hk : ∀ q : Nat, q < H.size → ¬ va_A wc H.size q → H1[q]? = H[q]?) (hP1 : va_P D cl w1 H1) : va_P D cl (weave ws is w1) H1 ∧ va_D A (weave ws is w1) := by
  have hl : is.length = w1.length := by
    have h1 := congrArg List.length hC
    have h2 := congrArg List.length he
    simp at h1 h2
    omega
  refine ⟨fun k q hq => ?_, va_D_addr hD (weave_addr is w1 wc ws hC he)⟩
  rcases weave_at is w1 ws k q hl hq with ⟨h1, h2⟩ | ⟨j, h1, h2⟩
  · have hlt := (hP k q h2).lt
    refine (hP k q h2).kept (hk q.1 hlt (fun h => ?_))
    rcases h with ⟨j, e, h⟩ | h
    · have h3 : (is.map (fun i => ws[i]?))[j]? = some (some (q.1, e)) := by rw [hC, List.getElem?_map, h]; rfl
      rw [List.getElem?_map] at h3
      cases hi : is[j]? with
      | none => rw [hi] at h3; cases h3
      | some i =>
        rw [hi] at h3
        have h4 : ws[i]? = some (q.1, e) := Option.some.inj h3
        have h5 := hD.1 k i q (q.1, e) h2 h4 rfl
        subst h5
        exact h1 (List.mem_of_getElem? hi)
    · omega
  · exact hP1 j q h2
section ZR
variable {p : Program} {l : Launch} {e : Env} {R : Room} {s : State} {m : MethodId} {args : Array Value} {below : List Frame} {meth : Method} {c : Code} {D : va_G} {A : Nat → Prop} {n ce sl : Nat} {Q : State → Prop} {own : String} {cc : ByteArray} {rt : Option FieldType} {cI : ClassId} {tt : Nat × Nat × Nat} {pc : Nat} {lv : List (Nat × Value)} {st : List Value} {ws : va_W}

theorem z_iconst (C : Cx p s m args meth c own cc n rt D cI tt A) {k : Int} {v : Int32} (hd : decode cc pc = .ok (.iconst k, 1)) (hv : Int32.ofInt k = v) (k : Z p l e R s m args below meth c D A n ce sl Q (pc + 1) lv (.int v :: st) ws) : Z p l e R s m args below meth c D A n ce sl Q pc lv st ws := fun H locs ls h1 h2 h3 h4 => lv_iconst C.1 C.2.1 hd hv (k H locs ls h1 h2 h3 h4)
theorem z_bipush (C : Cx p s m args meth c own cc n rt D cI tt A) {k : Int} {v : Int32} (hd : decode cc pc = .ok (.bipush k, 2)) (hv : (Int8.ofInt k).toInt32 = v) (k : Z p l e R s m args below meth c D A n ce sl Q (pc + 2) lv (.int v :: st) ws) : Z p l e R s m args below meth c D A n ce sl Q pc lv st ws := fun H locs ls h1 h2 h3 h4 => lv_bipush C.1 C.2.1 hd hv (k H locs ls h1 h2 h3 h4)
theorem z_sipush (C : Cx p s m args meth c own cc n rt D cI tt A) {k : Int} {v : Int32} (hd : decode cc pc = .ok (.sipush k, 3)) (hv : (Int16.ofInt k).toInt32 = v) (k : Z p l e R s m args below meth c D A n ce sl Q (pc + 3) lv (.int v :: st) ws) : Z p l e R s m args below meth c D A n ce sl Q pc lv st ws := fun H locs ls h1 h2 h3 h4 => lv_sipush C.1 C.2.1 hd hv (k H locs ls h1 h2 h3 h4)
theorem z_lconst (C : Cx p s m args meth c own cc n rt D cI tt A) {k : Fin 2} {v : Int64} (hd : decode cc pc = .ok (.lconst k, 1)) (hv : Int64.ofNat (k : Nat) = v) (k : Z p l e R s m args below meth c D A n ce sl Q (pc + 1) lv (.long v :: st) ws) : Z p l e R s m args below meth c D A n ce sl Q pc lv st ws := fun H locs ls h1 h2 h3 h4 => lv_lconst C.1 C.2.1 hd hv (k H locs ls h1 h2 h3 h4)
theorem z_iload_n (C : Cx p s m args meth c own cc n rt D cI tt A) {j : Fin 4} {x : Int32} (hd : decode cc pc = .ok (.iload_n j, 1)) (hl : lk lv (j : Nat) = some (.int x)) (k : Z p l e R s m args below meth c D A n ce sl Q (pc + 1) lv (.int x :: st) ws) : Z p l e R s m args below meth c D A n ce sl Q pc lv st ws := fun H locs ls h1 h2 h3 h4 => lv_iload_n C.1 C.2.1 hd rfl (lk_at h4 hl) (k H locs ls h1 h2 h3 h4)
theorem z_iload (C : Cx p s m args meth c own cc n rt D cI tt A) {j : Nat} {x : Int32} (hd : decode cc pc = .ok (.iload j, 2)) (hl : lk lv j = some (.int x)) (k : Z p l e R s m args below meth c D A n ce sl Q (pc + 2) lv (.int x :: st) ws) : Z p l e R s m args below meth c D A n ce sl Q pc lv st ws := fun H locs ls h1 h2 h3 h4 => lv_iload C.1 C.2.1 hd (lk_at h4 hl) (k H locs ls h1 h2 h3 h4)
theorem z_lload_n (C : Cx p s m args meth c own cc n rt D cI tt A) {j : Fin 4} {x : Int64} (hd : decode cc pc = .ok (.lload_n j, 1)) (hl : lk lv (j : Nat) = some (.long x)) (k : Z p l e R s m args below meth c D A n ce sl Q (pc + 1) lv (.long x :: st) ws) : Z p l e R s m args below meth c D A n ce sl Q pc lv st ws := fun H locs ls h1 h2 h3 h4 => lv_lload_n C.1 C.2.1 hd rfl (lk_at h4 hl) (k H locs ls h1 h2 h3 h4)
theorem z_lload (C : Cx p s m args meth c own cc n rt D cI tt A) {j : Nat} {x : Int64} (hd : decode cc pc = .ok (.lload j, 2)) (hl : lk lv j = some (.long x)) (k : Z p l e R s m args below meth c D A n ce sl Q (pc + 2) lv (.long x :: st) ws) : Z p l e R s m args below meth c D A n ce sl Q pc lv st ws := fun H locs ls h1 h2 h3 h4 => lv_lload C.1 C.2.1 hd (lk_at h4 hl) (k H locs ls h1 h2 h3 h4)
theorem z_aload_n (C : Cx p s m args meth c own cc n rt D cI tt A) {j : Fin 4} {x : Nat} (hd : decode cc pc = .ok (.aload_n j, 1)) (hl : lk lv (j : Nat) = some (.ref x)) (k : Z p l e R s m args below meth c D A n ce sl Q (pc + 1) lv (.ref x :: st) ws) : Z p l e R s m args below meth c D A n ce sl Q pc lv st ws := fun H locs ls h1 h2 h3 h4 => lv_aload_n C.1 C.2.1 hd rfl (lk_at h4 hl) (k H locs ls h1 h2 h3 h4)
theorem z_aload (C : Cx p s m args meth c own cc n rt D cI tt A) {j : Nat} {x : Nat} (hd : decode cc pc = .ok (.aload j, 2)) (hl : lk lv j = some (.ref x)) (k : Z p l e R s m args below meth c D A n ce sl Q (pc + 2) lv (.ref x :: st) ws) : Z p l e R s m args below meth c D A n ce sl Q pc lv st ws := fun H locs ls h1 h2 h3 h4 => lv_aload C.1 C.2.1 hd (lk_at h4 hl) (k H locs ls h1 h2 h3 h4)
theorem z_istore_n (C : Cx p s m args meth c own cc n rt D cI tt A) {j : Fin 4} {x : Int32} {lv' : List (Nat × Value)} (hd : decode cc pc = .ok (.istore_n j, 1)) (hn : (j : Nat) < n) (ho : (nodup lv && sok1 (j : Nat) lv) = true) (hl : sto (j : Nat) (.int x) lv = lv') (k : Z p l e R s m args below meth c D A n ce sl Q (pc + 1) lv' st ws) : Z p l e R s m args below meth c D A n ce sl Q pc lv (.int x :: st) ws := by
  rw [Bool.and_eq_true] at ho
  subst hl
  exact fun H locs ls h1 h2 h3 h4 => lv_istore_n C.1 C.2.1 hd rfl h4 hn rfl (fun ls' h5 => k H locs ls' h1 h2 h3 (sto_has1 ho.1 ho.2 h5))
theorem z_istore (C : Cx p s m args meth c own cc n rt D cI tt A) {j : Nat} {x : Int32} {lv' : List (Nat × Value)} (hd : decode cc pc = .ok (.istore j, 2)) (hn : j < n) (ho : (nodup lv && sok1 j lv) = true) (hl : sto j (.int x) lv = lv') (k : Z p l e R s m args below meth c D A n ce sl Q (pc + 2) lv' st ws) : Z p l e R s m args below meth c D A n ce sl Q pc lv (.int x :: st) ws := by
  rw [Bool.and_eq_true] at ho
  subst hl
  exact fun H locs ls h1 h2 h3 h4 => lv_istore C.1 C.2.1 hd h4 hn rfl (fun ls' h5 => k H locs ls' h1 h2 h3 (sto_has1 ho.1 ho.2 h5))
theorem z_lstore_n (C : Cx p s m args meth c own cc n rt D cI tt A) {j : Fin 4} {x : Int64} {lv' : List (Nat × Value)} (hd : decode cc pc = .ok (.lstore_n j, 1)) (hn : (j : Nat) + 1 < n) (ho : (nodup lv && sok2 (j : Nat) lv) = true) (hl : sto (j : Nat) (.long x) lv = lv') (k : Z p l e R s m args below meth c D A n ce sl Q (pc + 1) lv' st ws) : Z p l e R s m args below meth c D A n ce sl Q pc lv (.long x :: st) ws := by
  rw [Bool.and_eq_true] at ho
  subst hl
  exact fun H locs ls h1 h2 h3 h4 => lv_lstore_n C.1 C.2.1 hd rfl h4 hn rfl (fun ls' h5 => k H locs ls' h1 h2 h3 (sto_has2 ho.1 ho.2 h5))
theorem z_astore_n (C : Cx p s m args meth c own cc n rt D cI tt A) {j : Fin 4} {x : Nat} {lv' : List (Nat × Value)} (hd : decode cc pc = .ok (.astore_n j, 1)) (hn : (j : Nat) < n) (ho : (nodup lv && sok1 (j : Nat) lv) = true) (hl : sto (j : Nat) (.ref x) lv = lv') (k : Z p l e R s m args below meth c D A n ce sl Q (pc + 1) lv' st ws) : Z p l e R s m args below meth c D A n ce sl Q pc lv (.ref x :: st) ws := by
  rw [Bool.and_eq_true] at ho
  subst hl
  exact fun H locs ls h1 h2 h3 h4 => lv_astore_n C.1 C.2.1 hd rfl h4 hn rfl (fun ls' h5 => k H locs ls' h1 h2 h3 (sto_has1 ho.1 ho.2 h5))
theorem lk_idx : ∀ {lv : List (Nat × Value)} {i : Nat} {v : Value}, lk lv i = some v → ∃ k : Nat, lv[k]? = some (i, v) := fun h => List.getElem?_of_mem (lk_mem h)
theorem z_iinc (C : Cx p s m args meth c own cc n rt D cI tt A) {j : Nat} {i : Int} {x v : Int32} {lv' : List (Nat × Value)} (hd : decode cc pc = .ok (.iinc j i, 3)) (hx : lk lv j = some (.int x)) (hv : x + Int32.ofInt i = v) (hn : j < n) (ho : (nodup lv && sok1 j lv) = true) (hl : sto j (.int v) lv = lv') (k : Z p l e R s m args below meth c D A n ce sl Q (pc + 3) lv' st ws) : Z p l e R s m args below meth c D A n ce sl Q pc lv st ws := by
  rw [Bool.and_eq_true] at ho
  subst hl
  obtain ⟨q, hq⟩ := lk_idx hx
  exact fun H locs ls h1 h2 h3 h4 => lv_iinc C.1 C.2.1 hd h4 hq hv hn rfl (fun ls' h5 => k H locs ls' h1 h2 h3 (sto_has1 ho.1 ho.2 h5))
theorem z_iadd (C : Cx p s m args meth c own cc n rt D cI tt A) {x y : Int32} (hd : decode cc pc = .ok (.iadd, 1)) (k : Z p l e R s m args below meth c D A n ce sl Q (pc + 1) lv (.int (x + y) :: st) ws) : Z p l e R s m args below meth c D A n ce sl Q pc lv (.int y :: .int x :: st) ws := fun H locs ls h1 h2 h3 h4 => lv_iadd C.1 C.2.1 hd (k H locs ls h1 h2 h3 h4)
theorem z_isub (C : Cx p s m args meth c own cc n rt D cI tt A) {x y : Int32} (hd : decode cc pc = .ok (.isub, 1)) (k : Z p l e R s m args below meth c D A n ce sl Q (pc + 1) lv (.int (x - y) :: st) ws) : Z p l e R s m args below meth c D A n ce sl Q pc lv (.int y :: .int x :: st) ws := fun H locs ls h1 h2 h3 h4 => lv_isub C.1 C.2.1 hd (k H locs ls h1 h2 h3 h4)
theorem z_imul (C : Cx p s m args meth c own cc n rt D cI tt A) {x y : Int32} (hd : decode cc pc = .ok (.imul, 1)) (k : Z p l e R s m args below meth c D A n ce sl Q (pc + 1) lv (.int (x * y) :: st) ws) : Z p l e R s m args below meth c D A n ce sl Q pc lv (.int y :: .int x :: st) ws := fun H locs ls h1 h2 h3 h4 => lv_imul C.1 C.2.1 hd (k H locs ls h1 h2 h3 h4)
theorem z_iand (C : Cx p s m args meth c own cc n rt D cI tt A) {x y : Int32} (hd : decode cc pc = .ok (.iand, 1)) (k : Z p l e R s m args below meth c D A n ce sl Q (pc + 1) lv (.int (x &&& y) :: st) ws) : Z p l e R s m args below meth c D A n ce sl Q pc lv (.int y :: .int x :: st) ws := fun H locs ls h1 h2 h3 h4 => lv_iand C.1 C.2.1 hd (k H locs ls h1 h2 h3 h4)
theorem z_ior (C : Cx p s m args meth c own cc n rt D cI tt A) {x y : Int32} (hd : decode cc pc = .ok (.ior, 1)) (k : Z p l e R s m args below meth c D A n ce sl Q (pc + 1) lv (.int (x ||| y) :: st) ws) : Z p l e R s m args below meth c D A n ce sl Q pc lv (.int y :: .int x :: st) ws := fun H locs ls h1 h2 h3 h4 => lv_ior C.1 C.2.1 hd (k H locs ls h1 h2 h3 h4)
theorem z_ixor (C : Cx p s m args meth c own cc n rt D cI tt A) {x y : Int32} (hd : decode cc pc = .ok (.ixor, 1)) (k : Z p l e R s m args below meth c D A n ce sl Q (pc + 1) lv (.int (x ^^^ y) :: st) ws) : Z p l e R s m args below meth c D A n ce sl Q pc lv (.int y :: .int x :: st) ws := fun H locs ls h1 h2 h3 h4 => lv_ixor C.1 C.2.1 hd (k H locs ls h1 h2 h3 h4)
theorem z_idiv (C : Cx p s m args meth c own cc n rt D cI tt A) {x y : Int32} (hd : decode cc pc = .ok (.idiv, 1)) (hne : ¬ y = 0) (k : Z p l e R s m args below meth c D A n ce sl Q (pc + 1) lv (.int (x / y) :: st) ws) : Z p l e R s m args below meth c D A n ce sl Q pc lv (.int y :: .int x :: st) ws := fun H locs ls h1 h2 h3 h4 => lv_idiv C.1 C.2.1 hd hne (k H locs ls h1 h2 h3 h4)
theorem z_irem (C : Cx p s m args meth c own cc n rt D cI tt A) {x y : Int32} (hd : decode cc pc = .ok (.irem, 1)) (hne : ¬ y = 0) (k : Z p l e R s m args below meth c D A n ce sl Q (pc + 1) lv (.int (x - x / y * y) :: st) ws) : Z p l e R s m args below meth c D A n ce sl Q pc lv (.int y :: .int x :: st) ws := fun H locs ls h1 h2 h3 h4 => lv_irem C.1 C.2.1 hd hne (k H locs ls h1 h2 h3 h4)
theorem z_ishl (C : Cx p s m args meth c own cc n rt D cI tt A) {x y : Int32} (hd : decode cc pc = .ok (.ishl, 1)) (k : Z p l e R s m args below meth c D A n ce sl Q (pc + 1) lv (.int (x <<< (y &&& 31)) :: st) ws) : Z p l e R s m args below meth c D A n ce sl Q pc lv (.int y :: .int x :: st) ws := fun H locs ls h1 h2 h3 h4 => lv_ishl C.1 C.2.1 hd (k H locs ls h1 h2 h3 h4)
theorem z_ishr (C : Cx p s m args meth c own cc n rt D cI tt A) {x y : Int32} (hd : decode cc pc = .ok (.ishr, 1)) (k : Z p l e R s m args below meth c D A n ce sl Q (pc + 1) lv (.int (x >>> (y &&& 31)) :: st) ws) : Z p l e R s m args below meth c D A n ce sl Q pc lv (.int y :: .int x :: st) ws := fun H locs ls h1 h2 h3 h4 => lv_ishr C.1 C.2.1 hd (k H locs ls h1 h2 h3 h4)
theorem z_iushr (C : Cx p s m args meth c own cc n rt D cI tt A) {x y v : Int32} (hd : decode cc pc = .ok (.iushr, 1)) (hv : (x.toUInt32 >>> (y.toUInt32 &&& Int32.toUInt32 31)).toInt32 = v) (k : Z p l e R s m args below meth c D A n ce sl Q (pc + 1) lv (.int v :: st) ws) : Z p l e R s m args below meth c D A n ce sl Q pc lv (.int y :: .int x :: st) ws := fun H locs ls h1 h2 h3 h4 => lv_iushr C.1 C.2.1 hd hv (k H locs ls h1 h2 h3 h4)
theorem z_ladd (C : Cx p s m args meth c own cc n rt D cI tt A) {x y : Int64} (hd : decode cc pc = .ok (.ladd, 1)) (k : Z p l e R s m args below meth c D A n ce sl Q (pc + 1) lv (.long (x + y) :: st) ws) : Z p l e R s m args below meth c D A n ce sl Q pc lv (.long y :: .long x :: st) ws := fun H locs ls h1 h2 h3 h4 => lv_ladd C.1 C.2.1 hd (k H locs ls h1 h2 h3 h4)
theorem z_lmul (C : Cx p s m args meth c own cc n rt D cI tt A) {x y : Int64} (hd : decode cc pc = .ok (.lmul, 1)) (k : Z p l e R s m args below meth c D A n ce sl Q (pc + 1) lv (.long (x * y) :: st) ws) : Z p l e R s m args below meth c D A n ce sl Q pc lv (.long y :: .long x :: st) ws := fun H locs ls h1 h2 h3 h4 => lv_lmul C.1 C.2.1 hd (k H locs ls h1 h2 h3 h4)
theorem z_land (C : Cx p s m args meth c own cc n rt D cI tt A) {x y : Int64} (hd : decode cc pc = .ok (.land, 1)) (k : Z p l e R s m args below meth c D A n ce sl Q (pc + 1) lv (.long (x &&& y) :: st) ws) : Z p l e R s m args below meth c D A n ce sl Q pc lv (.long y :: .long x :: st) ws := fun H locs ls h1 h2 h3 h4 => lv_land C.1 C.2.1 hd (k H locs ls h1 h2 h3 h4)
theorem z_lcmp (C : Cx p s m args meth c own cc n rt D cI tt A) {x y : Int64} (hd : decode cc pc = .ok (.lcmp, 1)) (k : Z p l e R s m args below meth c D A n ce sl Q (pc + 1) lv (.int (lg_cmp x y) :: st) ws) : Z p l e R s m args below meth c D A n ce sl Q pc lv (.long y :: .long x :: st) ws := fun H locs ls h1 h2 h3 h4 => W.lcmp C.1 C.2.1 hd (k H locs ls h1 h2 h3 h4)
theorem z_i2l (C : Cx p s m args meth c own cc n rt D cI tt A) {x : Int32} (hd : decode cc pc = .ok (.i2l, 1)) (k : Z p l e R s m args below meth c D A n ce sl Q (pc + 1) lv (.long x.toInt64 :: st) ws) : Z p l e R s m args below meth c D A n ce sl Q pc lv (.int x :: st) ws := fun H locs ls h1 h2 h3 h4 => lv_i2l C.1 C.2.1 hd rfl (k H locs ls h1 h2 h3 h4)
theorem z_l2i (C : Cx p s m args meth c own cc n rt D cI tt A) {x : Int64} (hd : decode cc pc = .ok (.l2i, 1)) (k : Z p l e R s m args below meth c D A n ce sl Q (pc + 1) lv (.int x.toInt32 :: st) ws) : Z p l e R s m args below meth c D A n ce sl Q pc lv (.long x :: st) ws := fun H locs ls h1 h2 h3 h4 => lv_l2i C.1 C.2.1 hd rfl (k H locs ls h1 h2 h3 h4)
theorem z_dup (C : Cx p s m args meth c own cc n rt D cI tt A) {v : Value} (hd : decode cc pc = .ok (.dup, 1)) (hv : v.category = 1) (k : Z p l e R s m args below meth c D A n ce sl Q (pc + 1) lv (v :: v :: st) ws) : Z p l e R s m args below meth c D A n ce sl Q pc lv (v :: st) ws := fun H locs ls h1 h2 h3 h4 => lv_dup C.1 C.2.1 hd hv (k H locs ls h1 h2 h3 h4)
theorem z_pop (C : Cx p s m args meth c own cc n rt D cI tt A) {v : Value} (hd : decode cc pc = .ok (.pop, 1)) (hv : v.category = 1) (k : Z p l e R s m args below meth c D A n ce sl Q (pc + 1) lv st ws) : Z p l e R s m args below meth c D A n ce sl Q pc lv (v :: st) ws := fun H locs ls h1 h2 h3 h4 => lv_pop C.1 C.2.1 hd hv (k H locs ls h1 h2 h3 h4)
theorem z_dup2 (C : Cx p s m args meth c own cc n rt D cI tt A) {v w : Value} (hd : decode cc pc = .ok (.dup2, 1)) (hv : v.category = 1) (hw : w.category = 1) (k : Z p l e R s m args below meth c D A n ce sl Q (pc + 1) lv (v :: w :: v :: w :: st) ws) : Z p l e R s m args below meth c D A n ce sl Q pc lv (v :: w :: st) ws := fun H locs ls h1 h2 h3 h4 => lv_dup2_11 C.1 C.2.1 hd hv hw (k H locs ls h1 h2 h3 h4)
theorem z_if_eq (C : Cx p s m args meth c own cc n rt D cI tt A) {x : Int32} {off : Int} {tgt : Nat} (hd : decode cc pc = .ok (.ifCond .eq off, 3)) (ht : (pc : Int) + off = (tgt : Int)) (kt : x = 0 → Z p l e R s m args below meth c D A n ce sl Q tgt lv st ws) (kf : ¬ x = 0 → Z p l e R s m args below meth c D A n ce sl Q (pc + 3) lv st ws) : Z p l e R s m args below meth c D A n ce sl Q pc lv (.int x :: st) ws := fun H locs ls h1 h2 h3 h4 => lv_if_eq C.1 C.2.1 hd ht (fun q => kt q H locs ls h1 h2 h3 h4) (fun q => kf q H locs ls h1 h2 h3 h4)
theorem z_if_ne (C : Cx p s m args meth c own cc n rt D cI tt A) {x : Int32} {off : Int} {tgt : Nat} (hd : decode cc pc = .ok (.ifCond .ne off, 3)) (ht : (pc : Int) + off = (tgt : Int)) (kt : ¬ x = 0 → Z p l e R s m args below meth c D A n ce sl Q tgt lv st ws) (kf : x = 0 → Z p l e R s m args below meth c D A n ce sl Q (pc + 3) lv st ws) : Z p l e R s m args below meth c D A n ce sl Q pc lv (.int x :: st) ws := fun H locs ls h1 h2 h3 h4 => lv_if_ne C.1 C.2.1 hd ht (fun q => kt q H locs ls h1 h2 h3 h4) (fun q => kf q H locs ls h1 h2 h3 h4)
theorem z_if_lt (C : Cx p s m args meth c own cc n rt D cI tt A) {x : Int32} {off : Int} {tgt : Nat} (hd : decode cc pc = .ok (.ifCond .lt off, 3)) (ht : (pc : Int) + off = (tgt : Int)) (kt : x < 0 → Z p l e R s m args below meth c D A n ce sl Q tgt lv st ws) (kf : ¬ x < 0 → Z p l e R s m args below meth c D A n ce sl Q (pc + 3) lv st ws) : Z p l e R s m args below meth c D A n ce sl Q pc lv (.int x :: st) ws := fun H locs ls h1 h2 h3 h4 => lv_if_lt C.1 C.2.1 hd ht (fun q => kt q H locs ls h1 h2 h3 h4) (fun q => kf q H locs ls h1 h2 h3 h4)
theorem z_if_ge (C : Cx p s m args meth c own cc n rt D cI tt A) {x : Int32} {off : Int} {tgt : Nat} (hd : decode cc pc = .ok (.ifCond .ge off, 3)) (ht : (pc : Int) + off = (tgt : Int)) (kt : 0 ≤ x → Z p l e R s m args below meth c D A n ce sl Q tgt lv st ws) (kf : ¬ 0 ≤ x → Z p l e R s m args below meth c D A n ce sl Q (pc + 3) lv st ws) : Z p l e R s m args below meth c D A n ce sl Q pc lv (.int x :: st) ws := fun H locs ls h1 h2 h3 h4 => lv_if_ge C.1 C.2.1 hd ht (fun q => kt q H locs ls h1 h2 h3 h4) (fun q => kf q H locs ls h1 h2 h3 h4)
theorem z_if_gt (C : Cx p s m args meth c own cc n rt D cI tt A) {x : Int32} {off : Int} {tgt : Nat} (hd : decode cc pc = .ok (.ifCond .gt off, 3)) (ht : (pc : Int) + off = (tgt : Int)) (kt : 0 < x → Z p l e R s m args below meth c D A n ce sl Q tgt lv st ws) (kf : ¬ 0 < x → Z p l e R s m args below meth c D A n ce sl Q (pc + 3) lv st ws) : Z p l e R s m args below meth c D A n ce sl Q pc lv (.int x :: st) ws := fun H locs ls h1 h2 h3 h4 => lv_if_gt C.1 C.2.1 hd ht (fun q => kt q H locs ls h1 h2 h3 h4) (fun q => kf q H locs ls h1 h2 h3 h4)
theorem z_if_le (C : Cx p s m args meth c own cc n rt D cI tt A) {x : Int32} {off : Int} {tgt : Nat} (hd : decode cc pc = .ok (.ifCond .le off, 3)) (ht : (pc : Int) + off = (tgt : Int)) (kt : x ≤ 0 → Z p l e R s m args below meth c D A n ce sl Q tgt lv st ws) (kf : ¬ x ≤ 0 → Z p l e R s m args below meth c D A n ce sl Q (pc + 3) lv st ws) : Z p l e R s m args below meth c D A n ce sl Q pc lv (.int x :: st) ws := fun H locs ls h1 h2 h3 h4 => lv_if_le C.1 C.2.1 hd ht (fun q => kt q H locs ls h1 h2 h3 h4) (fun q => kf q H locs ls h1 h2 h3 h4)
theorem z_icmp_eq (C : Cx p s m args meth c own cc n rt D cI tt A) {x y : Int32} {off : Int} {tgt : Nat} (hd : decode cc pc = .ok (.if_icmp .eq off, 3)) (ht : (pc : Int) + off = (tgt : Int)) (kt : x = y → Z p l e R s m args below meth c D A n ce sl Q tgt lv st ws) (kf : ¬ x = y → Z p l e R s m args below meth c D A n ce sl Q (pc + 3) lv st ws) : Z p l e R s m args below meth c D A n ce sl Q pc lv (.int y :: .int x :: st) ws := fun H locs ls h1 h2 h3 h4 => lv_icmp_eq C.1 C.2.1 hd ht (fun q => kt q H locs ls h1 h2 h3 h4) (fun q => kf q H locs ls h1 h2 h3 h4)
theorem z_icmp_ne (C : Cx p s m args meth c own cc n rt D cI tt A) {x y : Int32} {off : Int} {tgt : Nat} (hd : decode cc pc = .ok (.if_icmp .ne off, 3)) (ht : (pc : Int) + off = (tgt : Int)) (kt : ¬ x = y → Z p l e R s m args below meth c D A n ce sl Q tgt lv st ws) (kf : x = y → Z p l e R s m args below meth c D A n ce sl Q (pc + 3) lv st ws) : Z p l e R s m args below meth c D A n ce sl Q pc lv (.int y :: .int x :: st) ws := fun H locs ls h1 h2 h3 h4 => lv_icmp_ne C.1 C.2.1 hd ht (fun q => kt q H locs ls h1 h2 h3 h4) (fun q => kf q H locs ls h1 h2 h3 h4)
theorem z_icmp_lt (C : Cx p s m args meth c own cc n rt D cI tt A) {x y : Int32} {off : Int} {tgt : Nat} (hd : decode cc pc = .ok (.if_icmp .lt off, 3)) (ht : (pc : Int) + off = (tgt : Int)) (kt : x < y → Z p l e R s m args below meth c D A n ce sl Q tgt lv st ws) (kf : ¬ x < y → Z p l e R s m args below meth c D A n ce sl Q (pc + 3) lv st ws) : Z p l e R s m args below meth c D A n ce sl Q pc lv (.int y :: .int x :: st) ws := fun H locs ls h1 h2 h3 h4 => lv_icmp_lt C.1 C.2.1 hd ht (fun q => kt q H locs ls h1 h2 h3 h4) (fun q => kf q H locs ls h1 h2 h3 h4)
theorem z_icmp_ge (C : Cx p s m args meth c own cc n rt D cI tt A) {x y : Int32} {off : Int} {tgt : Nat} (hd : decode cc pc = .ok (.if_icmp .ge off, 3)) (ht : (pc : Int) + off = (tgt : Int)) (kt : y ≤ x → Z p l e R s m args below meth c D A n ce sl Q tgt lv st ws) (kf : ¬ y ≤ x → Z p l e R s m args below meth c D A n ce sl Q (pc + 3) lv st ws) : Z p l e R s m args below meth c D A n ce sl Q pc lv (.int y :: .int x :: st) ws := fun H locs ls h1 h2 h3 h4 => lv_icmp_ge C.1 C.2.1 hd ht (fun q => kt q H locs ls h1 h2 h3 h4) (fun q => kf q H locs ls h1 h2 h3 h4)
theorem z_icmp_gt (C : Cx p s m args meth c own cc n rt D cI tt A) {x y : Int32} {off : Int} {tgt : Nat} (hd : decode cc pc = .ok (.if_icmp .gt off, 3)) (ht : (pc : Int) + off = (tgt : Int)) (kt : y < x → Z p l e R s m args below meth c D A n ce sl Q tgt lv st ws) (kf : ¬ y < x → Z p l e R s m args below meth c D A n ce sl Q (pc + 3) lv st ws) : Z p l e R s m args below meth c D A n ce sl Q pc lv (.int y :: .int x :: st) ws := fun H locs ls h1 h2 h3 h4 => lv_icmp_gt C.1 C.2.1 hd ht (fun q => kt q H locs ls h1 h2 h3 h4) (fun q => kf q H locs ls h1 h2 h3 h4)
theorem z_icmp_le (C : Cx p s m args meth c own cc n rt D cI tt A) {x y : Int32} {off : Int} {tgt : Nat} (hd : decode cc pc = .ok (.if_icmp .le off, 3)) (ht : (pc : Int) + off = (tgt : Int)) (kt : x ≤ y → Z p l e R s m args below meth c D A n ce sl Q tgt lv st ws) (kf : ¬ x ≤ y → Z p l e R s m args below meth c D A n ce sl Q (pc + 3) lv st ws) : Z p l e R s m args below meth c D A n ce sl Q pc lv (.int y :: .int x :: st) ws := fun H locs ls h1 h2 h3 h4 => lv_icmp_le C.1 C.2.1 hd ht (fun q => kt q H locs ls h1 h2 h3 h4) (fun q => kf q H locs ls h1 h2 h3 h4)
theorem z_lookup (C : Cx p s m args meth c own cc n rt D cI tt A) {dflt : Int} {ps : Array (Int × Int)} {len : Nat} {x : Int32} {off : Int} {tgt : Nat} (hd : decode cc pc = .ok (.lookupswitch dflt ps, len)) (hp : (ps.toList.zip (ps.toList.drop 1)).all (fun (a, next) => a.1 < next.1) = true) (ho : Op.lookupswitch.offset ps.toList dflt x.toInt = off) (ht : (pc : Int) + off = (tgt : Int)) (k : Z p l e R s m args below meth c D A n ce sl Q tgt lv st ws) : Z p l e R s m args below meth c D A n ce sl Q pc lv (.int x :: st) ws := fun H locs ls h1 h2 h3 h4 => lv_lookup C.1 C.2.1 hd hp ho ht (k H locs ls h1 h2 h3 h4)
theorem z_tableOut (C : Cx p s m args meth c own cc n rt D cI tt A) {dflt lo hi : Int} {offs : Array Int} {len : Nat} {x : Int32} {tgt : Nat} (hd : decode cc pc = .ok (.tableswitch dflt lo hi offs, len)) (h : x.toInt < lo ∨ hi < x.toInt) (ht : (pc : Int) + dflt = (tgt : Int)) (k : Z p l e R s m args below meth c D A n ce sl Q tgt lv st ws) : Z p l e R s m args below meth c D A n ce sl Q pc lv (.int x :: st) ws := fun H locs ls h1 h2 h3 h4 => lv_tableOut C.1 C.2.1 hd h ht (k H locs ls h1 h2 h3 h4)
theorem z_tableIn (C : Cx p s m args meth c own cc n rt D cI tt A) {dflt lo hi : Int} {offs : Array Int} {len : Nat} {x : Int32} {off : Int} {tgt : Nat} (hd : decode cc pc = .ok (.tableswitch dflt lo hi offs, len)) (g1 : ¬ x.toInt < lo) (g2 : ¬ hi < x.toInt) (ho : offs[(x.toInt - lo).toNat]? = some off) (ht : (pc : Int) + off = (tgt : Int)) (k : Z p l e R s m args below meth c D A n ce sl Q tgt lv st ws) : Z p l e R s m args below meth c D A n ce sl Q pc lv (.int x :: st) ws := fun H locs ls h1 h2 h3 h4 => lv_tableIn C.1 C.2.1 hd g1 g2 ho ht (k H locs ls h1 h2 h3 h4)
theorem z_goto (C : Cx p s m args meth c own cc n rt D cI tt A) {off : Int} {tgt : Nat} (hd : decode cc pc = .ok (.goto off, 3)) (ht : (pc : Int) + off = (tgt : Int)) (k : Z p l e R s m args below meth c D A n ce sl Q tgt lv st ws) : Z p l e R s m args below meth c D A n ce sl Q pc lv st ws := fun H locs ls h1 h2 h3 h4 => lv_goto C.1 C.2.1 hd ht (k H locs ls h1 h2 h3 h4)
theorem z_ifnull (C : Cx p s m args meth c own cc n rt D cI tt A) {x : Nat} {off : Int} (hd : decode cc pc = .ok (.ifnull off, 3)) (k : Z p l e R s m args below meth c D A n ce sl Q (pc + 3) lv st ws) : Z p l e R s m args below meth c D A n ce sl Q pc lv (.ref x :: st) ws := fun H locs ls h1 h2 h3 h4 => lv_ifnull C.1 C.2.1 hd (k H locs ls h1 h2 h3 h4)
theorem z_ifnonnull (C : Cx p s m args meth c own cc n rt D cI tt A) {x : Nat} {off : Int} {tgt : Nat} (hd : decode cc pc = .ok (.ifnonnull off, 3)) (ht : (pc : Int) + off = (tgt : Int)) (k : Z p l e R s m args below meth c D A n ce sl Q tgt lv st ws) : Z p l e R s m args below meth c D A n ce sl Q pc lv (.ref x :: st) ws := fun H locs ls h1 h2 h3 h4 => lv_ifnonnull C.1 C.2.1 hd ht (k H locs ls h1 h2 h3 h4)
theorem z_ldc2 (C : Cx p s m args meth c own cc n rt D cI tt A) {i : Nat} {v : Int64} (hw : Cond.constantLong own i v ∈ TB) (hd : decode cc pc = .ok (.ldc2_w i, 3)) (k : Z p l e R s m args below meth c D A n ce sl Q (pc + 3) lv (.long v :: st) ws) : Z p l e R s m args below meth c D A n ce sl Q pc lv st ws := fun H locs ls h1 h2 h3 h4 => lv_ldc2 C.1 C.2.1 C.2.2.2.1 (C.2.2.2.2.1 _ hw) hd (k H locs ls h1 h2 h3 h4)
theorem z_ldcw (C : Cx p s m args meth c own cc n rt D cI tt A) {i : Nat} {v : Int32} (hw : Cond.constant own i v ∈ TB) (hd : decode cc pc = .ok (.ldc_w i, 3)) (k : Z p l e R s m args below meth c D A n ce sl Q (pc + 3) lv (.int v :: st) ws) : Z p l e R s m args below meth c D A n ce sl Q pc lv st ws := fun H locs ls h1 h2 h3 h4 => lv_ldcw C.1 C.2.1 C.2.2.2.1 (C.2.2.2.2.1 _ hw) hd (k H locs ls h1 h2 h3 h4)
theorem z_ldc (C : Cx p s m args meth c own cc n rt D cI tt A) {i : Nat} {v : Int32} (hw : Cond.constant own i v ∈ TB) (hd : decode cc pc = .ok (.ldc i, 2)) (k : Z p l e R s m args below meth c D A n ce sl Q (pc + 2) lv (.int v :: st) ws) : Z p l e R s m args below meth c D A n ce sl Q pc lv st ws := fun H locs ls h1 h2 h3 h4 => lv_ldc C.1 C.2.1 C.2.2.2.1 (C.2.2.2.2.1 _ hw) hd (k H locs ls h1 h2 h3 h4)
theorem z_get (C : Cx p s m args meth c own cc n rt D cI tt A) (q0 : Nat) {a ci : Nat} {fs : List Value} {CN : String} {T : u_T} {N : Nat} (he : ws[q0]? = some (a, .inr (ci, fs))) (hc : vwCl[ci]? = some (CN, T, N)) (hin : ∀ w ∈ u_ws CN T N, w ∈ TB) (k : Nat) (hk : k < N) {idx : Nat} {ref : String} (hr : (T k).1 = ref) (hw : Cond.fieldLink own idx ref (T k).2.1 (T k).2.2.1 ∈ TB) {v : Value} (hv : fs[k]? = some v) (hd : decode cc pc = .ok (.getfield idx, 3)) (kk : Z p l e R s m args below meth c D A n ce sl Q (pc + 3) lv (v :: st) ws) : Z p l e R s m args below meth c D A n ce sl Q pc lv (.ref a :: st) ws := fun H locs ls h1 h2 h3 h4 => va_get C.1 C.2.1 C.2.2.2.2.1 hin C.2.2.2.1 C.2.2.2.2.2.1 h1 q0 he hc k hk (C.2.2.2.2.1 _ hw) (fun x hx => by rw [← hr]; exact hx) hv hd (kk H locs ls h1 h2 h3 h4)
theorem z_getN (C : Cx p s m args meth c own cc n rt D cI tt A) (q0 : Nat) {a ci : Nat} {fs : List Value} {CN : String} {T : u_T} {N : Nat} (he : ws[q0]? = some (a, .inr (ci, fs))) (hc : vwCl[ci]? = some (CN, T, N)) (hin : ∀ w ∈ u_ws CN T N, w ∈ TB) (k : Nat) (hk : k < N) {idx : Nat} {ref : String} (hr : (T k).1 = ref) {host : String} (hw : Cond.fieldLinkNest own idx ref (T k).2.1 (T k).2.2.1 host ∈ NB) {v : Value} (hv : fs[k]? = some v) (hd : decode cc pc = .ok (.getfield idx, 3)) (kk : Z p l e R s m args below meth c D A n ce sl Q (pc + 3) lv (v :: st) ws) : Z p l e R s m args below meth c D A n ce sl Q pc lv (.ref a :: st) ws := fun H locs ls h1 h2 h3 h4 => va_getN C.1 C.2.1 C.2.2.2.2.1 hin C.2.2.2.1 C.2.2.2.2.2.1 h1 q0 he hc k hk (va_Nw.use rfl (C.2.2.2.2.2.2.1 _ hw)) (fun x hx => by rw [← hr]; exact hx) hv hd (kk H locs ls h1 h2 h3 h4)
theorem z_put (C : Cx p s m args meth c own cc n rt D cI tt A) (q0 : Nat) {a ci : Nat} {fs : List Value} {CN : String} {T : u_T} {N : Nat} (he : ws[q0]? = some (a, .inr (ci, fs))) (hc : vwCl[ci]? = some (CN, T, N)) (hin : ∀ w ∈ u_ws CN T N, w ∈ TB) (k : Nat) (hk : k < N) {idx : Nat} {ref : String} (hr : (T k).1 = ref) (ty0 : Nat → FieldType) (hty : ∀ k, k < N → parseFieldDescriptor (T k).2.2.1 = some (ty0 k)) (hnm : ∀ a, a < N → ∀ b, b < N → a ≠ b → (T a).2.1 ≠ (T b).2.1) (hfin : (T k).2.2.2 = false) {v : Value} (hn : narrow (ty0 k) v = v) (hfit : fits (ty0 k) v = true) (hl : k < fs.length) {ws' : va_W} (hws : ws.set q0 (a, .inr (ci, fs.set k v)) = ws') (hw : Cond.fieldLink own idx ref (T k).2.1 (T k).2.2.1 ∈ TB) (hd : decode cc pc = .ok (.putfield idx, 3)) (kk : Z p l e R s m args below meth c D A n ce sl Q (pc + 3) lv st ws') : Z p l e R s m args below meth c D A n ce sl Q pc lv (v :: .ref a :: st) ws := by
  subst hws
  exact fun H locs ls h1 h2 h3 h4 => va_put C.1 C.2.1 C.2.2.2.2.1 hin ty0 hty hnm C.2.2.2.1 C.2.2.2.2.2.1 h1 h2 h3 q0 he hc k hk (C.2.2.2.2.1 _ hw) (fun x hx => by rw [← hr]; exact hx) hfin (hty k hk) hn hfit hl hd (fun H1 locs1 g1 g2 g3 => kk H1 locs1 ls g1 g2 g3 h4)
theorem z_putN (C : Cx p s m args meth c own cc n rt D cI tt A) (q0 : Nat) {a ci : Nat} {fs : List Value} {CN : String} {T : u_T} {N : Nat} (he : ws[q0]? = some (a, .inr (ci, fs))) (hc : vwCl[ci]? = some (CN, T, N)) (hin : ∀ w ∈ u_ws CN T N, w ∈ TB) (k : Nat) (hk : k < N) {idx : Nat} {ref : String} (hr : (T k).1 = ref) (ty0 : Nat → FieldType) (hty : ∀ k, k < N → parseFieldDescriptor (T k).2.2.1 = some (ty0 k)) (hnm : ∀ a, a < N → ∀ b, b < N → a ≠ b → (T a).2.1 ≠ (T b).2.1) (hfin : (T k).2.2.2 = false) {v : Value} (hn : narrow (ty0 k) v = v) (hfit : fits (ty0 k) v = true) (hl : k < fs.length) {ws' : va_W} (hws : ws.set q0 (a, .inr (ci, fs.set k v)) = ws') {host : String} (hw : Cond.fieldLinkNest own idx ref (T k).2.1 (T k).2.2.1 host ∈ NB) (hd : decode cc pc = .ok (.putfield idx, 3)) (kk : Z p l e R s m args below meth c D A n ce sl Q (pc + 3) lv st ws') : Z p l e R s m args below meth c D A n ce sl Q pc lv (v :: .ref a :: st) ws := by
  subst hws
  exact fun H locs ls h1 h2 h3 h4 => va_putN C.1 C.2.1 C.2.2.2.2.1 hin ty0 hty hnm C.2.2.2.1 C.2.2.2.2.2.1 h1 h2 h3 q0 he hc k hk (va_Nw.use rfl (C.2.2.2.2.2.2.1 _ hw)) (fun x hx => by rw [← hr]; exact hx) hfin (hty k hk) hn hfit hl hd (fun H1 locs1 g1 g2 g3 => kk H1 locs1 ls g1 g2 g3 h4)
theorem z_putF (C : Cx p s m args meth c own cc n rt D cI tt A) (q0 : Nat) {a ci : Nat} {fs : List Value} {CN : String} {T : u_T} {N : Nat} (he : ws[q0]? = some (a, .inr (ci, fs))) (hc : vwCl[ci]? = some (CN, T, N)) (hin : ∀ w ∈ u_ws CN T N, w ∈ TB) (k : Nat) (hk : k < N) {idx : Nat} {ref : String} (hr : (T k).1 = ref) (ty0 : Nat → FieldType) (hty : ∀ k, k < N → parseFieldDescriptor (T k).2.2.1 = some (ty0 k)) (hnm : ∀ a, a < N → ∀ b, b < N → a ≠ b → (T a).2.1 ≠ (T b).2.1) (hfin : (T k).2.2.2 = true) {v : Value} (hn : narrow (ty0 k) v = v) (hfit : fits (ty0 k) v = true) (hl : k < fs.length) {ws' : va_W} (hws : ws.set q0 (a, .inr (ci, fs.set k v)) = ws') (hw : Cond.fieldLink own idx ref (T k).2.1 (T k).2.2.1 ∈ TB) (hi : meth.name = "<init>") (hdecl : (T k).1 = own) (hd : decode cc pc = .ok (.putfield idx, 3)) (kk : Z p l e R s m args below meth c D A n ce sl Q (pc + 3) lv st ws') : Z p l e R s m args below meth c D A n ce sl Q pc lv (v :: .ref a :: st) ws := by
  subst hws
  exact fun H locs ls h1 h2 h3 h4 => va_putF C.1 C.2.1 C.2.2.2.2.1 hin ty0 hty hnm C.2.2.2.1 C.2.2.2.2.2.1 h1 h2 h3 q0 he hc k hk (C.2.2.2.2.1 _ hw) (fun x hx => by rw [← hr]; exact hx) hfin hi hdecl (hty k hk) hn hfit hl hd (fun H1 locs1 g1 g2 g3 => kk H1 locs1 ls g1 g2 g3 h4)
theorem z_iald (C : Cx p s m args meth c own cc n rt D cI tt A) (q0 : Nat) {a N : Nat} {f : Nat → Int32} (ha : ws[q0]? = some (a, .inl (cI, N, .inl f))) {i : Int32} (hi : vp_in i N) (hd : decode cc pc = .ok (.iaload, 1)) (kk : Z p l e R s m args below meth c D A n ce sl Q (pc + 1) lv (.int (f i.toNatClampNeg) :: st) ws) : Z p l e R s m args below meth c D A n ce sl Q pc lv (.int i :: .ref a :: st) ws := fun H locs ls h1 h2 h3 h4 => va_iald C.1 C.2.1 C.2.2.2.2.2.1 h1 q0 0 ha rfl hi hd (kk H locs ls h1 h2 h3 h4)
theorem z_iast (C : Cx p s m args meth c own cc n rt D cI tt A) (q0 : Nat) {a N : Nat} {f : Nat → Int32} (ha : ws[q0]? = some (a, .inl (cI, N, .inl f))) {i x : Int32} (hi : vp_in i N) {ws' : va_W} (hws : ws.set q0 (a, .inl (cI, N, .inl (upd f i.toNatClampNeg x))) = ws') (hd : decode cc pc = .ok (.iastore, 1)) (kk : Z p l e R s m args below meth c D A n ce sl Q (pc + 1) lv st ws') : Z p l e R s m args below meth c D A n ce sl Q pc lv (.int x :: .int i :: .ref a :: st) ws := by
  subst hws
  exact fun H locs ls h1 h2 h3 h4 => va_iast C.1 C.2.1 C.2.2.2.2.2.1 h1 h2 h3 q0 0 ha rfl hi hd (fun H1 locs1 g1 g2 g3 => kk H1 locs1 ls g1 g2 g3 h4)
theorem z_alen (C : Cx p s m args meth c own cc n rt D cI tt A) (q0 : Nat) {a N : Nat} {f : Nat → Int32} (ha : ws[q0]? = some (a, .inl (cI, N, .inl f))) {v : Int32} (hv : Int32.ofNat N = v) (hd : decode cc pc = .ok (.arraylength, 1)) (kk : Z p l e R s m args below meth c D A n ce sl Q (pc + 1) lv (.int v :: st) ws) : Z p l e R s m args below meth c D A n ce sl Q pc lv (.ref a :: st) ws := fun H locs ls h1 h2 h3 h4 => va_alen C.1 C.2.1 C.2.2.2.2.2.1 h1 q0 0 ha rfl hv hd (kk H locs ls h1 h2 h3 h4)
theorem z_tald (C : Cx p s m args meth c own cc n rt D cI tt A) {t N : Nat} {f : Nat → Value} (hT : va_T .int t N f A s s.heap) {i : Int32} (hi : vp_in i N) {v : Value} (hv : f i.toNatClampNeg = v) (hd : decode cc pc = .ok (.iaload, 1)) (kk : Z p l e R s m args below meth c D A n ce sl Q (pc + 1) lv (v :: st) ws) : Z p l e R s m args below meth c D A n ce sl Q pc lv (.int i :: .ref t :: st) ws := fun H locs ls h1 h2 h3 h4 => va_ti C.1 C.2.1 hT h3 hi hv hd (kk H locs ls h1 h2 h3 h4)
theorem z_tlen (C : Cx p s m args meth c own cc n rt D cI tt A) {t N : Nat} {f : Nat → Value} (hT : va_T .int t N f A s s.heap) {v : Int32} (hv : Int32.ofNat N = v) (hd : decode cc pc = .ok (.arraylength, 1)) (kk : Z p l e R s m args below meth c D A n ce sl Q (pc + 1) lv (.int v :: st) ws) : Z p l e R s m args below meth c D A n ce sl Q pc lv (.ref t :: st) ws := fun H locs ls h1 h2 h3 h4 => va_tlen C.1 C.2.1 hT h3 hv hd (kk H locs ls h1 h2 h3 h4)
theorem z_gets (C : Cx p s m args meth c own cc n rt D cI tt A) {nm : String} {t : Nat} (hZ : va_Z RX3 nm "[I" (.ref t) A s s.heap) {idx : Nat} (hw : Cond.fieldLink own idx RX3 nm "[I" ∈ TB) (hd : decode cc pc = .ok (.getstatic idx, 3)) (kk : Z p l e R s m args below meth c D A n ce sl Q (pc + 3) lv (.ref t :: st) ws) : Z p l e R s m args below meth c D A n ce sl Q pc lv st ws := fun H locs ls h1 h2 h3 h4 => va_gets C.1 C.2.1 hZ h3 C.2.2.2.1 (C.2.2.2.2.1 _ hw) (fun _ h => h) hd (kk H locs ls h1 h2 h3 h4)
theorem z_getsN (C : Cx p s m args meth c own cc n rt D cI tt A) {nm : String} {t : Nat} (hZ : va_Z RX3 nm "[I" (.ref t) A s s.heap) {idx : Nat} {host : String} (hw : Cond.fieldLinkNest own idx RX3 nm "[I" host ∈ NB) (hd : decode cc pc = .ok (.getstatic idx, 3)) (kk : Z p l e R s m args below meth c D A n ce sl Q (pc + 3) lv (.ref t :: st) ws) : Z p l e R s m args below meth c D A n ce sl Q pc lv st ws := fun H locs ls h1 h2 h3 h4 => va_getsN C.1 C.2.1 hZ h3 C.2.2.2.1 (va_Nw.use rfl (C.2.2.2.2.2.2.1 _ hw)) (fun _ h => h) hd (kk H locs ls h1 h2 h3 h4)
theorem z_mmin (C : Cx p s m args meth c own cc n rt D cI tt A) {x y : Int32} {idx : Nat} (hw : Cond.methodLink own idx yJ9_min_7cf53 ∈ TB) (hfr : 1 ≤ R.frames) (hlo : (st.map fun v => v.category).sum + 13 ≤ R.locals) (hce : ce ≤ R.cells) (hsl : sl ≤ R.slots) (hd : decode cc pc = .ok (.invokestatic idx, 3)) (kk : Z p l e R s m args below meth c D A n ce sl Q (pc + 3) lv (.int (if y < x then y else x) :: st) ws) : Z p l e R s m args below meth c D A n ce sl Q pc lv (.int y :: .int x :: st) ws := fun H locs ls h1 h2 h3 h4 => va_mmin C.1 C.2.1 (C.2.2.1.trans h4.1.symm) C.2.2.2.1 (C.2.2.2.2.1 _ hw) (C.2.2.2.2.1 _ ws_J9_min_7cf53) (C.2.2.2.2.1 _ wi_J9) (C.2.2.2.2.1 _ wc_J9_min_7cf53) hfr hlo hce hsl hd (kk H locs ls h1 h2 h3 h4)
theorem z_mmax (C : Cx p s m args meth c own cc n rt D cI tt A) {x y : Int32} {idx : Nat} (hw : Cond.methodLink own idx yJ9_max_7cf53 ∈ TB) (hfr : 1 ≤ R.frames) (hlo : (st.map fun v => v.category).sum + 13 ≤ R.locals) (hce : ce ≤ R.cells) (hsl : sl ≤ R.slots) (hd : decode cc pc = .ok (.invokestatic idx, 3)) (kk : Z p l e R s m args below meth c D A n ce sl Q (pc + 3) lv (.int (if x < y then y else x) :: st) ws) : Z p l e R s m args below meth c D A n ce sl Q pc lv (.int y :: .int x :: st) ws := fun H locs ls h1 h2 h3 h4 => va_mmax C.1 C.2.1 (C.2.2.1.trans h4.1.symm) C.2.2.2.1 (C.2.2.2.2.1 _ hw) (C.2.2.2.2.1 _ ws_J9_max_7cf53) (C.2.2.2.2.1 _ wi_J9) (C.2.2.2.2.1 _ wc_J9_max_7cf53) hfr hlo hce hsl hd (kk H locs ls h1 h2 h3 h4)
theorem z_conv {lv' : List (Nat × Value)} {ws' : va_W} {st' : List Value} (hl : lsub lv lv') (hw : ws = ws') (hs : st = st') (k : Z p l e R s m args below meth c D A n ce sl Q pc lv' st' ws') : Z p l e R s m args below meth c D A n ce sl Q pc lv st ws := by
  subst hw; subst hs
  exact fun H locs ls h1 h2 h3 h4 => k H locs ls h1 h2 h3 (lsub_has h4 hl)
theorem z_iret {S : Type} {post : Int32 → S → Prop} {wf : S → va_W} {v : Int32} (C : Cx p s m args meth c own cc n (some .int) D cI tt A) (u : S) (hd : decode cc pc = .ok (.ireturn, 1)) (hp : post v u) (hw : wf u = ws) : Z p l e R s m args below meth c D A n ce sl (MQ below (va_Qi post (fun u t => va_P D vwCl (wf u) t.heap) A) args s ce sl A) pc lv [.int v] ws := by
  subst hw
  exact fun H locs ls h1 h2 h3 h4 => W.iret C.1 C.2.1 C.2.2.2.2.2.2.2.2.1 (fun t ht hW => ⟨⟨v, u, rfl, hp, by show va_P D vwCl (wf u) t.heap; rw [ht]; exact h1⟩, h3.F ht⟩) h3.2.2 hd C.2.2.2.2.2.2.2.2.2.1
theorem z_zret {S : Type} {post : Int32 → S → Prop} {wf : S → va_W} {v : Int32} (C : Cx p s m args meth c own cc n (some .boolean) D cI tt A) (u : S) (hd : decode cc pc = .ok (.ireturn, 1)) (hn : narrow .boolean (.int v) = .int v) (hp : post v u) (hw : wf u = ws) : Z p l e R s m args below meth c D A n ce sl (MQ below (va_Qi post (fun u t => va_P D vwCl (wf u) t.heap) A) args s ce sl A) pc lv [.int v] ws := by
  subst hw
  exact fun H locs ls h1 h2 h3 h4 => W.zret C.1 C.2.1 C.2.2.2.2.2.2.2.2.1 hn (fun t ht hW => ⟨⟨v, u, rfl, hp, by show va_P D vwCl (wf u) t.heap; rw [ht]; exact h1⟩, h3.F ht⟩) h3.2.2 hd C.2.2.2.2.2.2.2.2.2.1
theorem z_lret {S : Type} {post : Int64 → S → Prop} {wf : S → va_W} {v : Int64} (C : Cx p s m args meth c own cc n (some .long) D cI tt A) (u : S) (hd : decode cc pc = .ok (.lreturn, 1)) (hp : post v u) (hw : wf u = ws) : Z p l e R s m args below meth c D A n ce sl (MQ below (va_Ql post (fun u t => va_P D vwCl (wf u) t.heap) A) args s ce sl A) pc lv [.long v] ws := by
  subst hw
  exact fun H locs ls h1 h2 h3 h4 => W.lret C.1 C.2.1 C.2.2.2.2.2.2.2.2.1 (fun t ht hW => ⟨⟨v, u, rfl, hp, by show va_P D vwCl (wf u) t.heap; rw [ht]; exact h1⟩, h3.F ht⟩) h3.2.2 hd C.2.2.2.2.2.2.2.2.2.1
theorem z_vret {S : Type} {post : S → Prop} {wf : S → va_W} (C : Cx p s m args meth c own cc n none D cI tt A) (u : S) (hd : decode cc pc = .ok (.return_, 1)) (hp : post u) (hw : wf u = ws) : Z p l e R s m args below meth c D A n ce sl (MQ below (va_Qv post (fun u t => va_P D vwCl (wf u) t.heap) A) args s ce sl A) pc lv [] ws := by
  subst hw
  exact fun H locs ls h1 h2 h3 h4 => W.vret C.1 C.2.1 C.2.2.2.2.2.2.2.2.1 (fun t ht hW => ⟨⟨u, rfl, hp, by show va_P D vwCl (wf u) t.heap; rw [ht]; exact h1⟩, h3.F ht⟩) h3.2.2 hd C.2.2.2.2.2.2.2.2.2.1

theorem pre_blind (wc : va_W) (sz : Nat) (av : List Value) : FrameBlind (va_Pc av (Pre D cI tt wc sz)) := fun a U g mk q => by
  obtain ⟨q0, q1, q2, q3, q4, q5, q6⟩ := q
  exact ⟨q0, q1, q2, q3, va_K.moved (u := U) (U := U.calling g mk a) (Vm.Alike.refl U.vm) q4, NN.vm (u := U) (U := U.calling g mk a) rfl q5, ST.moved (u := U) (U := U.calling g mk a) (Vm.Alike.refl U.vm) q6⟩
theorem pre_of {H : Heap} {locs : List Loc} {wc : va_W} {isC : List Nat} (C : Cx p s m args meth c own cc n rt D cI tt A) (h1 : va_P D vwCl ws H) (h2 : va_D A ws) (h3 : va_S A s.heap H locs) (hC : isC.map (fun i => ws[i]?) = wc.map some) (hnd : va_nd isC = true) : ∀ U : State, U.heap = H → s.WarmedH U.vm → Pre D cI tt wc H.size U := by
  have hm : isC.filterMap (fun i => ws[i]?) = wc := by
    have : isC.filterMap (fun i => ws[i]?) = (isC.map (fun i => ws[i]?)).filterMap id := by rw [List.filterMap_map]; rfl
    rw [this, hC, List.filterMap_map]
    simp [Function.comp_def]
  intro U hU hW
  refine ⟨by rw [hU], by rw [hU]; exact h1.sub isC hm, (h2.sub isC hnd hC).weaken (fun _ _ _ _ => trivial), va_K.moved hW.alike C.2.2.2.2.2.1, NN.warm hW C.2.2.2.2.2.2.1, ?_⟩
  rw [hU]
  exact ((ST.moved hW.alike (C.2.2.2.2.2.2.2.1.kept (fun q hq hA => h3.2.1 q hq hA)))).narrow (va_free h2 h3 C.2.2.2.2.2.2.2.2.2.2 isC hC)
theorem fix_of (C : Cx p s m args meth c own cc n rt D cI tt A) : CallFix p m c cc n s args TB own := ⟨C.1, C.2.1, C.2.2.1, C.2.2.2.1, C.2.2.2.2.1⟩
theorem good_TB {w : Cond} (h : w ∈ TB) : GoodIn TB (w :: TB) := fun x hx => by
  rcases List.mem_cons.mp hx with rfl | hx
  · exact ⟨h, good_of_word (List.mem_filter.mp h).2⟩
  · exact ⟨hx, good_of_word (List.mem_filter.mp hx).2⟩
/-- how a call is run, whatever its kind: Run st0 rest wc F says that from a state with the stack st0 over the world's heap H, the callee with the world wc comes to F's end -/
def Runs (p : Program) (l : Launch) (e : Env) (R : Room) (s : State) (m : MethodId) (args : Array Value) (below : List Frame) (meth : Method) (c : Code) (D : va_G) (A : Nat → Prop) (n ce sl : Nat) (pc : Nat) (st0 rest : List Value) (ws wc : va_W) (isC : List Nat) (Qa : Nat → Array Value → State → Outcome → State → Prop) : Prop :=
  ∀ (H : Heap) (locs : List Loc) (ls : Array Slot), va_P D vwCl ws H → va_D A ws → va_S A s.heap H locs → ls.size = n → ∃ a, va_Run p l e R s m args below meth c H locs ce sl 0 0 (F0 m pc ls st0) rest (Qa H.size a) (va_A wc H.size)
theorem z_calli {S : Type} {post : Int32 → S → Prop} {wf : S → va_W} {st0 rest : List Value} {wc : va_W} {isC : List Nat} (C : Cx p s m args meth c own cc n rt D cI tt A) (hC : isC.map (fun i => ws[i]?) = wc.map some) (he : ∀ u, (wf u).map (·.1) = wc.map (·.1)) (hr : Runs p l e R s m args below meth c D A n ce sl pc st0 rest ws wc isC (fun sz => va_Qi post (fun u t => va_P D vwCl (wf u) t.heap) (va_A wc sz)))
    (kk : ∀ (r : Int32) (u : S), post r u → Z p l e R s m args below meth c D A n ce sl Q (pc + 3) lv (.int r :: rest) (weave ws isC (wf u))) : Z p l e R s m args below meth c D A n ce sl Q pc lv st0 ws := fun H locs ls h1 h2 h3 h4 => by
  obtain ⟨a, hr⟩ := hr H locs ls h1 h2 h3 h4.1
  have hF := va_free h2 h3 C.2.2.2.2.2.2.2.2.2.2 isC hC
  refine va_calli hr h3 (fun q _ h => hF q h) hF (fun r u t H1 locs1 ht hvm hw hB hz1 hk1 hS => ?_)
  have hB1 : va_P D vwCl (wf u) H1 := by rw [← ht]; exact hB
  obtain ⟨g1, g2⟩ := va_weave h1 h2 isC hC (he u) hk1 hB1
  exact kk r u hw H1 locs1 ls g1 g2 hS h4
theorem z_calll {S : Type} {post : Int64 → S → Prop} {wf : S → va_W} {st0 rest : List Value} {wc : va_W} {isC : List Nat} (C : Cx p s m args meth c own cc n rt D cI tt A) (hC : isC.map (fun i => ws[i]?) = wc.map some) (he : ∀ u, (wf u).map (·.1) = wc.map (·.1)) (hr : Runs p l e R s m args below meth c D A n ce sl pc st0 rest ws wc isC (fun sz => va_Ql post (fun u t => va_P D vwCl (wf u) t.heap) (va_A wc sz)))
    (kk : ∀ (r : Int64) (u : S), post r u → Z p l e R s m args below meth c D A n ce sl Q (pc + 3) lv (.long r :: rest) (weave ws isC (wf u))) : Z p l e R s m args below meth c D A n ce sl Q pc lv st0 ws := fun H locs ls h1 h2 h3 h4 => by
  obtain ⟨a, hr⟩ := hr H locs ls h1 h2 h3 h4.1
  have hF := va_free h2 h3 C.2.2.2.2.2.2.2.2.2.2 isC hC
  refine va_calll hr h3 (fun q _ h => hF q h) hF (fun r u t H1 locs1 ht hvm hw hB hz1 hk1 hS => ?_)
  have hB1 : va_P D vwCl (wf u) H1 := by rw [← ht]; exact hB
  obtain ⟨g1, g2⟩ := va_weave h1 h2 isC hC (he u) hk1 hB1
  exact kk r u hw H1 locs1 ls g1 g2 hS h4
theorem z_callv {S : Type} {post : S → Prop} {wf : S → va_W} {st0 rest : List Value} {wc : va_W} {isC : List Nat} (C : Cx p s m args meth c own cc n rt D cI tt A) (hC : isC.map (fun i => ws[i]?) = wc.map some) (he : ∀ u, (wf u).map (·.1) = wc.map (·.1)) (hr : Runs p l e R s m args below meth c D A n ce sl pc st0 rest ws wc isC (fun sz => va_Qv post (fun u t => va_P D vwCl (wf u) t.heap) (va_A wc sz)))
    (kk : ∀ (u : S), post u → Z p l e R s m args below meth c D A n ce sl Q (pc + 3) lv rest (weave ws isC (wf u))) : Z p l e R s m args below meth c D A n ce sl Q pc lv st0 ws := fun H locs ls h1 h2 h3 h4 => by
  obtain ⟨a, hr⟩ := hr H locs ls h1 h2 h3 h4.1
  have hF := va_free h2 h3 C.2.2.2.2.2.2.2.2.2.2 isC hC
  refine va_callv hr h3 (fun q _ h => hF q h) hF (fun u t H1 locs1 ht hvm hw hB hz1 hk1 hS => ?_)
  have hB1 : va_P D vwCl (wf u) H1 := by rw [← ht]; exact hB
  obtain ⟨g1, g2⟩ := va_weave h1 h2 isC hC (he u) hk1 hB1
  exact kk u hw H1 locs1 ls g1 g2 hS h4
variable {y : MethodName} {bytes : ByteArray} {nY : Nat} {rY : Option FieldType} {rY' : Room} {av : List Value} {wc : va_W} {Qa : Nat → Array Value → State → Outcome → State → Prop} {isC : List Nat} {st0 rest : List Value} {idx : Nat}
/-- what a call asks of the room -/
def Fit (R rY : Room) (nY ce sl : Nat) : Prop := rY.cells = 0 ∧ rY.slots = 0 ∧ (rY.frames + 1 ≤ R.frames ∧ 8 + (nY + 11) + rY.locals ≤ R.locals) ∧ ce ≤ R.cells ∧ sl ≤ R.slots
theorem runV {CN : String} {b : Nat} {As : List Value} {nn : Nat} {ci : Nat} {q : vw_C} {fs : List Value} (C : Cx p s m args meth c own cc n rt D cI tt A) (hM : ∀ sz : Nat, Met l y (.code y bytes nY rY :: TB) rY' (va_Pc (.ref b :: As) (Pre D cI tt wc sz)) (Qa sz) 0 0 (va_A wc sz)) (hC : isC.map (fun i => ws[i]?) = wc.map some) (hnd : va_nd isC = true) (hfit : Fit R rY' nY ce sl)
    (hl : Cond.methodLink own idx y ∈ TB) (hm : Cond.instanceMethod y ∈ TB) (hs : Cond.selects CN y y ∈ TB) (hi : Cond.initialized CN ∈ TB) (hc : Cond.code y bytes nY rY ∈ TB) (hy : y.cls = CN ∧ y.cls ≠ "java/lang/invoke/MethodHandle" ∧ y.cls ≠ "java/lang/invoke/VarHandle" ∧ (parseMethodDescriptor y.desc).map (fun d => d.parameters.length) = some nn) (hAs : As.length = nn)
    (q0 : Nat) (hq : ws[q0]? = some (b, .inr (ci, fs))) (hcl : vwCl[ci]? = some q) (hqn : q.1 = CN) (hst : st0 = As.reverse ++ .ref b :: rest) (hcat : (rest.map fun v => v.category).sum ≤ 8) (hd : decode cc pc = .ok (.invokevirtual idx, 3)) :
    Runs p l e R s m args below meth c D A n ce sl pc st0 rest ws wc isC Qa := fun H locs ls h1 h2 h3 h4 => by
  subst hqn
  obtain ⟨f1, f2, f3, f4, f5⟩ := hfit
  refine ⟨(.ref b :: As).toArray, va_runV (fix_of C) (hM H.size) (C := q.1) (n := nn) (cwV nn C.2.2.2.2.1 (fun w hw => ?_) rfl f1 f2 hy f3) ⟨pre_blind wc H.size _, va_recv C.2.2.2.2.2.1 h1 hcl hq, fun U hU hW => ⟨rfl, pre_of C h1 h2 h3 hC hnd U hU hW⟩⟩ rfl hAs h4 hst (lv_room hcat) hd ⟨f4, f5⟩⟩
  rcases List.mem_append.mp hw with hw | hw
  · have : w = .methodLink own idx y ∨ w = .instanceMethod y ∨ w = .selects q.1 y y ∨ w = .initialized q.1 := by simpa [wsV] using hw
    rcases this with rfl | rfl | rfl | rfl
    · exact good_TB hl _ List.mem_cons_self
    · exact good_TB hm _ List.mem_cons_self
    · exact good_TB hs _ List.mem_cons_self
    · exact good_TB hi _ List.mem_cons_self
  · exact good_TB hc w hw
theorem runVN {CN host : String} {b : Nat} {As : List Value} {nn : Nat} {ci : Nat} {q : vw_C} {fs : List Value} (C : Cx p s m args meth c own cc n rt D cI tt A) (hM : ∀ sz : Nat, Met l y (.code y bytes nY rY :: TB) rY' (va_Pc (.ref b :: As) (Pre D cI tt wc sz)) (Qa sz) 0 0 (va_A wc sz)) (hC : isC.map (fun i => ws[i]?) = wc.map some) (hnd : va_nd isC = true) (hfit : Fit R rY' nY ce sl)
    (hl : Cond.methodLinkNest own idx y host ∈ NB) (hm : Cond.instanceMethod y ∈ TB) (hs : Cond.selects CN y y ∈ TB) (hi : Cond.initialized CN ∈ TB) (hc : Cond.code y bytes nY rY ∈ TB) (hy : y.cls = CN ∧ y.cls ≠ "java/lang/invoke/MethodHandle" ∧ y.cls ≠ "java/lang/invoke/VarHandle" ∧ (parseMethodDescriptor y.desc).map (fun d => d.parameters.length) = some nn) (hAs : As.length = nn)
    (q0 : Nat) (hq : ws[q0]? = some (b, .inr (ci, fs))) (hcl : vwCl[ci]? = some q) (hqn : q.1 = CN) (hst : st0 = As.reverse ++ .ref b :: rest) (hcat : (rest.map fun v => v.category).sum ≤ 8) (hd : decode cc pc = .ok (.invokevirtual idx, 3)) :
    Runs p l e R s m args below meth c D A n ce sl pc st0 rest ws wc isC Qa := fun H locs ls h1 h2 h3 h4 => by
  subst hqn
  obtain ⟨f1, f2, f3, f4, f5⟩ := hfit
  obtain ⟨y1, y2⟩ := hy
  exact ⟨(.ref b :: As).toArray, va_runVN (fix_of C) (hM H.size) (C := q.1) (n := nn) ⟨va_cnB nn C.2.2.2.2.1 (good_TB hc) rfl f1 f2 (C.2.2.2.2.2.2.1 _ hl) (by rw [y1]; exact C.2.2.2.2.1 _ hi) y2 f3, C.2.2.2.2.1 _ hm, C.2.2.2.2.1 _ hs⟩ ⟨pre_blind wc H.size _, va_recv C.2.2.2.2.2.1 h1 hcl hq, fun U hU hW => ⟨rfl, pre_of C h1 h2 h3 hC hnd U hU hW⟩⟩ rfl hAs h4 hst (lv_room hcat) hd ⟨f4, f5⟩⟩
theorem runS {As : List Value} {nn : Nat} (C : Cx p s m args meth c own cc n rt D cI tt A) (hM : ∀ sz : Nat, Met l y (.code y bytes nY rY :: TB) rY' (va_Pc As (Pre D cI tt wc sz)) (Qa sz) 0 0 (va_A wc sz)) (hC : isC.map (fun i => ws[i]?) = wc.map some) (hnd : va_nd isC = true) (hfit : Fit R rY' nY ce sl)
    (hl : Cond.methodLink own idx y ∈ TB) (hm : Cond.static y ∈ TB) (hi : Cond.initialized y.cls ∈ TB) (hc : Cond.code y bytes nY rY ∈ TB) (hy : y.cls ≠ "java/lang/invoke/MethodHandle" ∧ y.cls ≠ "java/lang/invoke/VarHandle" ∧ (parseMethodDescriptor y.desc).map (fun d => d.parameters.length) = some nn) (hAs : As.length = nn)
    (hst : st0 = As.reverse ++ rest) (hcat : (rest.map fun v => v.category).sum ≤ 8) (hd : decode cc pc = .ok (.invokestatic idx, 3)) :
    Runs p l e R s m args below meth c D A n ce sl pc st0 rest ws wc isC Qa := fun H locs ls h1 h2 h3 h4 => by
  obtain ⟨f1, f2, f3, f4, f5⟩ := hfit
  refine ⟨As.toArray, va_runS (fix_of C) (hM H.size) (n := nn) (va_cwS nn C.2.2.2.2.1 (fun w hw => ?_) rfl f1 f2 hy f3) ⟨pre_blind wc H.size _, fun U hU hW => ⟨rfl, pre_of C h1 h2 h3 hC hnd U hU hW⟩⟩ rfl hAs h4 hst (lv_room hcat) hd ⟨f4, f5⟩⟩
  rcases List.mem_append.mp hw with hw | hw
  · have : w = .methodLink own idx y ∨ w = .static y ∨ w = .initialized y.cls := by simpa using hw
    rcases this with rfl | rfl | rfl
    · exact good_TB hl _ List.mem_cons_self
    · exact good_TB hm _ List.mem_cons_self
    · exact good_TB hi _ List.mem_cons_self
  · exact good_TB hc w hw
theorem runSN {host : String} {As : List Value} {nn : Nat} (C : Cx p s m args meth c own cc n rt D cI tt A) (hM : ∀ sz : Nat, Met l y (.code y bytes nY rY :: TB) rY' (va_Pc As (Pre D cI tt wc sz)) (Qa sz) 0 0 (va_A wc sz)) (hC : isC.map (fun i => ws[i]?) = wc.map some) (hnd : va_nd isC = true) (hfit : Fit R rY' nY ce sl)
    (hl : Cond.methodLinkNest own idx y host ∈ NB) (hm : Cond.static y ∈ TB) (hi : Cond.initialized y.cls ∈ TB) (hc : Cond.code y bytes nY rY ∈ TB) (hy : y.cls ≠ "java/lang/invoke/MethodHandle" ∧ y.cls ≠ "java/lang/invoke/VarHandle" ∧ (parseMethodDescriptor y.desc).map (fun d => d.parameters.length) = some nn) (hAs : As.length = nn)
    (hst : st0 = As.reverse ++ rest) (hcat : (rest.map fun v => v.category).sum ≤ 8) (hd : decode cc pc = .ok (.invokestatic idx, 3)) :
    Runs p l e R s m args below meth c D A n ce sl pc st0 rest ws wc isC Qa := fun H locs ls h1 h2 h3 h4 => by
  obtain ⟨f1, f2, f3, f4, f5⟩ := hfit
  exact ⟨As.toArray, va_runSN (fix_of C) (hM H.size) (n := nn) ⟨va_cnB nn C.2.2.2.2.1 (good_TB hc) rfl f1 f2 (C.2.2.2.2.2.2.1 _ hl) (C.2.2.2.2.1 _ hi) hy f3, C.2.2.2.2.1 _ hm, trivial⟩ ⟨pre_blind wc H.size _, fun U hU hW => ⟨rfl, pre_of C h1 h2 h3 hC hnd U hU hW⟩⟩ rfl hAs h4 hst (lv_room hcat) hd ⟨f4, f5⟩⟩
end ZR
/-- a method's contract out of its walk -/
theorem met_of {S : Type} {l : Launch} {y : MethodName} {cc : ByteArray} {nY : Nat} {rt : Option FieldType} {R : Room} {D : va_G} {cI : ClassId} {tt : Nat × Nat × Nat} {av : List Value} {ws : va_W} {Qc : (Nat → Prop) → Array Value → State → Outcome → State → Prop} (hy : plainName y.cls = true) (hn : (lg_sl av).length ≤ nY)
    (body : ∀ (p : Program) (e : Env) (s : State) (m : MethodId) (args : Array Value) (below : List Frame) (meth : Method) (c : Code) (A : Nat → Prop), Cx p s m args meth c y.cls cc nY rt D cI tt A → (y.name = "<init>" → meth.name = "<init>") → Z p l e R s m args below meth c D A nY 0 0 (MQ below (Qc A) args s 0 0 A) 0 (lv_args 0 av) [] ws) :
    ∀ sz : Nat, Met l y (.code y cc nY rt :: TB) R (va_Pc av (Pre D cI tt ws sz)) (Qc (va_A ws sz)) 0 0 (va_A ws sz) := fun sz => by
  refine Met.ofW (cc := cc) (maxL := nY) (ret := rt) hy rfl ?_
  intro p e s m args below meth c s₁ B hml hv
  obtain ⟨rfl, hsz, hP, hD, hK, hN, hST⟩ := hv
  have hts : ∀ w ∈ (.code y cc nY rt :: TB : List Cond), w.before av.toArray s = true := atoms_spec (ws := .code y cc nY rt :: TB) B.pre
  have hown : s.vm.findClass y.cls = some m.cls := findClass_of_methodNamed B.named
  subst hsz
  have hl := lv_entry av (n := nY) hn
  rw [lg_entry_eq]
  exact body p e s m av.toArray below meth c (va_A ws s.heap.size) ⟨B.exec, B.bytes, hml, hown, fun w hw => hts w (List.mem_cons_of_mem _ hw), hK, hN, hST, B.returns, B.notSynchronized, fun q hq => Or.inr hq⟩ (fun h => by rw [← h]; exact (name_of_methodNamed B.named B.method).1) s.heap [] _ hP hD.self va_S.rf hl
end
section
section ZM
variable {S : Type} {l : Launch} {y : MethodName} {cc : ByteArray} {nY : Nat} {rt : Option FieldType} {R : Room} {D : va_G} {cI : ClassId} {tt : Nat × Nat × Nat} {av : List Value} {ws : va_W} {wf : S → va_W}
theorem met_ofI {post : Int32 → S → Prop} (hy : plainName y.cls = true) (hn : (lg_sl av).length ≤ nY)
    (body : ∀ (p : Program) (e : Env) (s : State) (m : MethodId) (args : Array Value) (below : List Frame) (meth : Method) (c : Code) (A : Nat → Prop), Cx p s m args meth c y.cls cc nY rt D cI tt A → (y.name = "<init>" → meth.name = "<init>") → Z p l e R s m args below meth c D A nY 0 0 (MQ below (va_Qi post (fun u t => va_P D vwCl (wf u) t.heap) A) args s 0 0 A) 0 (lv_args 0 av) [] ws) :
    MetI l y cc nY rt R D cI tt av ws post wf := met_of (S := S) (Qc := fun A => va_Qi post (fun u t => va_P D vwCl (wf u) t.heap) A) hy hn body
theorem met_ofL {post : Int64 → S → Prop} (hy : plainName y.cls = true) (hn : (lg_sl av).length ≤ nY)
    (body : ∀ (p : Program) (e : Env) (s : State) (m : MethodId) (args : Array Value) (below : List Frame) (meth : Method) (c : Code) (A : Nat → Prop), Cx p s m args meth c y.cls cc nY rt D cI tt A → (y.name = "<init>" → meth.name = "<init>") → Z p l e R s m args below meth c D A nY 0 0 (MQ below (va_Ql post (fun u t => va_P D vwCl (wf u) t.heap) A) args s 0 0 A) 0 (lv_args 0 av) [] ws) :
    MetL l y cc nY rt R D cI tt av ws post wf := met_of (S := S) (Qc := fun A => va_Ql post (fun u t => va_P D vwCl (wf u) t.heap) A) hy hn body
theorem met_ofV {post : S → Prop} (hy : plainName y.cls = true) (hn : (lg_sl av).length ≤ nY)
    (body : ∀ (p : Program) (e : Env) (s : State) (m : MethodId) (args : Array Value) (below : List Frame) (meth : Method) (c : Code) (A : Nat → Prop), Cx p s m args meth c y.cls cc nY rt D cI tt A → (y.name = "<init>" → meth.name = "<init>") → Z p l e R s m args below meth c D A nY 0 0 (MQ below (va_Qv post (fun u t => va_P D vwCl (wf u) t.heap) A) args s 0 0 A) 0 (lv_args 0 av) [] ws) :
    MetV l y cc nY rt R D cI tt av ws post wf := met_of (S := S) (Qc := fun A => va_Qv post (fun u t => va_P D vwCl (wf u) t.heap) A) hy hn body
end ZM
section ZN
variable {p : Program} {l : Launch} {e : Env} {R : Room} {s : State} {m : MethodId} {args : Array Value} {below : List Frame} {meth : Method} {c : Code} {D : va_G} {A : Nat → Prop} {n ce sl : Nat} {Q : State → Prop} {pc : Nat} {lv : List (Nat × Value)} {st : List Value} {ws : va_W}
theorem z_ws {ws' : va_W} {st' : List Value} (hw : ws = ws') (hs : st = st') (k : Z p l e R s m args below meth c D A n ce sl Q pc lv st' ws') : Z p l e R s m args below meth c D A n ce sl Q pc lv st ws := by
  subst hw; subst hs
  exact k
theorem z_lv {lv' : List (Nat × Value)} (hl : lsub lv lv') (k : Z p l e R s m args below meth c D A n ce sl Q pc lv' st ws) : Z p l e R s m args below meth c D A n ce sl Q pc lv st ws := fun H locs ls h1 h2 h3 h4 => k H locs ls h1 h2 h3 (lsub_has h4 hl)
theorem z_topi {x : Int32} (k : ∀ y : Int32, y = x → Z p l e R s m args below meth c D A n ce sl Q pc lv (.int y :: st) ws) : Z p l e R s m args below meth c D A n ce sl Q pc lv (.int x :: st) ws := k x rfl
theorem z_topl {x : Int64} (k : ∀ y : Int64, y = x → Z p l e R s m args below meth c D A n ce sl Q pc lv (.long y :: st) ws) : Z p l e R s m args below meth c D A n ce sl Q pc lv (.long x :: st) ws := k x rfl
theorem z_seti {x y : Int32} (h : x = y) (k : Z p l e R s m args below meth c D A n ce sl Q pc lv (.int y :: st) ws) : Z p l e R s m args below meth c D A n ce sl Q pc lv (.int x :: st) ws := by subst h; exact k
end ZN
/-! calls over the whole world -/
theorem va_nd_of {l : List Nat} : l.Nodup → va_nd l = true := by
  induction l with
  | nil => intro _; rfl
  | cons a t ih =>
    intro h
    rw [List.nodup_cons] at h
    show (decide (a ∉ t) && va_nd t) = true
    rw [ih h.2, Bool.and_true]
    exact decide_eq_true h.1
theorem full_nd (ws : va_W) : va_nd (List.range ws.length) = true := va_nd_of List.nodup_range
theorem full_hC (ws : va_W) : (List.range ws.length).map (fun i => ws[i]?) = ws.map some := by
  apply List.ext_getElem?
  intro k
  rw [List.getElem?_map, List.getElem?_map]
  by_cases h : k < ws.length
  · rw [List.getElem?_range h]
    simp [h]
  · have h1 : (List.range ws.length)[k]? = none := by rw [List.getElem?_eq_none]; simp; omega
    rw [h1, List.getElem?_eq_none (by omega)]
    rfl
section ZF
variable {S : Type} {p : Program} {l : Launch} {e : Env} {R : Room} {s : State} {m : MethodId} {args : Array Value} {below : List Frame} {meth : Method} {c : Code} {D : va_G} {A : Nat → Prop} {n ce sl : Nat} {Q : State → Prop} {own : String} {cc : ByteArray} {rt : Option FieldType} {cI : ClassId} {tt : Nat × Nat × Nat} {pc : Nat} {lv : List (Nat × Value)} {st0 rest : List Value} {ws : va_W} {wf : S → va_W}
theorem z_calliF {post : Int32 → S → Prop} (C : Cx p s m args meth c own cc n rt D cI tt A) (he : ∀ u, (wf u).map (·.1) = ws.map (·.1)) (hr : Runs p l e R s m args below meth c D A n ce sl pc st0 rest ws ws (List.range ws.length) (fun sz => va_Qi post (fun u t => va_P D vwCl (wf u) t.heap) (va_A ws sz)))
    (kk : ∀ (r : Int32) (u : S), post r u → Z p l e R s m args below meth c D A n ce sl Q (pc + 3) lv (.int r :: rest) (wf u)) : Z p l e R s m args below meth c D A n ce sl Q pc lv st0 ws := fun H locs ls h1 h2 h3 h4 => by
  obtain ⟨a, hr⟩ := hr H locs ls h1 h2 h3 h4.1
  have hF := va_free h2 h3 C.2.2.2.2.2.2.2.2.2.2 _ (full_hC ws)
  refine va_calli hr h3 (fun q _ h => hF q h) hF (fun r u t H1 locs1 ht hvm hw hB hz1 hk1 hS => ?_)
  have hB1 : va_P D vwCl (wf u) H1 := by rw [← ht]; exact hB
  exact kk r u hw H1 locs1 ls hB1 (va_D_addr h2 (he u)) hS h4
theorem z_calllF {post : Int64 → S → Prop} (C : Cx p s m args meth c own cc n rt D cI tt A) (he : ∀ u, (wf u).map (·.1) = ws.map (·.1)) (hr : Runs p l e R s m args below meth c D A n ce sl pc st0 rest ws ws (List.range ws.length) (fun sz => va_Ql post (fun u t => va_P D vwCl (wf u) t.heap) (va_A ws sz)))
    (kk : ∀ (r : Int64) (u : S), post r u → Z p l e R s m args below meth c D A n ce sl Q (pc + 3) lv (.long r :: rest) (wf u)) : Z p l e R s m args below meth c D A n ce sl Q pc lv st0 ws := fun H locs ls h1 h2 h3 h4 => by
  obtain ⟨a, hr⟩ := hr H locs ls h1 h2 h3 h4.1
  have hF := va_free h2 h3 C.2.2.2.2.2.2.2.2.2.2 _ (full_hC ws)
  refine va_calll hr h3 (fun q _ h => hF q h) hF (fun r u t H1 locs1 ht hvm hw hB hz1 hk1 hS => ?_)
  have hB1 : va_P D vwCl (wf u) H1 := by rw [← ht]; exact hB
  exact kk r u hw H1 locs1 ls hB1 (va_D_addr h2 (he u)) hS h4
theorem z_callvF {post : S → Prop} (C : Cx p s m args meth c own cc n rt D cI tt A) (he : ∀ u, (wf u).map (·.1) = ws.map (·.1)) (hr : Runs p l e R s m args below meth c D A n ce sl pc st0 rest ws ws (List.range ws.length) (fun sz => va_Qv post (fun u t => va_P D vwCl (wf u) t.heap) (va_A ws sz)))
    (kk : ∀ (u : S), post u → Z p l e R s m args below meth c D A n ce sl Q (pc + 3) lv rest (wf u)) : Z p l e R s m args below meth c D A n ce sl Q pc lv st0 ws := fun H locs ls h1 h2 h3 h4 => by
  obtain ⟨a, hr⟩ := hr H locs ls h1 h2 h3 h4.1
  have hF := va_free h2 h3 C.2.2.2.2.2.2.2.2.2.2 _ (full_hC ws)
  refine va_callv hr h3 (fun q _ h => hF q h) hF (fun u t H1 locs1 ht hvm hw hB hz1 hk1 hS => ?_)
  have hB1 : va_P D vwCl (wf u) H1 := by rw [← ht]; exact hB
  exact kk u hw H1 locs1 ls hB1 (va_D_addr h2 (he u)) hS h4
end ZF
/-- the class's world, and the reference's -/
def cW (cI : ClassId) (a : Nat → Nat) (i : Nat → Int32) (r : Nat → Nat → Int32) : va_W :=
  [(a 0, .inr (3, [.ref (a 1), .ref (a 3), .ref (a 6), .ref (a 12), .ref (a 18), .int (i 0), .int (i 1), .int (i 2)])),
   (a 1, .inr (0, [.ref (a 2), .int (i 3)])), (a 2, .inl (cI, 15, .inl (r 0))),
   (a 3, .inr (1, [.ref (a 4), .int (i 4), .ref (a 5), .int (i 5), .int (i 6), .int (i 7), .int (i 8), .int (i 9)])), (a 4, .inl (cI, 6, .inl (r 1))), (a 5, .inl (cI, 5, .inl (r 2))),
   (a 6, .inr (2, [.int (i 10), .ref (a 7), .int (i 11), .int (i 12), .int (i 13), .ref (a 8), .ref (a 9), .ref (a 10), .ref (a 11)])), (a 7, .inl (cI, 5, .inl (r 3))), (a 8, .inl (cI, 6, .inl (r 4))), (a 9, .inl (cI, 6, .inl (r 5))), (a 10, .inl (cI, 6, .inl (r 6))), (a 11, .inl (cI, 6, .inl (r 7))),
   (a 12, .inr (2, [.int (i 14), .ref (a 13), .int (i 15), .int (i 16), .int (i 17), .ref (a 14), .ref (a 15), .ref (a 16), .ref (a 17)])), (a 13, .inl (cI, 5, .inl (r 8))), (a 14, .inl (cI, 6, .inl (r 9))), (a 15, .inl (cI, 6, .inl (r 10))), (a 16, .inl (cI, 6, .inl (r 11))), (a 17, .inl (cI, 6, .inl (r 12))),
   (a 18, .inl (cI, 5, .inl (r 13)))]
def mW (cI : ClassId) (b : Nat → Nat) (i : Nat → Int32) (r : Nat → Nat → Int32) (h : Int64) : va_W :=
  [(b 0, .inr (4, [.ref (b 1), .int (i 1), .int (i 2), .int (i 3), .int (i 4), .int (i 5), .int (i 6), .int (i 7), .ref (b 2), .ref (b 3), .int (i 10), .int (i 11), .int (i 12), .ref (b 4), .int (i 14), .int (i 15), .ref (b 5), .ref (b 6), .int (i 18), .ref (b 7), .int (i 20), .int (i 21), .int (i 22), .int (i 23), .int (i 24), .ref (b 8), .ref (b 9), .long h])),
   (b 1, .inl (cI, 15, .inl (r 0))), (b 2, .inl (cI, 6, .inl (r 1))), (b 3, .inl (cI, 7, .inl (r 2))), (b 4, .inl (cI, 7, .inl (r 3))), (b 5, .inl (cI, 24, .inl (r 4))), (b 6, .inl (cI, 7, .inl (r 5))), (b 7, .inl (cI, 7, .inl (r 6))), (b 8, .inl (cI, 7, .inl (r 7))), (b 9, .inl (cI, 24, .inl (r 8)))]
theorem cW_ad {cI : ClassId} {a : Nat → Nat} {i i' : Nat → Int32} {r r' : Nat → Nat → Int32} : (cW cI a i r).map (·.1) = (cW cI a i' r').map (·.1) := rfl
theorem mW_ad {cI : ClassId} {a : Nat → Nat} {i i' : Nat → Int32} {r r' : Nat → Nat → Int32} {h h' : Int64} : (mW cI a i r h).map (·.1) = (mW cI a i' r' h').map (·.1) := rfl
end
section
/-! small pure rows -/
theorem i_nlt {x y : Int32} : ¬ x < y ↔ y ≤ x := by simp only [Int32.lt_iff_toInt_lt, Int32.le_iff_toInt_le]; omega
theorem i_nle {x y : Int32} : ¬ x ≤ y ↔ y < x := by simp only [Int32.lt_iff_toInt_lt, Int32.le_iff_toInt_le]; omega
theorem vp_of {k : Int32} {N : Nat} (h : ¬ k < 0) (h2 : ¬ nI N ≤ k) (hN : N < 2 ^ 31) : vp_in k N := by
  rw [vp_in_iff]
  simp only [Int32.lt_iff_toInt_lt, Int32.le_iff_toInt_le, nI_toInt hN] at h h2
  have : (0 : Int32).toInt = 0 := rfl
  omega
/-- a row read, written, copied, looked at before -/
def atv (N : Nat) (f : Nat → Int32) (k : Int32) : Int32 := if k < 0 then 0 else if nI N ≤ k then 0 else f k.toNatClampNeg
def putv (N : Nat) (f : Nat → Int32) (k v : Int32) : Nat → Int32 := if k < 0 then f else if nI N ≤ k then f else upd f k.toNatClampNeg v
def cpv (n1 : Nat) (f1 : Nat → Int32) (n2 : Nat) (f2 : Nat → Int32) : Nat → Nat → Int32
  | 0 => f2
  | j + 1 => putv n2 (cpv n1 f1 n2 f2 j) (nI j) (atv n1 f1 (nI j))
def sumv (f : Nat → Int32) : Nat → Int32
  | 0 => 0
  | j + 1 => sumv f j + f j
def b2 (b : Bool) : Int32 := if b = true then 1 else 0
theorem b2_f {b : Bool} (h : b2 b = 0) : b = false := by cases b <;> first | rfl | exact absurd h (by decide)
theorem b2_t {b : Bool} (h : ¬ b2 b = 0) : b = true := by cases b <;> first | rfl | exact absurd rfl h
def noStage (y : Int32) : Bool := decide (y < 1) || !decide (y ≤ 6)
def noFood (f : Int32) : Bool := decide (f < 0) || !decide (f ≤ 40)
def noPeople (n : Nat) (x : Int32) : Bool := decide (x < 1) || !decide (x ≤ nI (2 ^ n - 1))
def noMarch (n : Nat) (x y f : Int32) : Bool := noPeople n x || (noStage y || noFood f)
def isOfv (o k : Int32) : Int32 := if k = 0 then 1 else if o = k then 1 else if k = 2 ∧ o = 4 then 1 else 0
def kindOfv (c : Int32) : Int32 := if c = 109 then 0 else if c = 112 then 1 else if c = 100 then 2 else if c = 98 then 3 else if c = 104 then 4 else -1
def nextSeedv (x : Int32) : Int32 := (1103515245 * x + 12345) &&& 2147483647
def bcv (x : Int32) : Int32 :=
  let t1 := x - ((x.toUInt32 >>> ((1 : Int32).toUInt32 &&& Int32.toUInt32 31)).toInt32 &&& 1431655765)
  let t2 := (t1 &&& 858993459) + ((t1.toUInt32 >>> ((2 : Int32).toUInt32 &&& Int32.toUInt32 31)).toInt32 &&& 858993459)
  let t3 := (t2 + (t2.toUInt32 >>> ((4 : Int32).toUInt32 &&& Int32.toUInt32 31)).toInt32) &&& 252645135
  let t4 := t3 + (t3.toUInt32 >>> ((8 : Int32).toUInt32 &&& Int32.toUInt32 31)).toInt32
  let t5 := t4 + (t4.toUInt32 >>> ((16 : Int32).toUInt32 &&& Int32.toUInt32 31)).toInt32
  t5 &&& 63
theorem atv_nI {N : Nat} {f : Nat → Int32} {j : Nat} (hj : j < N) (hN : N < 2 ^ 31) : atv N f (nI j) = f j := by
  unfold atv
  rw [if_neg (nI_pos (by omega)), if_neg (nI_ge hj hN), nI_clamp (by omega)]
theorem putv_nI {N : Nat} {f : Nat → Int32} {j : Nat} {v : Int32} (hj : j < N) (hN : N < 2 ^ 31) : putv N f (nI j) v = upd f j v := by
  unfold putv
  rw [if_neg (nI_pos (by omega)), if_neg (nI_ge hj hN), nI_clamp (by omega)]
theorem cpv_at {n1 n2 : Nat} {f1 f2 : Nat → Int32} (h1 : n1 < 2 ^ 31) (h2 : n2 < 2 ^ 31) : ∀ (j : Nat), j ≤ n1 → j ≤ n2 → ∀ k, cpv n1 f1 n2 f2 j k = if k < j then f1 k else f2 k
  | 0, _, _, k => by simp [cpv]
  | j + 1, ha, hb, k => by
    unfold cpv
    rw [putv_nI (by omega) h2, atv_nI (by omega) h1]
    unfold upd
    by_cases e : k = j
    · subst e; simp
    · rw [if_neg e, cpv_at h1 h2 j (by omega) (by omega) k]
      by_cases e2 : k < j
      · rw [if_pos e2, if_pos (by omega)]
      · rw [if_neg e2, if_neg (by omega)]
end
section
set_option maxHeartbeats 4000000 in
set_option maxRecDepth 100000 in
theorem c_at (l : Launch) (D : va_G) (cI : ClassId) (tt : Nat × Nat × Nat) (b N : Nat) (f : Nat → Int32) (k : Int32) (hN : N < 2 ^ 31) : MetI (S := Unit) l yX3_at cX3_at 2 (some .int) (rm 0 0) D cI tt [.ref b, .int k] [(b, .inl (cI, N, .inl f))] (fun r _ => r = atv N f k) (fun _ => [(b, .inl (cI, N, .inl f))]) := by
  refine met_ofI (by decide) (Nat.le_of_ble_eq_true rfl) ?_
  intro pP eE sS mM aV bB mE cC AA C hin
  refine z_conv (lv' := [(0, .ref b), (1, .int k)]) ⟨rfl, rfl, trivial⟩ rfl rfl ?_
  refine z_aload_n C (pc := 0) dX3_at_0 rfl ?_
  refine z_ifnull C (pc := 1) dX3_at_1 ?_
  refine z_iload_n C (pc := 4) dX3_at_4 rfl ?_
  refine z_if_lt C (pc := 5) (tgt := 20) dX3_at_5 (by decide) (fun c_1 => ?_) (fun c_1 => ?_)
  · refine z_iconst C (pc := 20) (v := 0) dX3_at_20 (by decide) ?_
    refine z_iret C (pc := 21) () dX3_at_21 ?_ rfl
    simp only [atv, reduceIte, c_1]
  · refine z_iload_n C (pc := 8) dX3_at_8 rfl ?_
    refine z_aload_n C (pc := 9) dX3_at_9 rfl ?_
    refine z_alen C (pc := 10) 0 rfl (v := (nI N)) rfl dX3_at_10 ?_
    refine z_icmp_ge C (pc := 11) (tgt := 20) dX3_at_11 (by decide) (fun c_2 => ?_) (fun c_2 => ?_)
    · refine z_iconst C (pc := 20) (v := 0) dX3_at_20 (by decide) ?_
      refine z_iret C (pc := 21) () dX3_at_21 ?_ rfl
      simp only [atv, reduceIte, c_1, c_2]
    · refine z_aload_n C (pc := 14) dX3_at_14 rfl ?_
      refine z_iload_n C (pc := 15) dX3_at_15 rfl ?_
      have h_3 : vp_in k N := by exact vp_of c_1 c_2 hN
      refine z_iald C (pc := 16) 0 rfl h_3 dX3_at_16 ?_
      refine z_goto C (pc := 17) (tgt := 21) dX3_at_17 (by decide) ?_
      refine z_iret C (pc := 21) () dX3_at_21 ?_ rfl
      simp only [atv, reduceIte, c_1, c_2]

set_option maxHeartbeats 4000000 in
set_option maxRecDepth 100000 in
theorem c_atP (l : Launch) (D : va_G) (cI : ClassId) (tt : Nat × Nat × Nat) (k : Int32) : MetI (S := Unit) l yX3_at cX3_at 2 (some .int) (rm 0 0) D cI tt [.ref tt.1, .int k] [] (fun r _ => r = atv 5 pullsV k) (fun _ => []) := by
  refine met_ofI (by decide) (Nat.le_of_ble_eq_true rfl) ?_
  intro pP eE sS mM aV bB mE cC AA C hin
  refine z_conv (lv' := [(0, .ref tt.1), (1, .int k)]) ⟨rfl, rfl, trivial⟩ rfl rfl ?_
  refine z_aload_n C (pc := 0) dX3_at_0 rfl ?_
  refine z_ifnull C (pc := 1) dX3_at_1 ?_
  refine z_iload_n C (pc := 4) dX3_at_4 rfl ?_
  refine z_if_lt C (pc := 5) (tgt := 20) dX3_at_5 (by decide) (fun c_1 => ?_) (fun c_1 => ?_)
  · refine z_iconst C (pc := 20) (v := 0) dX3_at_20 (by decide) ?_
    refine z_iret C (pc := 21) () dX3_at_21 ?_ rfl
    simp only [atv, reduceIte, c_1]
  · refine z_iload_n C (pc := 8) dX3_at_8 rfl ?_
    refine z_aload_n C (pc := 9) dX3_at_9 rfl ?_
    refine z_tlen C (pc := 10) C.2.2.2.2.2.2.2.1.1.2 (v := (nI 5)) rfl dX3_at_10 ?_
    refine z_icmp_ge C (pc := 11) (tgt := 20) dX3_at_11 (by decide) (fun c_2 => ?_) (fun c_2 => ?_)
    · refine z_iconst C (pc := 20) (v := 0) dX3_at_20 (by decide) ?_
      refine z_iret C (pc := 21) () dX3_at_21 ?_ rfl
      simp only [atv, reduceIte, c_1, c_2]
    · refine z_aload_n C (pc := 14) dX3_at_14 rfl ?_
      refine z_iload_n C (pc := 15) dX3_at_15 rfl ?_
      have h_3 : vp_in k 5 := by exact vp_of c_1 c_2 (by decide)
      refine z_tald C (pc := 16) C.2.2.2.2.2.2.2.1.1.2 h_3 (v := .int (pullsV k.toNatClampNeg)) rfl dX3_at_16 ?_
      refine z_goto C (pc := 17) (tgt := 21) dX3_at_17 (by decide) ?_
      refine z_iret C (pc := 21) () dX3_at_21 ?_ rfl
      simp only [atv, reduceIte, c_1, c_2]

set_option maxHeartbeats 4000000 in
set_option maxRecDepth 100000 in
theorem c_atE (l : Launch) (D : va_G) (cI : ClassId) (tt : Nat × Nat × Nat) (k : Int32) : MetI (S := Unit) l yX3_at cX3_at 2 (some .int) (rm 0 0) D cI tt [.ref tt.2.1, .int k] [] (fun r _ => r = atv 5 eatsV k) (fun _ => []) := by
  refine met_ofI (by decide) (Nat.le_of_ble_eq_true rfl) ?_
  intro pP eE sS mM aV bB mE cC AA C hin
  refine z_conv (lv' := [(0, .ref tt.2.1), (1, .int k)]) ⟨rfl, rfl, trivial⟩ rfl rfl ?_
  refine z_aload_n C (pc := 0) dX3_at_0 rfl ?_
  refine z_ifnull C (pc := 1) dX3_at_1 ?_
  refine z_iload_n C (pc := 4) dX3_at_4 rfl ?_
  refine z_if_lt C (pc := 5) (tgt := 20) dX3_at_5 (by decide) (fun c_1 => ?_) (fun c_1 => ?_)
  · refine z_iconst C (pc := 20) (v := 0) dX3_at_20 (by decide) ?_
    refine z_iret C (pc := 21) () dX3_at_21 ?_ rfl
    simp only [atv, reduceIte, c_1]
  · refine z_iload_n C (pc := 8) dX3_at_8 rfl ?_
    refine z_aload_n C (pc := 9) dX3_at_9 rfl ?_
    refine z_tlen C (pc := 10) C.2.2.2.2.2.2.2.1.2.1.2 (v := (nI 5)) rfl dX3_at_10 ?_
    refine z_icmp_ge C (pc := 11) (tgt := 20) dX3_at_11 (by decide) (fun c_2 => ?_) (fun c_2 => ?_)
    · refine z_iconst C (pc := 20) (v := 0) dX3_at_20 (by decide) ?_
      refine z_iret C (pc := 21) () dX3_at_21 ?_ rfl
      simp only [atv, reduceIte, c_1, c_2]
    · refine z_aload_n C (pc := 14) dX3_at_14 rfl ?_
      refine z_iload_n C (pc := 15) dX3_at_15 rfl ?_
      have h_3 : vp_in k 5 := by exact vp_of c_1 c_2 (by decide)
      refine z_tald C (pc := 16) C.2.2.2.2.2.2.2.1.2.1.2 h_3 (v := .int (eatsV k.toNatClampNeg)) rfl dX3_at_16 ?_
      refine z_goto C (pc := 17) (tgt := 21) dX3_at_17 (by decide) ?_
      refine z_iret C (pc := 21) () dX3_at_21 ?_ rfl
      simp only [atv, reduceIte, c_1, c_2]

set_option maxHeartbeats 4000000 in
set_option maxRecDepth 100000 in
theorem c_atF (l : Launch) (D : va_G) (cI : ClassId) (tt : Nat × Nat × Nat) (k : Int32) : MetI (S := Unit) l yX3_at cX3_at 2 (some .int) (rm 0 0) D cI tt [.ref tt.2.2, .int k] [] (fun r _ => r = atv 5 feedsV k) (fun _ => []) := by
  refine met_ofI (by decide) (Nat.le_of_ble_eq_true rfl) ?_
  intro pP eE sS mM aV bB mE cC AA C hin
  refine z_conv (lv' := [(0, .ref tt.2.2), (1, .int k)]) ⟨rfl, rfl, trivial⟩ rfl rfl ?_
  refine z_aload_n C (pc := 0) dX3_at_0 rfl ?_
  refine z_ifnull C (pc := 1) dX3_at_1 ?_
  refine z_iload_n C (pc := 4) dX3_at_4 rfl ?_
  refine z_if_lt C (pc := 5) (tgt := 20) dX3_at_5 (by decide) (fun c_1 => ?_) (fun c_1 => ?_)
  · refine z_iconst C (pc := 20) (v := 0) dX3_at_20 (by decide) ?_
    refine z_iret C (pc := 21) () dX3_at_21 ?_ rfl
    simp only [atv, reduceIte, c_1]
  · refine z_iload_n C (pc := 8) dX3_at_8 rfl ?_
    refine z_aload_n C (pc := 9) dX3_at_9 rfl ?_
    refine z_tlen C (pc := 10) C.2.2.2.2.2.2.2.1.2.2.2 (v := (nI 5)) rfl dX3_at_10 ?_
    refine z_icmp_ge C (pc := 11) (tgt := 20) dX3_at_11 (by decide) (fun c_2 => ?_) (fun c_2 => ?_)
    · refine z_iconst C (pc := 20) (v := 0) dX3_at_20 (by decide) ?_
      refine z_iret C (pc := 21) () dX3_at_21 ?_ rfl
      simp only [atv, reduceIte, c_1, c_2]
    · refine z_aload_n C (pc := 14) dX3_at_14 rfl ?_
      refine z_iload_n C (pc := 15) dX3_at_15 rfl ?_
      have h_3 : vp_in k 5 := by exact vp_of c_1 c_2 (by decide)
      refine z_tald C (pc := 16) C.2.2.2.2.2.2.2.1.2.2.2 h_3 (v := .int (feedsV k.toNatClampNeg)) rfl dX3_at_16 ?_
      refine z_goto C (pc := 17) (tgt := 21) dX3_at_17 (by decide) ?_
      refine z_iret C (pc := 21) () dX3_at_21 ?_ rfl
      simp only [atv, reduceIte, c_1, c_2]

set_option maxHeartbeats 4000000 in
set_option maxRecDepth 100000 in
theorem c_put (l : Launch) (D : va_G) (cI : ClassId) (tt : Nat × Nat × Nat) (b N : Nat) (f : Nat → Int32) (k v : Int32) (hN : N < 2 ^ 31) : MetV (S := (Nat → Int32)) l yX3_put cX3_put 3 none (rm 0 0) D cI tt [.ref b, .int k, .int v] [(b, .inl (cI, N, .inl f))] (fun g => g = putv N f k v) (fun g => [(b, .inl (cI, N, .inl g))]) := by
  refine met_ofV (by decide) (Nat.le_of_ble_eq_true rfl) ?_
  intro pP eE sS mM aV bB mE cC AA C hin
  refine z_conv (lv' := [(0, .ref b), (1, .int k), (2, .int v)]) ⟨rfl, rfl, rfl, trivial⟩ rfl rfl ?_
  refine z_aload_n C (pc := 0) dX3_put_0 rfl ?_
  refine z_ifnull C (pc := 1) dX3_put_1 ?_
  refine z_iload_n C (pc := 4) dX3_put_4 rfl ?_
  refine z_if_lt C (pc := 5) (tgt := 18) dX3_put_5 (by decide) (fun c_1 => ?_) (fun c_1 => ?_)
  · refine z_vret C (pc := 18) f dX3_put_18 ?_ rfl
    simp only [putv, reduceIte, c_1]
  · refine z_iload_n C (pc := 8) dX3_put_8 rfl ?_
    refine z_aload_n C (pc := 9) dX3_put_9 rfl ?_
    refine z_alen C (pc := 10) 0 rfl (v := (nI N)) rfl dX3_put_10 ?_
    refine z_icmp_ge C (pc := 11) (tgt := 18) dX3_put_11 (by decide) (fun c_2 => ?_) (fun c_2 => ?_)
    · refine z_vret C (pc := 18) f dX3_put_18 ?_ rfl
      simp only [putv, reduceIte, c_1, c_2]
    · refine z_aload_n C (pc := 14) dX3_put_14 rfl ?_
      refine z_iload_n C (pc := 15) dX3_put_15 rfl ?_
      refine z_iload_n C (pc := 16) dX3_put_16 rfl ?_
      have h_3 : vp_in k N := by exact vp_of c_1 c_2 hN
      refine z_iast C (pc := 17) 0 rfl h_3 (ws' := [(b, .inl (cI, N, .inl (upd f k.toNatClampNeg v)))]) rfl dX3_put_17 ?_
      refine z_vret C (pc := 18) (upd f k.toNatClampNeg v) dX3_put_18 ?_ rfl
      simp only [putv, reduceIte, c_1, c_2]

set_option maxHeartbeats 4000000 in
set_option maxRecDepth 100000 in
theorem c_isOf (l : Launch) (D : va_G) (cI : ClassId) (tt : Nat × Nat × Nat) (o k : Int32) : MetI (S := Unit) l yX3_isOf cX3_isOf 2 (some .boolean) (rm 0 0) D cI tt [.int o, .int k] [] (fun r _ => r = isOfv o k) (fun _ => []) := by
  refine met_ofI (by decide) (Nat.le_of_ble_eq_true rfl) ?_
  intro pP eE sS mM aV bB mE cC AA C hin
  refine z_conv (lv' := [(0, .int o), (1, .int k)]) ⟨rfl, rfl, trivial⟩ rfl rfl ?_
  refine z_iload_n C (pc := 0) dX3_isOf_0 rfl ?_
  refine z_if_eq C (pc := 1) (tgt := 19) dX3_isOf_1 (by decide) (fun c_1 => ?_) (fun c_1 => ?_)
  · refine z_iconst C (pc := 19) (v := 1) dX3_isOf_19 (by decide) ?_
    refine z_goto C (pc := 20) (tgt := 24) dX3_isOf_20 (by decide) ?_
    refine z_zret C (pc := 24) () dX3_isOf_24 rfl ?_ rfl
    simp_all [isOfv]
  · refine z_iload_n C (pc := 4) dX3_isOf_4 rfl ?_
    refine z_iload_n C (pc := 5) dX3_isOf_5 rfl ?_
    refine z_icmp_eq C (pc := 6) (tgt := 19) dX3_isOf_6 (by decide) (fun c_2 => ?_) (fun c_2 => ?_)
    · refine z_iconst C (pc := 19) (v := 1) dX3_isOf_19 (by decide) ?_
      refine z_goto C (pc := 20) (tgt := 24) dX3_isOf_20 (by decide) ?_
      refine z_zret C (pc := 24) () dX3_isOf_24 rfl ?_ rfl
      simp_all [isOfv]
    · refine z_iload_n C (pc := 9) dX3_isOf_9 rfl ?_
      refine z_iconst C (pc := 10) (v := 2) dX3_isOf_10 (by decide) ?_
      refine z_icmp_ne C (pc := 11) (tgt := 23) dX3_isOf_11 (by decide) (fun c_3 => ?_) (fun c_3 => ?_)
      · refine z_iconst C (pc := 23) (v := 0) dX3_isOf_23 (by decide) ?_
        refine z_zret C (pc := 24) () dX3_isOf_24 rfl ?_ rfl
        simp_all [isOfv]
      · refine z_iload_n C (pc := 14) dX3_isOf_14 rfl ?_
        refine z_iconst C (pc := 15) (v := 4) dX3_isOf_15 (by decide) ?_
        refine z_icmp_ne C (pc := 16) (tgt := 23) dX3_isOf_16 (by decide) (fun c_4 => ?_) (fun c_4 => ?_)
        · refine z_iconst C (pc := 23) (v := 0) dX3_isOf_23 (by decide) ?_
          refine z_zret C (pc := 24) () dX3_isOf_24 rfl ?_ rfl
          simp_all [isOfv]
        · refine z_iconst C (pc := 19) (v := 1) dX3_isOf_19 (by decide) ?_
          refine z_goto C (pc := 20) (tgt := 24) dX3_isOf_20 (by decide) ?_
          refine z_zret C (pc := 24) () dX3_isOf_24 rfl ?_ rfl
          simp_all [isOfv]

set_option maxHeartbeats 4000000 in
set_option maxRecDepth 100000 in
theorem c_nextSeed (l : Launch) (D : va_G) (cI : ClassId) (tt : Nat × Nat × Nat) (x : Int32) : MetI (S := Unit) l yX3_nextSeed cX3_nextSeed 1 (some .int) (rm 0 0) D cI tt [.int x] [] (fun r _ => r = nextSeedv x) (fun _ => []) := by
  refine met_ofI (by decide) (Nat.le_of_ble_eq_true rfl) ?_
  intro pP eE sS mM aV bB mE cC AA C hin
  refine z_conv (lv' := [(0, .int x)]) ⟨rfl, trivial⟩ rfl rfl ?_
  refine z_ldc C (pc := 0) (v := 1103515245) wl_X3_242 dX3_nextSeed_0 ?_
  refine z_iload_n C (pc := 2) dX3_nextSeed_2 rfl ?_
  refine z_imul C (pc := 3) dX3_nextSeed_3 ?_
  refine z_sipush C (pc := 4) (v := 12345) dX3_nextSeed_4 (by decide) ?_
  refine z_iadd C (pc := 7) dX3_nextSeed_7 ?_
  refine z_ldc C (pc := 8) (v := 2147483647) wl_X3_243 dX3_nextSeed_8 ?_
  refine z_iand C (pc := 10) dX3_nextSeed_10 ?_
  refine z_iret C (pc := 11) () dX3_nextSeed_11 ?_ rfl
  rfl

set_option maxHeartbeats 4000000 in
set_option maxRecDepth 100000 in
theorem c_isNoStage (l : Launch) (D : va_G) (cI : ClassId) (tt : Nat × Nat × Nat) (x : Int32) : MetI (S := Unit) l yX3_isNoStage cX3_isNoStage 1 (some .boolean) (rm 0 0) D cI tt [.int x] [] (fun q _ => q = b2 (noStage x)) (fun _ => []) := by
  refine met_ofI (by decide) (Nat.le_of_ble_eq_true rfl) ?_
  intro pP eE sS mM aV bB mE cC AA C hin
  refine z_conv (lv' := [(0, .int x)]) ⟨rfl, trivial⟩ rfl rfl ?_
  refine z_iload_n C (pc := 0) dX3_isNoStage_0 rfl ?_
  refine z_iconst C (pc := 1) (v := 1) dX3_isNoStage_1 (by decide) ?_
  refine z_icmp_lt C (pc := 2) (tgt := 11) dX3_isNoStage_2 (by decide) (fun c_1 => ?_) (fun c_1 => ?_)
  · refine z_iconst C (pc := 11) (v := 1) dX3_isNoStage_11 (by decide) ?_
    refine z_goto C (pc := 12) (tgt := 16) dX3_isNoStage_12 (by decide) ?_
    refine z_zret C (pc := 16) () dX3_isNoStage_16 rfl ?_ rfl
    simp [b2, noStage, c_1]
  · refine z_iload_n C (pc := 5) dX3_isNoStage_5 rfl ?_
    refine z_bipush C (pc := 6) (v := 6) dX3_isNoStage_6 (by decide) ?_
    refine z_icmp_le C (pc := 8) (tgt := 15) dX3_isNoStage_8 (by decide) (fun c_2 => ?_) (fun c_2 => ?_)
    · refine z_iconst C (pc := 15) (v := 0) dX3_isNoStage_15 (by decide) ?_
      refine z_zret C (pc := 16) () dX3_isNoStage_16 rfl ?_ rfl
      simp [b2, noStage, c_1, c_2]
    · refine z_iconst C (pc := 11) (v := 1) dX3_isNoStage_11 (by decide) ?_
      refine z_goto C (pc := 12) (tgt := 16) dX3_isNoStage_12 (by decide) ?_
      refine z_zret C (pc := 16) () dX3_isNoStage_16 rfl ?_ rfl
      simp [b2, noStage, c_1, c_2]
end
section
set_option maxHeartbeats 4000000 in
set_option maxRecDepth 100000 in
theorem c_kindOf (l : Launch) (D : va_G) (cI : ClassId) (tt : Nat × Nat × Nat) (x : Int32) : MetI (S := Unit) l yX3_kindOf cX3_kindOf 1 (some .int) (rm 0 0) D cI tt [.int x] [] (fun r _ => r = kindOfv x) (fun _ => []) := by
  refine met_ofI (by decide) (Nat.le_of_ble_eq_true rfl) ?_
  intro pP eE sS mM aV bB mE cC AA C hin
  refine z_conv (lv' := [(0, .int x)]) ⟨rfl, trivial⟩ rfl rfl ?_
  refine z_iload_n C (pc := 0) dX3_kindOf_0 rfl ?_
  by_cases c_1 : x = 98
  · refine z_tableIn C (pc := 1) (tgt := 82) (off := 81) dX3_kindOf_1 (by rw [c_1]; decide) (by rw [c_1]; decide) (by rw [c_1]; rfl) (by decide) ?_
    refine z_iconst C (pc := 82) (v := 3) dX3_kindOf_82 (by decide) ?_
    refine z_iret C (pc := 83) () dX3_kindOf_83 ?_ rfl
    first | (simp_all [kindOfv]; done) | (rw [c_1]; rfl)
  by_cases c_2 : x = 99
  · refine z_tableIn C (pc := 1) (tgt := 86) (off := 85) dX3_kindOf_1 (by rw [c_2]; decide) (by rw [c_2]; decide) (by rw [c_2]; rfl) (by decide) ?_
    refine z_iconst C (pc := 86) (v := (-1)) dX3_kindOf_86 (by decide) ?_
    refine z_iret C (pc := 87) () dX3_kindOf_87 ?_ rfl
    first | (simp_all [kindOfv]; done) | (rw [c_2]; rfl)
  by_cases c_3 : x = 100
  · refine z_tableIn C (pc := 1) (tgt := 80) (off := 79) dX3_kindOf_1 (by rw [c_3]; decide) (by rw [c_3]; decide) (by rw [c_3]; rfl) (by decide) ?_
    refine z_iconst C (pc := 80) (v := 2) dX3_kindOf_80 (by decide) ?_
    refine z_iret C (pc := 81) () dX3_kindOf_81 ?_ rfl
    first | (simp_all [kindOfv]; done) | (rw [c_3]; rfl)
  by_cases c_4 : x = 101
  · refine z_tableIn C (pc := 1) (tgt := 86) (off := 85) dX3_kindOf_1 (by rw [c_4]; decide) (by rw [c_4]; decide) (by rw [c_4]; rfl) (by decide) ?_
    refine z_iconst C (pc := 86) (v := (-1)) dX3_kindOf_86 (by decide) ?_
    refine z_iret C (pc := 87) () dX3_kindOf_87 ?_ rfl
    first | (simp_all [kindOfv]; done) | (rw [c_4]; rfl)
  by_cases c_5 : x = 102
  · refine z_tableIn C (pc := 1) (tgt := 86) (off := 85) dX3_kindOf_1 (by rw [c_5]; decide) (by rw [c_5]; decide) (by rw [c_5]; rfl) (by decide) ?_
    refine z_iconst C (pc := 86) (v := (-1)) dX3_kindOf_86 (by decide) ?_
    refine z_iret C (pc := 87) () dX3_kindOf_87 ?_ rfl
    first | (simp_all [kindOfv]; done) | (rw [c_5]; rfl)
  by_cases c_6 : x = 103
  · refine z_tableIn C (pc := 1) (tgt := 86) (off := 85) dX3_kindOf_1 (by rw [c_6]; decide) (by rw [c_6]; decide) (by rw [c_6]; rfl) (by decide) ?_
    refine z_iconst C (pc := 86) (v := (-1)) dX3_kindOf_86 (by decide) ?_
    refine z_iret C (pc := 87) () dX3_kindOf_87 ?_ rfl
    first | (simp_all [kindOfv]; done) | (rw [c_6]; rfl)
  by_cases c_7 : x = 104
  · refine z_tableIn C (pc := 1) (tgt := 84) (off := 83) dX3_kindOf_1 (by rw [c_7]; decide) (by rw [c_7]; decide) (by rw [c_7]; rfl) (by decide) ?_
    refine z_iconst C (pc := 84) (v := 4) dX3_kindOf_84 (by decide) ?_
    refine z_iret C (pc := 85) () dX3_kindOf_85 ?_ rfl
    first | (simp_all [kindOfv]; done) | (rw [c_7]; rfl)
  by_cases c_8 : x = 105
  · refine z_tableIn C (pc := 1) (tgt := 86) (off := 85) dX3_kindOf_1 (by rw [c_8]; decide) (by rw [c_8]; decide) (by rw [c_8]; rfl) (by decide) ?_
    refine z_iconst C (pc := 86) (v := (-1)) dX3_kindOf_86 (by decide) ?_
    refine z_iret C (pc := 87) () dX3_kindOf_87 ?_ rfl
    first | (simp_all [kindOfv]; done) | (rw [c_8]; rfl)
  by_cases c_9 : x = 106
  · refine z_tableIn C (pc := 1) (tgt := 86) (off := 85) dX3_kindOf_1 (by rw [c_9]; decide) (by rw [c_9]; decide) (by rw [c_9]; rfl) (by decide) ?_
    refine z_iconst C (pc := 86) (v := (-1)) dX3_kindOf_86 (by decide) ?_
    refine z_iret C (pc := 87) () dX3_kindOf_87 ?_ rfl
    first | (simp_all [kindOfv]; done) | (rw [c_9]; rfl)
  by_cases c_10 : x = 107
  · refine z_tableIn C (pc := 1) (tgt := 86) (off := 85) dX3_kindOf_1 (by rw [c_10]; decide) (by rw [c_10]; decide) (by rw [c_10]; rfl) (by decide) ?_
    refine z_iconst C (pc := 86) (v := (-1)) dX3_kindOf_86 (by decide) ?_
    refine z_iret C (pc := 87) () dX3_kindOf_87 ?_ rfl
    first | (simp_all [kindOfv]; done) | (rw [c_10]; rfl)
  by_cases c_11 : x = 108
  · refine z_tableIn C (pc := 1) (tgt := 86) (off := 85) dX3_kindOf_1 (by rw [c_11]; decide) (by rw [c_11]; decide) (by rw [c_11]; rfl) (by decide) ?_
    refine z_iconst C (pc := 86) (v := (-1)) dX3_kindOf_86 (by decide) ?_
    refine z_iret C (pc := 87) () dX3_kindOf_87 ?_ rfl
    first | (simp_all [kindOfv]; done) | (rw [c_11]; rfl)
  by_cases c_12 : x = 109
  · refine z_tableIn C (pc := 1) (tgt := 76) (off := 75) dX3_kindOf_1 (by rw [c_12]; decide) (by rw [c_12]; decide) (by rw [c_12]; rfl) (by decide) ?_
    refine z_iconst C (pc := 76) (v := 0) dX3_kindOf_76 (by decide) ?_
    refine z_iret C (pc := 77) () dX3_kindOf_77 ?_ rfl
    first | (simp_all [kindOfv]; done) | (rw [c_12]; rfl)
  by_cases c_13 : x = 110
  · refine z_tableIn C (pc := 1) (tgt := 86) (off := 85) dX3_kindOf_1 (by rw [c_13]; decide) (by rw [c_13]; decide) (by rw [c_13]; rfl) (by decide) ?_
    refine z_iconst C (pc := 86) (v := (-1)) dX3_kindOf_86 (by decide) ?_
    refine z_iret C (pc := 87) () dX3_kindOf_87 ?_ rfl
    first | (simp_all [kindOfv]; done) | (rw [c_13]; rfl)
  by_cases c_14 : x = 111
  · refine z_tableIn C (pc := 1) (tgt := 86) (off := 85) dX3_kindOf_1 (by rw [c_14]; decide) (by rw [c_14]; decide) (by rw [c_14]; rfl) (by decide) ?_
    refine z_iconst C (pc := 86) (v := (-1)) dX3_kindOf_86 (by decide) ?_
    refine z_iret C (pc := 87) () dX3_kindOf_87 ?_ rfl
    first | (simp_all [kindOfv]; done) | (rw [c_14]; rfl)
  by_cases c_15 : x = 112
  · refine z_tableIn C (pc := 1) (tgt := 78) (off := 77) dX3_kindOf_1 (by rw [c_15]; decide) (by rw [c_15]; decide) (by rw [c_15]; rfl) (by decide) ?_
    refine z_iconst C (pc := 78) (v := 1) dX3_kindOf_78 (by decide) ?_
    refine z_iret C (pc := 79) () dX3_kindOf_79 ?_ rfl
    first | (simp_all [kindOfv]; done) | (rw [c_15]; rfl)
  refine z_tableOut C (pc := 1) (tgt := 86) dX3_kindOf_1 (by have q0 := lv_neT c_1 (a := 98) rfl; have q1 := lv_neT c_2 (a := 99) rfl; have q2 := lv_neT c_3 (a := 100) rfl; have q3 := lv_neT c_4 (a := 101) rfl; have q4 := lv_neT c_5 (a := 102) rfl; have q5 := lv_neT c_6 (a := 103) rfl; have q6 := lv_neT c_7 (a := 104) rfl; have q7 := lv_neT c_8 (a := 105) rfl; have q8 := lv_neT c_9 (a := 106) rfl; have q9 := lv_neT c_10 (a := 107) rfl; have q10 := lv_neT c_11 (a := 108) rfl; have q11 := lv_neT c_12 (a := 109) rfl; have q12 := lv_neT c_13 (a := 110) rfl; have q13 := lv_neT c_14 (a := 111) rfl; have q14 := lv_neT c_15 (a := 112) rfl; omega) (by decide) ?_
  refine z_iconst C (pc := 86) (v := (-1)) dX3_kindOf_86 (by decide) ?_
  refine z_iret C (pc := 87) () dX3_kindOf_87 ?_ rfl
  first | (simp_all [kindOfv]; done) | (rw [c_15]; rfl)

set_option maxHeartbeats 4000000 in
set_option maxRecDepth 100000 in
theorem c_bitCount (l : Launch) (D : va_G) (cI : ClassId) (tt : Nat × Nat × Nat) (x : Int32) : MetI (S := Unit) l yJ6_bitCount_0f7a4 cJ6_bitCount_0f7a4 1 (some .int) (rm 0 0) D cI tt [.int x] [] (fun r _ => r = bcv x) (fun _ => []) := by
  refine met_ofI (by decide) (Nat.le_of_ble_eq_true rfl) ?_
  intro pP eE sS mM aV bB mE cC AA C hin
  refine z_conv (lv' := [(0, .int x)]) ⟨rfl, trivial⟩ rfl rfl ?_
  refine z_iload_n C (pc := 0) dJ6_bitCount_0f7a4_0 rfl ?_
  refine z_iload_n C (pc := 1) dJ6_bitCount_0f7a4_1 rfl ?_
  refine z_iconst C (pc := 2) (v := 1) dJ6_bitCount_0f7a4_2 (by decide) ?_
  refine z_iushr C (pc := 3) (v := ((x).toUInt32 >>> ((1 : Int32).toUInt32 &&& Int32.toUInt32 31)).toInt32) dJ6_bitCount_0f7a4_3 rfl ?_
  refine z_ldcw C (pc := 4) (v := 1431655765) wl_J6_265 dJ6_bitCount_0f7a4_4 ?_
  refine z_iand C (pc := 7) dJ6_bitCount_0f7a4_7 ?_
  refine z_isub C (pc := 8) dJ6_bitCount_0f7a4_8 ?_
  refine z_topi (fun t_1 et_1 => ?_)
  refine z_istore_n C (pc := 9) (lv' := [(0, .int t_1)]) dJ6_bitCount_0f7a4_9 (Nat.le_of_ble_eq_true rfl) rfl rfl ?_
  refine z_iload_n C (pc := 10) dJ6_bitCount_0f7a4_10 rfl ?_
  refine z_ldcw C (pc := 11) (v := 858993459) wl_J6_266 dJ6_bitCount_0f7a4_11 ?_
  refine z_iand C (pc := 14) dJ6_bitCount_0f7a4_14 ?_
  refine z_iload_n C (pc := 15) dJ6_bitCount_0f7a4_15 rfl ?_
  refine z_iconst C (pc := 16) (v := 2) dJ6_bitCount_0f7a4_16 (by decide) ?_
  refine z_iushr C (pc := 17) (v := ((t_1).toUInt32 >>> ((2 : Int32).toUInt32 &&& Int32.toUInt32 31)).toInt32) dJ6_bitCount_0f7a4_17 rfl ?_
  refine z_ldcw C (pc := 18) (v := 858993459) wl_J6_266 dJ6_bitCount_0f7a4_18 ?_
  refine z_iand C (pc := 21) dJ6_bitCount_0f7a4_21 ?_
  refine z_iadd C (pc := 22) dJ6_bitCount_0f7a4_22 ?_
  refine z_topi (fun t_2 et_2 => ?_)
  refine z_istore_n C (pc := 23) (lv' := [(0, .int t_2)]) dJ6_bitCount_0f7a4_23 (Nat.le_of_ble_eq_true rfl) rfl rfl ?_
  refine z_iload_n C (pc := 24) dJ6_bitCount_0f7a4_24 rfl ?_
  refine z_iload_n C (pc := 25) dJ6_bitCount_0f7a4_25 rfl ?_
  refine z_iconst C (pc := 26) (v := 4) dJ6_bitCount_0f7a4_26 (by decide) ?_
  refine z_iushr C (pc := 27) (v := ((t_2).toUInt32 >>> ((4 : Int32).toUInt32 &&& Int32.toUInt32 31)).toInt32) dJ6_bitCount_0f7a4_27 rfl ?_
  refine z_iadd C (pc := 28) dJ6_bitCount_0f7a4_28 ?_
  refine z_ldcw C (pc := 29) (v := 252645135) wl_J6_267 dJ6_bitCount_0f7a4_29 ?_
  refine z_iand C (pc := 32) dJ6_bitCount_0f7a4_32 ?_
  refine z_topi (fun t_3 et_3 => ?_)
  refine z_istore_n C (pc := 33) (lv' := [(0, .int t_3)]) dJ6_bitCount_0f7a4_33 (Nat.le_of_ble_eq_true rfl) rfl rfl ?_
  refine z_iload_n C (pc := 34) dJ6_bitCount_0f7a4_34 rfl ?_
  refine z_iload_n C (pc := 35) dJ6_bitCount_0f7a4_35 rfl ?_
  refine z_bipush C (pc := 36) (v := 8) dJ6_bitCount_0f7a4_36 (by decide) ?_
  refine z_iushr C (pc := 38) (v := ((t_3).toUInt32 >>> ((8 : Int32).toUInt32 &&& Int32.toUInt32 31)).toInt32) dJ6_bitCount_0f7a4_38 rfl ?_
  refine z_iadd C (pc := 39) dJ6_bitCount_0f7a4_39 ?_
  refine z_topi (fun t_4 et_4 => ?_)
  refine z_istore_n C (pc := 40) (lv' := [(0, .int t_4)]) dJ6_bitCount_0f7a4_40 (Nat.le_of_ble_eq_true rfl) rfl rfl ?_
  refine z_iload_n C (pc := 41) dJ6_bitCount_0f7a4_41 rfl ?_
  refine z_iload_n C (pc := 42) dJ6_bitCount_0f7a4_42 rfl ?_
  refine z_bipush C (pc := 43) (v := 16) dJ6_bitCount_0f7a4_43 (by decide) ?_
  refine z_iushr C (pc := 45) (v := ((t_4).toUInt32 >>> ((16 : Int32).toUInt32 &&& Int32.toUInt32 31)).toInt32) dJ6_bitCount_0f7a4_45 rfl ?_
  refine z_iadd C (pc := 46) dJ6_bitCount_0f7a4_46 ?_
  refine z_topi (fun t_5 et_5 => ?_)
  refine z_istore_n C (pc := 47) (lv' := [(0, .int t_5)]) dJ6_bitCount_0f7a4_47 (Nat.le_of_ble_eq_true rfl) rfl rfl ?_
  refine z_iload_n C (pc := 48) dJ6_bitCount_0f7a4_48 rfl ?_
  refine z_bipush C (pc := 49) (v := 63) dJ6_bitCount_0f7a4_49 (by decide) ?_
  refine z_iand C (pc := 51) dJ6_bitCount_0f7a4_51 ?_
  refine z_iret C (pc := 52) () dJ6_bitCount_0f7a4_52 ?_ rfl
  subst_vars; rfl

set_option maxHeartbeats 4000000 in
set_option maxRecDepth 100000 in
theorem c_copy (l : Launch) (D : va_G) (cI : ClassId) (tt : Nat × Nat × Nat) (b1 n1 b2 n2 : Nat) (f1 f2 : Nat → Int32) (h1 : n1 < 2 ^ 31) (h2 : n2 < 2 ^ 31) : MetV (S := (Nat → Int32)) l yX3_copy cX3_copy 3 none (rm 1 22) D cI tt [.ref b1, .ref b2] [(b1, .inl (cI, n1, .inl f1)), (b2, .inl (cI, n2, .inl f2))] (fun g => g = cpv n1 f1 n2 f2 n2) (fun g => [(b1, .inl (cI, n1, .inl f1)), (b2, .inl (cI, n2, .inl g))]) := by
  refine met_ofV (by decide) (Nat.le_of_ble_eq_true rfl) ?_
  intro pP eE sS mM aV bB mE cC AA C hin
  refine z_conv (lv' := [(0, .ref b1), (1, .ref b2)]) ⟨rfl, rfl, trivial⟩ rfl rfl ?_
  refine z_iconst C (pc := 0) (v := 0) dX3_copy_0 (by decide) ?_
  refine z_istore_n C (pc := 1) (lv' := [(0, .ref b1), (1, .ref b2), (2, .int 0)]) dX3_copy_1 (Nat.le_of_ble_eq_true rfl) rfl rfl ?_
  have key : ∀ (fu j : Nat), j ≤ n2 → n2 < j + fu → Z pP l eE (rm 1 22) sS mM aV bB mE cC D AA 3 0 0 (MQ bB (va_Qv (S := (Nat → Int32)) (fun g => g = cpv n1 f1 n2 f2 n2) (fun u t => va_P D vwCl ((fun g => [(b1, .inl (cI, n1, .inl f1)), (b2, .inl (cI, n2, .inl g))]) u) t.heap) AA) aV sS 0 0 AA) 2 [(0, .ref b1), (1, .ref b2), (2, .int (nI j))] [] [(b1, .inl (cI, n1, .inl f1)), (b2, .inl (cI, n2, .inl (cpv n1 f1 n2 f2 j)))] := by
    intro fu
    induction fu with
    | zero => intro j h1 h2; exact absurd h2 (by omega)
    | succ fu ih =>
      intro j g1 g2
      refine z_aload_n C (pc := 2) dX3_copy_2 rfl ?_
      refine z_ifnull C (pc := 3) dX3_copy_3 ?_
      refine z_iload_n C (pc := 6) dX3_copy_6 rfl ?_
      refine z_aload_n C (pc := 7) dX3_copy_7 rfl ?_
      refine z_alen C (pc := 8) 1 rfl (v := (nI n2)) rfl dX3_copy_8 ?_
      refine z_icmp_ge C (pc := 9) (tgt := 28) dX3_copy_9 (by decide) (fun c_1 => ?_) (fun c_1 => ?_)
      · refine z_vret C (pc := 28) (cpv n1 f1 n2 f2 j) dX3_copy_28 ?_ rfl
        have : j = n2 := by
          rcases Nat.lt_or_ge j n2 with q | q
          · exact absurd c_1 (nI_ge q h2)
          · omega
        subst this; rfl
      · have hj : j < n2 := by
          rcases Nat.lt_or_ge j n2 with q | q
          · exact q
          · exact absurd (nI_le q (by omega)) c_1
        refine z_aload_n C (pc := 12) dX3_copy_12 rfl ?_
        refine z_iload_n C (pc := 13) dX3_copy_13 rfl ?_
        refine z_aload_n C (pc := 14) dX3_copy_14 rfl ?_
        refine z_iload_n C (pc := 15) dX3_copy_15 rfl ?_
        refine z_calli C (isC := [0]) rfl (by exact fun _ => rfl) (runS C (wc := [(b1, .inl (cI, n1, .inl f1))]) (pc := 16) (rY' := rm 0 0) (nn := 2) (As := [.ref b1, .int (nI j)]) (rest := [.int (nI j), .ref b2]) (c_at l D cI tt b1 n1 f1 (nI j) h1) rfl rfl ⟨rfl, rfl, ⟨Nat.le_of_ble_eq_true rfl, Nat.le_of_ble_eq_true rfl⟩, Nat.le_of_ble_eq_true rfl, Nat.le_of_ble_eq_true rfl⟩ wl_X3_87 ws_X3_at wi_X3 wc_X3_at (by decide +kernel) rfl rfl (Nat.le_of_ble_eq_true rfl) dX3_copy_16) (fun r_2 u_2 h_2 => ?_)
        refine z_ws (st' := [.int r_2, .int (nI j), .ref b2]) (ws' := [(b1, .inl (cI, n1, .inl f1)), (b2, .inl (cI, n2, .inl (cpv n1 f1 n2 f2 j)))]) rfl rfl ?_
        refine z_callv C (isC := [1]) rfl (by exact fun _ => rfl) (runS C (wc := [(b2, .inl (cI, n2, .inl (cpv n1 f1 n2 f2 j)))]) (pc := 19) (rY' := rm 0 0) (nn := 3) (As := [.ref b2, .int (nI j), .int r_2]) (rest := []) (c_put l D cI tt b2 n2 (cpv n1 f1 n2 f2 j) (nI j) r_2 h2) rfl rfl ⟨rfl, rfl, ⟨Nat.le_of_ble_eq_true rfl, Nat.le_of_ble_eq_true rfl⟩, Nat.le_of_ble_eq_true rfl, Nat.le_of_ble_eq_true rfl⟩ wl_X3_66 ws_X3_put wi_X3 wc_X3_put (by decide +kernel) rfl rfl (Nat.le_of_ble_eq_true rfl) dX3_copy_19) (fun u_3 h_3 => ?_)
        subst h_3
        subst h_2
        refine z_ws (st' := []) (ws' := [(b1, .inl (cI, n1, .inl f1)), (b2, .inl (cI, n2, .inl (putv n2 (cpv n1 f1 n2 f2 j) (nI j) (atv n1 f1 (nI j)))))]) rfl rfl ?_
        refine z_iinc C (pc := 22) (v := ((nI j) + 1)) (lv' := [(0, .ref b1), (1, .ref b2), (2, .int ((nI j) + 1))]) dX3_copy_22 rfl rfl (Nat.le_of_ble_eq_true rfl) rfl rfl ?_
        refine z_goto C (pc := 25) (tgt := 2) dX3_copy_25 (by decide) ?_
        refine z_ws (st' := []) (ws' := [(b1, .inl (cI, n1, .inl f1)), (b2, .inl (cI, n2, .inl (cpv n1 f1 n2 f2 (j + 1))))]) rfl rfl ?_
        refine z_lv (lv' := [(0, .ref b1), (1, .ref b2), (2, .int (nI (j + 1)))]) ⟨rfl, rfl, by rw [nI_succ]; rfl, trivial⟩ ?_
        exact ih (j + 1) (by omega) (by omega)
  exact z_lv (lv' := [(0, .ref b1), (1, .ref b2), (2, .int (nI 0))]) ⟨rfl, rfl, rfl, trivial⟩ (key (n2 + 1) 0 (Nat.zero_le _) (by omega))
end
section
/-! what a march is, in whole numbers -/
def bt (a k : Nat) : Nat := a / 2 ^ k % 2
def pls : Nat → Nat | 0 => 4 | 1 => 8 | 2 => 2 | 3 => 2 | _ => 3
def ets : Nat → Nat | 1 => 2 | _ => 1
def fds : Nat → Nat | 1 => 6 | 2 => 2 | 4 => 3 | _ => 0
def sumk (g kd : Nat → Nat) (x : Nat) : Nat → Nat
  | 0 => 0
  | k + 1 => sumk g kd x k + bt x k * g (kd k)
def dev (kd : Nat → Nat) (n k : Nat) (s : Nat × Nat) : Nat × Nat := if bt s.1 k = 1 then (s.1 - 2 ^ k, min (s.2 + fds (kd k)) (sumk pls kd (s.1 - 2 ^ k) n)) else s
def isB (t : Nat) : Bool := t == 1 || t == 2 || t == 4
def pon (kd : Nat → Nat) (n : Nat) : Nat → Nat × Nat → Nat × Nat
  | 0, s => s
  | k + 1, s => pon kd n k (if kd k = 1 then dev kd n k s else s)
def bea (kd : Nat → Nat) (n : Nat) : Nat → Nat × Nat → Nat × Nat
  | 0, s => s
  | k + 1, s => if s.2 < sumk ets kd s.1 n then bea kd n k (if isB (kd k) = true then dev kd n k s else s) else s
def upN (f : Nat → Nat) (k x : Nat) : Nat → Nat := fun j => if j = k then x else f j
/-- who lives, the food, what lies at the cairns, where they died -/
abbrev MS : Type := Nat × Nat × (Nat → Nat) × Nat
def outv (kd : Nat → Nat) (n st j : Nat) (s : Nat × Nat) : Nat × Nat := bea kd n n (if j ≤ st ∧ 3 ≤ j - 1 then pon kd n n s else s)
def takev (kd : Nat → Nat) (n q : Nat) (s : Nat × Nat) (c : Nat → Nat) : Nat × (Nat → Nat) :=
  if q = 0 then (s.2, c) else (s.2 + min (c (q - 1)) (sumk pls kd s.1 n - s.2), upN c (q - 1) (c (q - 1) - min (c (q - 1)) (sumk pls kd s.1 n - s.2)))
def legv (kd : Nat → Nat) (n st j : Nat) (z : MS) : MS :=
  let s := outv kd n st j (z.1, z.2.1)
  if s.1 = 0 ∨ s.2 < sumk ets kd s.1 n then (0, 0, z.2.2.1, j)
  else if j ≤ st then (s.1, s.2 - sumk ets kd s.1 n, z.2.2.1, 0)
  else let t := takev kd n (2 * st - j) (s.1, s.2 - sumk ets kd s.1 n) z.2.2.1
    (s.1, t.1, t.2, 0)
def runv (kd : Nat → Nat) (n st : Nat) : Nat → MS → MS
  | 0, z => z
  | j + 1, z => if (runv kd n st j z).2.2.2 = 0 then legv kd n st (j + 1) (runv kd n st j z) else runv kd n st j z
def marv (kd : Nat → Nat) (n x st f : Nat) (c : Nat → Nat) : MS := runv kd n st (2 * st) (x, min f (sumk pls kd x n), c, 0)
/-! rows of it -/
theorem bt_lt (x k : Nat) : bt x k < 2 := Nat.mod_lt _ (by decide)
theorem bt_01 (x k : Nat) : bt x k = 0 ∨ bt x k = 1 := by have := bt_lt x k; omega
theorem pls_le (t : Nat) : pls t ≤ 8 := by unfold pls; split <;> decide
theorem ets_le (t : Nat) : ets t ≤ 2 := by unfold ets; split <;> decide
theorem ets_pos (t : Nat) : 1 ≤ ets t := by unfold ets; split <;> decide
theorem fds_le (t : Nat) : fds t ≤ 6 := by unfold fds; split <;> decide
theorem sumk_le {g kd : Nat → Nat} {x M : Nat} (h : ∀ t, g t ≤ M) : ∀ k, sumk g kd x k ≤ M * k
  | 0 => Nat.zero_le _
  | k + 1 => by
    unfold sumk
    have h1 := sumk_le (kd := kd) (x := x) h k
    have h2 := h (kd k)
    rcases bt_01 x k with e | e
    · rw [e, Nat.zero_mul]; rw [Nat.mul_succ]; omega
    · rw [e, Nat.one_mul]; rw [Nat.mul_succ]; omega
theorem pl_le {kd : Nat → Nat} {x n : Nat} (h : n ≤ 6) : sumk pls kd x n ≤ 48 := by have := sumk_le (kd := kd) (x := x) pls_le n; omega
theorem et_le {kd : Nat → Nat} {x n : Nat} (h : n ≤ 6) : sumk ets kd x n ≤ 12 := by have := sumk_le (kd := kd) (x := x) ets_le n; omega
theorem smod32 : ∀ k, k < 32 → ((nI k &&& 31).toBitVec.smod 32).toNat = k := by decide +kernel
theorem shr_bt {x k : Nat} (hk : k < 32) (hx : x < 2 ^ 31) : (nI x >>> (nI k &&& 31)) &&& 1 = nI (bt x k) := by
  rw [pk_shrN hx _ k (smod32 k hk)]
  exact pk_andN (Nat.lt_of_le_of_lt (Nat.div_le_self _ _) (by omega)) (m := 1) 1 (by decide)
theorem bt_sub : ∀ x, x < 64 → ∀ k, k < 6 → ∀ j, j < 6 → bt x k = 1 → bt (x - 2 ^ k) j = if j = k then 0 else bt x j := by decide +kernel
theorem bit_le : ∀ x, x < 64 → ∀ k, k < 6 → bt x k = 1 → 2 ^ k ≤ x := by decide +kernel
theorem and_not : ∀ x, x < 64 → ∀ k, k < 6 → bt x k = 1 → nI x &&& ((1 <<< (nI k &&& 31)) ^^^ (-1)) = nI (x - 2 ^ k) := by decide +kernel
theorem sub_bit : ∀ x, x < 64 → ∀ k, k < 6 → bt x k = 1 → nI x - (1 <<< (nI k &&& 31)) = nI (x - 2 ^ k) := by decide +kernel
theorem one_shl : ∀ n, n ≤ 6 → (1 <<< (nI n &&& 31)) - 1 = nI (2 ^ n - 1) := by decide +kernel
theorem sumk_same {g kd : Nat → Nat} {x y : Nat} : ∀ k, (∀ j, j < k → bt x j = bt y j) → sumk g kd x k = sumk g kd y k
  | 0, _ => rfl
  | k + 1, h => by unfold sumk; rw [sumk_same k (fun j hj => h j (by omega)), h k (by omega)]
theorem sumk_sub {g kd : Nat → Nat} {x k : Nat} (hx : x < 64) (hk : k < 6) (hb : bt x k = 1) : ∀ n, n ≤ 6 → k < n → sumk g kd (x - 2 ^ k) n + g (kd k) = sumk g kd x n
  | 0, _, h => absurd h (by omega)
  | n + 1, hn, hkn => by
    unfold sumk
    by_cases e : k = n
    · subst e
      rw [bt_sub x hx k hk k hk hb, if_pos rfl, hb, sumk_same (y := x) k (fun j hj => by rw [bt_sub x hx k hk j (by omega) hb, if_neg (by omega)])]
      omega
    · have h := sumk_sub (g := g) (kd := kd) hx hk hb n (by omega) (by omega)
      rw [bt_sub x hx k hk n (by omega) hb, if_neg (by omega)]
      omega
theorem pow_le6 {n : Nat} (h : n ≤ 6) : 2 ^ n ≤ 64 := Nat.pow_le_pow_right (by decide) h
theorem pullsV_nI : ∀ t, t ≤ 4 → pullsV t = nI (pls t) := by decide +kernel
theorem eatsV_nI : ∀ t, t ≤ 4 → eatsV t = nI (ets t) := by decide +kernel
theorem feedsV_nI : ∀ t, t ≤ 4 → feedsV t = nI (fds t) := by decide +kernel
theorem atv_tab {f : Nat → Int32} {t : Nat} (ht : t ≤ 4) : atv 5 f (nI t) = f t := atv_nI (by omega) (by decide)
/-! states: the party of n members of the kinds kd; x of them live, with the food f -/
def PV (i : Nat → Int32) (r : Nat → Nat → Int32) (kd : Nat → Nat) (n : Nat) : Prop := i 4 = nI n ∧ n ≤ 6 ∧ ∀ k, k < n → r 1 k = nI (kd k) ∧ kd k ≤ 4
def PS (i : Nat → Int32) (kd : Nat → Nat) (n x f : Nat) : Prop := i 5 = nI x ∧ i 6 = nI f ∧ i 7 = nI (sumk pls kd x n) ∧ i 8 = nI (sumk ets kd x n)
def OK (kd : Nat → Nat) (n x f : Nat) : Prop := x < 2 ^ n ∧ f ≤ sumk pls kd x n
def SP (i i' : Nat → Int32) : Prop := ∀ k, k < 5 ∨ 9 < k → i' k = i k
def SR (r r' : Nat → Nat → Int32) : Prop := ∀ k, k ≠ 2 → r' k = r k
theorem SP.rf {i : Nat → Int32} : SP i i := fun _ _ => rfl
theorem SP.tr {i j k : Nat → Int32} (h : SP i j) (h2 : SP j k) : SP i k := fun q hq => (h2 q hq).trans (h q hq)
theorem SP.up {i j : Nat → Int32} (h : SP i j) {k : Nat} {v : Int32} (hk : 5 ≤ k ∧ k ≤ 9) : SP i (upd j k v) := fun q hq => by unfold upd; rw [if_neg (by omega)]; exact h q hq
theorem SR.rf {r : Nat → Nat → Int32} : SR r r := fun _ _ => rfl
theorem SR.tr {i j k : Nat → Nat → Int32} (h : SR i j) (h2 : SR j k) : SR i k := fun q hq => (h2 q hq).trans (h q hq)
theorem SR.up {i j : Nat → Nat → Int32} (h : SR i j) {v : Nat → Int32} : SR i (va_up j 2 v) := fun q hq => by unfold va_up; rw [if_neg hq]; exact h q hq
theorem PV.sp {i i' : Nat → Int32} {r r' : Nat → Nat → Int32} {kd : Nat → Nat} {n : Nat} (h : PV i r kd n) (hi : SP i i') (hr : SR r r') : PV i' r' kd n := ⟨(hi 4 (by omega)).trans h.1, h.2.1, fun k hk => by rw [hr 1 (by omega)]; exact h.2.2 k hk⟩
theorem upd_s {f : Nat → Int32} {k : Nat} {v : Int32} : upd f k v k = v := by simp [upd]
theorem upd_n {f : Nat → Int32} {k j : Nat} {v : Int32} (h : j ≠ k) : upd f k v j = f j := by simp [upd, h]
theorem vup_s {α : Type} {f : Nat → α} {k : Nat} {v : α} : va_up f k v k = v := by simp [va_up]
theorem vup_n {α : Type} {f : Nat → α} {k j : Nat} {v : α} (h : j ≠ k) : va_up f k v j = f j := by simp [va_up, h]
theorem dev_ok {kd : Nat → Nat} {n k : Nat} {s : Nat × Nat} (hn : n ≤ 6) (hk : k < n) (h : OK kd n s.1 s.2) : OK kd n (dev kd n k s).1 (dev kd n k s).2 := by
  unfold dev
  by_cases hb : bt s.1 k = 1
  · rw [if_pos hb]
    exact ⟨Nat.lt_of_le_of_lt (Nat.sub_le _ _) h.1, Nat.min_le_right _ _⟩
  · rw [if_neg hb]; exact h
theorem pon_ok {kd : Nat → Nat} {n : Nat} (hn : n ≤ 6) : ∀ (k : Nat) (s : Nat × Nat), k ≤ n → OK kd n s.1 s.2 → OK kd n (pon kd n k s).1 (pon kd n k s).2
  | 0, s, _, h => h
  | k + 1, s, hk, h => by
    unfold pon
    by_cases e : kd k = 1
    · rw [if_pos e]; exact pon_ok hn k _ (by omega) (dev_ok hn (by omega) h)
    · rw [if_neg e]; exact pon_ok hn k _ (by omega) h
theorem bea_ok {kd : Nat → Nat} {n : Nat} (hn : n ≤ 6) : ∀ (k : Nat) (s : Nat × Nat), k ≤ n → OK kd n s.1 s.2 → OK kd n (bea kd n k s).1 (bea kd n k s).2
  | 0, s, _, h => h
  | k + 1, s, hk, h => by
    unfold bea
    by_cases e0 : s.2 < sumk ets kd s.1 n
    · rw [if_pos e0]
      by_cases e : isB (kd k) = true
      · rw [if_pos e]; exact bea_ok hn k _ (by omega) (dev_ok hn (by omega) h)
      · rw [if_neg e]; exact bea_ok hn k _ (by omega) h
    · rw [if_neg e0]; exact h
theorem outv_ok {kd : Nat → Nat} {n st j : Nat} {s : Nat × Nat} (hn : n ≤ 6) (h : OK kd n s.1 s.2) : OK kd n (outv kd n st j s).1 (outv kd n st j s).2 := by
  unfold outv
  by_cases e : j ≤ st ∧ 3 ≤ j - 1
  · rw [if_pos e]; exact bea_ok hn n _ (Nat.le_refl _) (pon_ok hn n _ (Nat.le_refl _) h)
  · rw [if_neg e]; exact bea_ok hn n _ (Nat.le_refl _) h
theorem takev_ok {kd : Nat → Nat} {n q : Nat} {s : Nat × Nat} {c : Nat → Nat} (h : OK kd n s.1 s.2) (hc : ∀ k, k < 5 → c k ≤ 9) : OK kd n s.1 (takev kd n q s c).1 ∧ ∀ k, k < 5 → (takev kd n q s c).2 k ≤ 9 := by
  unfold takev
  by_cases e : q = 0
  · rw [if_pos e]; exact ⟨h, hc⟩
  · rw [if_neg e]
    refine ⟨⟨h.1, ?_⟩, fun k hk => ?_⟩
    · have h2 := h.2
      have h3 := Nat.min_le_right (c (q - 1)) (sumk pls kd s.1 n - s.2)
      show s.2 + min (c (q - 1)) (sumk pls kd s.1 n - s.2) ≤ sumk pls kd s.1 n
      omega
    · show upN c (q - 1) _ k ≤ 9
      unfold upN
      by_cases e2 : k = q - 1
      · rw [if_pos e2]; exact Nat.le_trans (Nat.sub_le _ _) (hc _ (by omega))
      · rw [if_neg e2]; exact hc k hk
def MOK (kd : Nat → Nat) (n : Nat) (z : MS) : Prop := OK kd n z.1 z.2.1 ∧ (∀ k, k < 5 → z.2.2.1 k ≤ 9) ∧ (z.2.2.2 = 0 ∨ (z.1 = 0 ∧ z.2.1 = 0))
theorem ok_0 {kd : Nat → Nat} {n : Nat} : OK kd n 0 0 := ⟨Nat.pow_pos (by decide), Nat.zero_le _⟩
theorem legv_ok {kd : Nat → Nat} {n st j : Nat} {z : MS} (hn : n ≤ 6) (h : MOK kd n z) : MOK kd n (legv kd n st j z) := by
  unfold legv
  have h1 := outv_ok (st := st) (j := j) (s := (z.1, z.2.1)) hn h.1
  generalize outv kd n st j (z.1, z.2.1) = s at h1 ⊢
  dsimp only
  by_cases e : s.1 = 0 ∨ s.2 < sumk ets kd s.1 n
  · rw [if_pos e]; exact ⟨ok_0, h.2.1, Or.inr ⟨rfl, rfl⟩⟩
  · rw [if_neg e]
    have h2 : OK kd n s.1 (s.2 - sumk ets kd s.1 n) := ⟨h1.1, Nat.le_trans (Nat.sub_le _ _) h1.2⟩
    by_cases e2 : j ≤ st
    · rw [if_pos e2]; exact ⟨h2, h.2.1, Or.inl rfl⟩
    · rw [if_neg e2]
      obtain ⟨g1, g2⟩ := takev_ok (q := 2 * st - j) (s := (s.1, s.2 - sumk ets kd s.1 n)) h2 h.2.1
      exact ⟨g1, g2, Or.inl rfl⟩
theorem runv_ok {kd : Nat → Nat} {n st : Nat} (hn : n ≤ 6) : ∀ (j : Nat) (z : MS), MOK kd n z → MOK kd n (runv kd n st j z)
  | 0, z, h => h
  | j + 1, z, h => by
    unfold runv
    have := runv_ok (st := st) hn j z h
    by_cases e : (runv kd n st j z).2.2.2 = 0
    · rw [if_pos e]; exact legv_ok hn this
    · rw [if_neg e]; exact this
theorem runv_dead {kd : Nat → Nat} {n st : Nat} {z : MS} {j : Nat} (h : (runv kd n st j z).2.2.2 ≠ 0) : ∀ i, runv kd n st (j + i) z = runv kd n st j z
  | 0 => rfl
  | i + 1 => by
    have h2 := runv_dead h i
    show (if (runv kd n st (j + i) z).2.2.2 = 0 then _ else runv kd n st (j + i) z) = _
    rw [if_neg (by rw [h2]; exact h)]
    exact h2
/-- who dies has nobody living; who lives, somebody -/
theorem legv_alive {kd : Nat → Nat} {n st j : Nat} {z : MS} (hj : j ≠ 0) : ((legv kd n st j z).2.2.2 = 0 ↔ (legv kd n st j z).1 ≠ 0) := by
  unfold legv
  generalize outv kd n st j (z.1, z.2.1) = s
  dsimp only
  by_cases e : s.1 = 0 ∨ s.2 < sumk ets kd s.1 n
  · rw [if_pos e]; simp [hj]
  · rw [if_neg e]
    have : s.1 ≠ 0 := fun h => e (Or.inl h)
    by_cases e2 : j ≤ st
    · rw [if_pos e2]; simp [this]
    · rw [if_neg e2]; simp [this]
theorem runv_alive {kd : Nat → Nat} {n st : Nat} {z : MS} (hz : z.2.2.2 = 0 ↔ z.1 ≠ 0) : ∀ j, ((runv kd n st j z).2.2.2 = 0 ↔ (runv kd n st j z).1 ≠ 0)
  | 0 => hz
  | j + 1 => by
    unfold runv
    by_cases e : (runv kd n st j z).2.2.2 = 0
    · rw [if_pos e]; exact legv_alive (by omega)
    · rw [if_neg e]; exact runv_alive hz j
end
section
theorem lki {x y : Int32} (h : x = y) : some (Value.int x) = some (.int y) := by rw [h]
theorem lt_of_nI {j n : Nat} (h : ¬ nI n ≤ nI j) (hj : j < 2 ^ 31) : j < n := by
  rcases Nat.lt_or_ge j n with q | q
  · exact q
  · exact absurd (nI_le q hj) h
theorem ge_of_nI {j n : Nat} (h : nI n ≤ nI j) (hn : n < 2 ^ 31) : n ≤ j := by
  rcases Nat.lt_or_ge j n with q | q
  · exact absurd h (nI_ge q hn)
  · exact q
theorem bt1 {x k : Nat} (hk : k < 32) (hx : x < 2 ^ 31) (h : (nI x >>> (nI k &&& 31)) &&& 1 = 1) : bt x k = 1 := by
  rw [shr_bt hk hx] at h
  rcases bt_01 x k with e | e
  · rw [e] at h; exact absurd h (by decide)
  · exact e
theorem bt0 {x k : Nat} (hk : k < 32) (hx : x < 2 ^ 31) (h : ¬ (nI x >>> (nI k &&& 31)) &&& 1 = 1) : bt x k = 0 := by
  rw [shr_bt hk hx] at h
  rcases bt_01 x k with e | e
  · exact e
  · rw [e] at h; exact absurd rfl h
theorem bt0' {x k : Nat} (hk : k < 32) (hx : x < 2 ^ 31) (h : (nI x >>> (nI k &&& 31)) &&& 1 = 0) : bt x k = 0 := by
  rw [shr_bt hk hx] at h
  rcases bt_01 x k with e | e
  · exact e
  · rw [e] at h; exact absurd h (by decide)
theorem bt1' {x k : Nat} (hk : k < 32) (hx : x < 2 ^ 31) (h : ¬ (nI x >>> (nI k &&& 31)) &&& 1 = 0) : bt x k = 1 := by
  rw [shr_bt hk hx] at h
  rcases bt_01 x k with e | e
  · rw [e] at h; exact absurd rfl h
  · exact e
theorem kind_at {i : Nat → Int32} {r : Nat → Nat → Int32} {kd : Nat → Nat} {n k : Nat} (h : PV i r kd n) (hk : k < n) : atv 6 (r 1) (nI k) = nI (kd k) := by
  rw [atv_nI (Nat.lt_of_lt_of_le hk h.2.1) (by decide)]; exact (h.2.2 k hk).1
theorem tabP {t : Nat} (h : t ≤ 4) : atv 5 pullsV (nI t) = nI (pls t) := by rw [atv_tab h]; exact pullsV_nI t h
theorem tabE {t : Nat} (h : t ≤ 4) : atv 5 eatsV (nI t) = nI (ets t) := by rw [atv_tab h]; exact eatsV_nI t h
theorem tabF {t : Nat} (h : t ≤ 4) : atv 5 feedsV (nI t) = nI (fds t) := by rw [atv_tab h]; exact feedsV_nI t h
set_option maxHeartbeats 4000000 in
set_option maxRecDepth 100000 in
theorem c_all (l : Launch) (D : va_G) (cI : ClassId) (tt : Nat × Nat × Nat) (a : Nat → Nat) (i : Nat → Int32) (r : Nat → Nat → Int32) (n : Nat) (hn : i 4 = nI n) (hn6 : n ≤ 6) : MetI (S := Unit) l yX1_all cX1_all 1 (some .int) (rm 0 0) D cI tt [.ref (a 3)] (cW cI a i r) (fun r _ => r = nI (2 ^ n - 1)) (fun _ => cW cI a i r) := by
  refine met_ofI (by decide) (Nat.le_of_ble_eq_true rfl) ?_
  intro pP eE sS mM aV bB mE cC AA C hin
  refine z_conv (lv' := [(0, .ref (a 3))]) ⟨rfl, trivial⟩ rfl rfl ?_
  refine z_iconst C (pc := 0) (v := 1) dX1_all_0 (by decide) ?_
  refine z_aload_n C (pc := 1) dX1_all_1 rfl ?_
  refine z_get C (pc := 2) 3 rfl rfl wf_X1 1 (by decide) rfl wl_X1_18 (v := .int (i 4)) rfl dX1_all_2 ?_
  refine z_ishl C (pc := 5) dX1_all_5 ?_
  refine z_iconst C (pc := 6) (v := 1) dX1_all_6 (by decide) ?_
  refine z_isub C (pc := 7) dX1_all_7 ?_
  refine z_iret C (pc := 8) () dX1_all_8 ?_ rfl
  rw [hn]; exact one_shl n hn6

set_option maxHeartbeats 4000000 in
set_option maxRecDepth 100000 in
theorem c_togetherP (l : Launch) (D : va_G) (cI : ClassId) (tt : Nat × Nat × Nat) (a : Nat → Nat) (i : Nat → Int32) (r : Nat → Nat → Int32) (kd : Nat → Nat) (n x : Nat) (hv : PV i r kd n) (hx : x < 2 ^ 31) : MetI (S := Unit) l yX1_together cX1_together 5 (some .int) (rm 1 21) D cI tt [.ref (a 3), .int (nI x), .ref tt.1] (cW cI a i r) (fun r _ => r = nI (sumk pls kd x n)) (fun _ => cW cI a i r) := by
  have hn6 := hv.2.1
  refine met_ofI (by decide) (Nat.le_of_ble_eq_true rfl) ?_
  intro pP eE sS mM aV bB mE cC AA C hin
  refine z_conv (lv' := [(0, .ref (a 3)), (1, .int (nI x)), (2, .ref tt.1)]) ⟨rfl, rfl, rfl, trivial⟩ rfl rfl ?_
  refine z_iconst C (pc := 0) (v := 0) dX1_together_0 (by decide) ?_
  refine z_istore_n C (pc := 1) (lv' := [(0, .ref (a 3)), (1, .int (nI x)), (2, .ref tt.1), (3, .int 0)]) dX1_together_1 (Nat.le_of_ble_eq_true rfl) rfl rfl ?_
  refine z_iconst C (pc := 2) (v := 0) dX1_together_2 (by decide) ?_
  refine z_istore C (pc := 3) (lv' := [(0, .ref (a 3)), (1, .int (nI x)), (2, .ref tt.1), (3, .int 0), (4, .int 0)]) dX1_together_3 (Nat.le_of_ble_eq_true rfl) rfl rfl ?_
  have key5 : ∀ (fu5 : Nat) (k : Nat), n - k < fu5 → (k ≤ n) → Z pP l eE (rm 1 21) sS mM aV bB mE cC D AA 5 0 0 (MQ bB (va_Qi (S := Unit) (fun r _ => r = nI (sumk pls kd x n)) (fun u t => va_P D vwCl ((fun _ => cW cI a i r) u) t.heap) AA) aV sS 0 0 AA) 5 [(0, .ref (a 3)), (1, .int (nI x)), (2, .ref tt.1), (3, .int (nI (sumk pls kd x k))), (4, .int (nI k))] [] (cW cI a i r) := by
    intro fu5
    induction fu5 with
    | zero => intro k hfu5; exact absurd hfu5 (Nat.not_lt_zero _)
    | succ fu5 ih5 =>
      intro k hfu5 hkn
      refine z_iload C (pc := 5) dX1_together_5 rfl ?_
      refine z_aload_n C (pc := 7) dX1_together_7 rfl ?_
      refine z_get C (pc := 8) 3 rfl rfl wf_X1 1 (by decide) rfl wl_X1_18 (v := .int (i 4)) rfl dX1_together_8 ?_
      refine z_icmp_ge C (pc := 11) (tgt := 46) dX1_together_11 (by decide) (fun c_1 => ?_) (fun c_1 => ?_)
      · refine z_iload_n C (pc := 46) dX1_together_46 rfl ?_
        refine z_iret C (pc := 47) () dX1_together_47 ?_ rfl
        rw [hv.1] at c_1
        have : k = n := by have := ge_of_nI c_1 (by omega); omega
        rw [this]
      · rw [hv.1] at c_1
        have hk : k < n := lt_of_nI c_1 (by omega)
        refine z_iload_n C (pc := 14) dX1_together_14 rfl ?_
        refine z_iload C (pc := 15) dX1_together_15 rfl ?_
        refine z_ishr C (pc := 17) dX1_together_17 ?_
        refine z_iconst C (pc := 18) (v := 1) dX1_together_18 (by decide) ?_
        refine z_iand C (pc := 19) dX1_together_19 ?_
        refine z_iconst C (pc := 20) (v := 1) dX1_together_20 (by decide) ?_
        refine z_icmp_ne C (pc := 21) (tgt := 40) dX1_together_21 (by decide) (fun c_2 => ?_) (fun c_2 => ?_)
        · have hb := bt0 (by omega) hx c_2
          refine z_iinc C (pc := 40) (v := ((nI k) + 1)) (lv' := [(0, .ref (a 3)), (1, .int (nI x)), (2, .ref tt.1), (3, .int (nI (sumk pls kd x k))), (4, .int ((nI k) + 1))]) dX1_together_40 rfl rfl (Nat.le_of_ble_eq_true rfl) rfl rfl ?_
          refine z_goto C (pc := 43) (tgt := 5) dX1_together_43 (by decide) ?_
          refine z_lv (lv' := [(0, .ref (a 3)), (1, .int (nI x)), (2, .ref tt.1), (3, .int (nI (sumk pls kd x (k + 1)))), (4, .int (nI (k + 1)))]) ⟨rfl, rfl, rfl, lki (by simp [sumk, hb, nI_add]), lki (nI_1 k), trivial⟩ ?_
          exact ih5 (k + 1) (by omega) hk
        · have hb := bt1 (by omega) hx c_2
          refine z_iload_n C (pc := 24) dX1_together_24 rfl ?_
          refine z_aload_n C (pc := 25) dX1_together_25 rfl ?_
          refine z_aload_n C (pc := 26) dX1_together_26 rfl ?_
          refine z_get C (pc := 27) 3 rfl rfl wf_X1 0 (by decide) rfl wl_X1_9 (v := .ref (a 4)) rfl dX1_together_27 ?_
          refine z_iload C (pc := 30) dX1_together_30 rfl ?_
          refine z_calli C (isC := [4]) rfl (by exact fun _ => rfl) (runSN C (wc := [(a 4, .inl (cI, 6, .inl (r 1)))]) (pc := 32) (rY' := rm 0 0) (nn := 2) (As := [.ref (a 4), .int (nI k)]) (rest := [.ref tt.1, .int (nI (sumk pls kd x k))]) (c_at l D cI tt (a 4) 6 (r 1) (nI k) (by decide)) rfl rfl ⟨rfl, rfl, ⟨Nat.le_of_ble_eq_true rfl, Nat.le_of_ble_eq_true rfl⟩, Nat.le_of_ble_eq_true rfl, Nat.le_of_ble_eq_true rfl⟩ wl_X1_22 ws_X3_at wi_X3 wc_X3_at (by decide +kernel) rfl rfl (Nat.le_of_ble_eq_true rfl) dX1_together_32) (fun r_3 u_3 h_3 => ?_)
          have h_3 : r_3 = (nI (kd k)) := h_3.trans (kind_at hv hk)
          subst h_3
          refine z_ws (st' := [.int (nI (kd k)), .ref tt.1, .int (nI (sumk pls kd x k))]) (ws' := (cW cI a i r)) rfl rfl ?_
          refine z_calli C (isC := []) rfl (by exact fun _ => rfl) (runSN C (wc := []) (pc := 35) (rY' := rm 0 0) (nn := 2) (As := [.ref tt.1, .int (nI (kd k))]) (rest := [.int (nI (sumk pls kd x k))]) (c_atP l D cI tt (nI (kd k))) rfl rfl ⟨rfl, rfl, ⟨Nat.le_of_ble_eq_true rfl, Nat.le_of_ble_eq_true rfl⟩, Nat.le_of_ble_eq_true rfl, Nat.le_of_ble_eq_true rfl⟩ wl_X1_22 ws_X3_at wi_X3 wc_X3_at (by decide +kernel) rfl rfl (Nat.le_of_ble_eq_true rfl) dX1_together_35) (fun r_4 u_4 h_4 => ?_)
          have h_4 : r_4 = (nI (pls (kd k))) := h_4.trans (tabP (hv.2.2 k hk).2)
          subst h_4
          refine z_ws (st' := [.int (nI (pls (kd k))), .int (nI (sumk pls kd x k))]) (ws' := (cW cI a i r)) rfl rfl ?_
          refine z_iadd C (pc := 38) dX1_together_38 ?_
          refine z_istore_n C (pc := 39) (lv' := [(0, .ref (a 3)), (1, .int (nI x)), (2, .ref tt.1), (3, .int ((nI (sumk pls kd x k)) + (nI (pls (kd k))))), (4, .int (nI k))]) dX1_together_39 (Nat.le_of_ble_eq_true rfl) rfl rfl ?_
          refine z_iinc C (pc := 40) (v := ((nI k) + 1)) (lv' := [(0, .ref (a 3)), (1, .int (nI x)), (2, .ref tt.1), (3, .int ((nI (sumk pls kd x k)) + (nI (pls (kd k))))), (4, .int ((nI k) + 1))]) dX1_together_40 rfl rfl (Nat.le_of_ble_eq_true rfl) rfl rfl ?_
          refine z_goto C (pc := 43) (tgt := 5) dX1_together_43 (by decide) ?_
          refine z_lv (lv' := [(0, .ref (a 3)), (1, .int (nI x)), (2, .ref tt.1), (3, .int (nI (sumk pls kd x (k + 1)))), (4, .int (nI (k + 1)))]) ⟨rfl, rfl, rfl, lki (by simp [sumk, hb, nI_add]), lki (nI_1 k), trivial⟩ ?_
          exact ih5 (k + 1) (by omega) hk
  refine z_lv (lv' := [(0, .ref (a 3)), (1, .int (nI x)), (2, .ref tt.1), (3, .int (nI (sumk pls kd x 0))), (4, .int (nI 0))]) ⟨rfl, rfl, rfl, rfl, rfl, trivial⟩ ?_
  exact key5 (_ + 1) 0 (Nat.lt_succ_self _) (Nat.zero_le _)

set_option maxHeartbeats 4000000 in
set_option maxRecDepth 100000 in
theorem c_togetherE (l : Launch) (D : va_G) (cI : ClassId) (tt : Nat × Nat × Nat) (a : Nat → Nat) (i : Nat → Int32) (r : Nat → Nat → Int32) (kd : Nat → Nat) (n x : Nat) (hv : PV i r kd n) (hx : x < 2 ^ 31) : MetI (S := Unit) l yX1_together cX1_together 5 (some .int) (rm 1 21) D cI tt [.ref (a 3), .int (nI x), .ref tt.2.1] (cW cI a i r) (fun r _ => r = nI (sumk ets kd x n)) (fun _ => cW cI a i r) := by
  have hn6 := hv.2.1
  refine met_ofI (by decide) (Nat.le_of_ble_eq_true rfl) ?_
  intro pP eE sS mM aV bB mE cC AA C hin
  refine z_conv (lv' := [(0, .ref (a 3)), (1, .int (nI x)), (2, .ref tt.2.1)]) ⟨rfl, rfl, rfl, trivial⟩ rfl rfl ?_
  refine z_iconst C (pc := 0) (v := 0) dX1_together_0 (by decide) ?_
  refine z_istore_n C (pc := 1) (lv' := [(0, .ref (a 3)), (1, .int (nI x)), (2, .ref tt.2.1), (3, .int 0)]) dX1_together_1 (Nat.le_of_ble_eq_true rfl) rfl rfl ?_
  refine z_iconst C (pc := 2) (v := 0) dX1_together_2 (by decide) ?_
  refine z_istore C (pc := 3) (lv' := [(0, .ref (a 3)), (1, .int (nI x)), (2, .ref tt.2.1), (3, .int 0), (4, .int 0)]) dX1_together_3 (Nat.le_of_ble_eq_true rfl) rfl rfl ?_
  have key5 : ∀ (fu5 : Nat) (k : Nat), n - k < fu5 → (k ≤ n) → Z pP l eE (rm 1 21) sS mM aV bB mE cC D AA 5 0 0 (MQ bB (va_Qi (S := Unit) (fun r _ => r = nI (sumk ets kd x n)) (fun u t => va_P D vwCl ((fun _ => cW cI a i r) u) t.heap) AA) aV sS 0 0 AA) 5 [(0, .ref (a 3)), (1, .int (nI x)), (2, .ref tt.2.1), (3, .int (nI (sumk ets kd x k))), (4, .int (nI k))] [] (cW cI a i r) := by
    intro fu5
    induction fu5 with
    | zero => intro k hfu5; exact absurd hfu5 (Nat.not_lt_zero _)
    | succ fu5 ih5 =>
      intro k hfu5 hkn
      refine z_iload C (pc := 5) dX1_together_5 rfl ?_
      refine z_aload_n C (pc := 7) dX1_together_7 rfl ?_
      refine z_get C (pc := 8) 3 rfl rfl wf_X1 1 (by decide) rfl wl_X1_18 (v := .int (i 4)) rfl dX1_together_8 ?_
      refine z_icmp_ge C (pc := 11) (tgt := 46) dX1_together_11 (by decide) (fun c_1 => ?_) (fun c_1 => ?_)
      · refine z_iload_n C (pc := 46) dX1_together_46 rfl ?_
        refine z_iret C (pc := 47) () dX1_together_47 ?_ rfl
        rw [hv.1] at c_1
        have : k = n := by have := ge_of_nI c_1 (by omega); omega
        rw [this]
      · rw [hv.1] at c_1
        have hk : k < n := lt_of_nI c_1 (by omega)
        refine z_iload_n C (pc := 14) dX1_together_14 rfl ?_
        refine z_iload C (pc := 15) dX1_together_15 rfl ?_
        refine z_ishr C (pc := 17) dX1_together_17 ?_
        refine z_iconst C (pc := 18) (v := 1) dX1_together_18 (by decide) ?_
        refine z_iand C (pc := 19) dX1_together_19 ?_
        refine z_iconst C (pc := 20) (v := 1) dX1_together_20 (by decide) ?_
        refine z_icmp_ne C (pc := 21) (tgt := 40) dX1_together_21 (by decide) (fun c_2 => ?_) (fun c_2 => ?_)
        · have hb := bt0 (by omega) hx c_2
          refine z_iinc C (pc := 40) (v := ((nI k) + 1)) (lv' := [(0, .ref (a 3)), (1, .int (nI x)), (2, .ref tt.2.1), (3, .int (nI (sumk ets kd x k))), (4, .int ((nI k) + 1))]) dX1_together_40 rfl rfl (Nat.le_of_ble_eq_true rfl) rfl rfl ?_
          refine z_goto C (pc := 43) (tgt := 5) dX1_together_43 (by decide) ?_
          refine z_lv (lv' := [(0, .ref (a 3)), (1, .int (nI x)), (2, .ref tt.2.1), (3, .int (nI (sumk ets kd x (k + 1)))), (4, .int (nI (k + 1)))]) ⟨rfl, rfl, rfl, lki (by simp [sumk, hb, nI_add]), lki (nI_1 k), trivial⟩ ?_
          exact ih5 (k + 1) (by omega) hk
        · have hb := bt1 (by omega) hx c_2
          refine z_iload_n C (pc := 24) dX1_together_24 rfl ?_
          refine z_aload_n C (pc := 25) dX1_together_25 rfl ?_
          refine z_aload_n C (pc := 26) dX1_together_26 rfl ?_
          refine z_get C (pc := 27) 3 rfl rfl wf_X1 0 (by decide) rfl wl_X1_9 (v := .ref (a 4)) rfl dX1_together_27 ?_
          refine z_iload C (pc := 30) dX1_together_30 rfl ?_
          refine z_calli C (isC := [4]) rfl (by exact fun _ => rfl) (runSN C (wc := [(a 4, .inl (cI, 6, .inl (r 1)))]) (pc := 32) (rY' := rm 0 0) (nn := 2) (As := [.ref (a 4), .int (nI k)]) (rest := [.ref tt.2.1, .int (nI (sumk ets kd x k))]) (c_at l D cI tt (a 4) 6 (r 1) (nI k) (by decide)) rfl rfl ⟨rfl, rfl, ⟨Nat.le_of_ble_eq_true rfl, Nat.le_of_ble_eq_true rfl⟩, Nat.le_of_ble_eq_true rfl, Nat.le_of_ble_eq_true rfl⟩ wl_X1_22 ws_X3_at wi_X3 wc_X3_at (by decide +kernel) rfl rfl (Nat.le_of_ble_eq_true rfl) dX1_together_32) (fun r_3 u_3 h_3 => ?_)
          have h_3 : r_3 = (nI (kd k)) := h_3.trans (kind_at hv hk)
          subst h_3
          refine z_ws (st' := [.int (nI (kd k)), .ref tt.2.1, .int (nI (sumk ets kd x k))]) (ws' := (cW cI a i r)) rfl rfl ?_
          refine z_calli C (isC := []) rfl (by exact fun _ => rfl) (runSN C (wc := []) (pc := 35) (rY' := rm 0 0) (nn := 2) (As := [.ref tt.2.1, .int (nI (kd k))]) (rest := [.int (nI (sumk ets kd x k))]) (c_atE l D cI tt (nI (kd k))) rfl rfl ⟨rfl, rfl, ⟨Nat.le_of_ble_eq_true rfl, Nat.le_of_ble_eq_true rfl⟩, Nat.le_of_ble_eq_true rfl, Nat.le_of_ble_eq_true rfl⟩ wl_X1_22 ws_X3_at wi_X3 wc_X3_at (by decide +kernel) rfl rfl (Nat.le_of_ble_eq_true rfl) dX1_together_35) (fun r_4 u_4 h_4 => ?_)
          have h_4 : r_4 = (nI (ets (kd k))) := h_4.trans (tabE (hv.2.2 k hk).2)
          subst h_4
          refine z_ws (st' := [.int (nI (ets (kd k))), .int (nI (sumk ets kd x k))]) (ws' := (cW cI a i r)) rfl rfl ?_
          refine z_iadd C (pc := 38) dX1_together_38 ?_
          refine z_istore_n C (pc := 39) (lv' := [(0, .ref (a 3)), (1, .int (nI x)), (2, .ref tt.2.1), (3, .int ((nI (sumk ets kd x k)) + (nI (ets (kd k))))), (4, .int (nI k))]) dX1_together_39 (Nat.le_of_ble_eq_true rfl) rfl rfl ?_
          refine z_iinc C (pc := 40) (v := ((nI k) + 1)) (lv' := [(0, .ref (a 3)), (1, .int (nI x)), (2, .ref tt.2.1), (3, .int ((nI (sumk ets kd x k)) + (nI (ets (kd k))))), (4, .int ((nI k) + 1))]) dX1_together_40 rfl rfl (Nat.le_of_ble_eq_true rfl) rfl rfl ?_
          refine z_goto C (pc := 43) (tgt := 5) dX1_together_43 (by decide) ?_
          refine z_lv (lv' := [(0, .ref (a 3)), (1, .int (nI x)), (2, .ref tt.2.1), (3, .int (nI (sumk ets kd x (k + 1)))), (4, .int (nI (k + 1)))]) ⟨rfl, rfl, rfl, lki (by simp [sumk, hb, nI_add]), lki (nI_1 k), trivial⟩ ?_
          exact ih5 (k + 1) (by omega) hk
  refine z_lv (lv' := [(0, .ref (a 3)), (1, .int (nI x)), (2, .ref tt.2.1), (3, .int (nI (sumk ets kd x 0))), (4, .int (nI 0))]) ⟨rfl, rfl, rfl, rfl, rfl, trivial⟩ ?_
  exact key5 (_ + 1) 0 (Nat.lt_succ_self _) (Nat.zero_le _)
end
section
theorem min_nI {x y : Nat} (hx : x < 2 ^ 31) (hy : y < 2 ^ 31) : (if nI y < nI x then nI y else nI x) = nI (min x y) := by
  by_cases h : y < x
  · rw [if_pos (nI_lt h hx), Nat.min_eq_right (by omega)]
  · rw [if_neg (nI_nlt (by omega) hy), Nat.min_eq_left (by omega)]
set_option maxHeartbeats 4000000 in
set_option maxRecDepth 100000 in
theorem c_setCairnsN (l : Launch) (D : va_G) (cI : ClassId) (tt : Nat × Nat × Nat) (a : Nat → Nat) (i : Nat → Int32) (r : Nat → Nat → Int32) : MetV (S := (Nat → Nat → Int32)) l yX1_setCairns cX1_setCairns 2 none (rm 2 44) D cI tt [.ref (a 3), .ref (a 7)] (cW cI a i r) (fun r' => SR r r' ∧ ∀ k, k < 5 → r' 2 k = r 3 k) (fun r' => cW cI a i r') := by
  refine met_ofV (by decide) (Nat.le_of_ble_eq_true rfl) ?_
  intro pP eE sS mM aV bB mE cC AA C hin
  refine z_conv (lv' := [(0, .ref (a 3)), (1, .ref (a 7))]) ⟨rfl, rfl, trivial⟩ rfl rfl ?_
  refine z_aload_n C (pc := 0) dX1_setCairns_0 rfl ?_
  refine z_aload_n C (pc := 1) dX1_setCairns_1 rfl ?_
  refine z_get C (pc := 2) 3 rfl rfl wf_X1 2 (by decide) rfl wl_X1_15 (v := .ref (a 5)) rfl dX1_setCairns_2 ?_
  refine z_callv C (isC := [7, 5]) rfl (by exact fun _ => rfl) (runSN C (wc := [(a 7, .inl (cI, 5, .inl (r 3))), (a 5, .inl (cI, 5, .inl (r 2)))]) (pc := 5) (rY' := rm 1 22) (nn := 2) (As := [.ref (a 7), .ref (a 5)]) (rest := []) (c_copy l D cI tt (a 7) 5 (a 5) 5 (r 3) (r 2) (by decide) (by decide)) rfl rfl ⟨rfl, rfl, ⟨Nat.le_of_ble_eq_true rfl, Nat.le_of_ble_eq_true rfl⟩, Nat.le_of_ble_eq_true rfl, Nat.le_of_ble_eq_true rfl⟩ wl_X1_26 ws_X3_copy wi_X3 wc_X3_copy (by decide +kernel) rfl rfl (Nat.le_of_ble_eq_true rfl) dX1_setCairns_5) (fun u_1 h_1 => ?_)
  subst h_1
  refine z_ws (st' := []) (ws' := (cW cI a i (va_up r 2 (cpv 5 (r 3) 5 (r 2) 5)))) rfl rfl ?_
  refine z_vret C (pc := 8) (va_up r 2 (cpv 5 (r 3) 5 (r 2) 5)) dX1_setCairns_8 ?_ rfl
  refine ⟨SR.rf.up, fun k hk => ?_⟩
  rw [vup_s, cpv_at (by decide) (by decide) 5 (by decide) (by decide), if_pos hk]

set_option maxHeartbeats 4000000 in
set_option maxRecDepth 100000 in
theorem c_setCairnsW (l : Launch) (D : va_G) (cI : ClassId) (tt : Nat × Nat × Nat) (a : Nat → Nat) (i : Nat → Int32) (r : Nat → Nat → Int32) : MetV (S := (Nat → Nat → Int32)) l yX1_setCairns cX1_setCairns 2 none (rm 2 44) D cI tt [.ref (a 3), .ref (a 18)] (cW cI a i r) (fun r' => SR r r' ∧ ∀ k, k < 5 → r' 2 k = r 13 k) (fun r' => cW cI a i r') := by
  refine met_ofV (by decide) (Nat.le_of_ble_eq_true rfl) ?_
  intro pP eE sS mM aV bB mE cC AA C hin
  refine z_conv (lv' := [(0, .ref (a 3)), (1, .ref (a 18))]) ⟨rfl, rfl, trivial⟩ rfl rfl ?_
  refine z_aload_n C (pc := 0) dX1_setCairns_0 rfl ?_
  refine z_aload_n C (pc := 1) dX1_setCairns_1 rfl ?_
  refine z_get C (pc := 2) 3 rfl rfl wf_X1 2 (by decide) rfl wl_X1_15 (v := .ref (a 5)) rfl dX1_setCairns_2 ?_
  refine z_callv C (isC := [18, 5]) rfl (by exact fun _ => rfl) (runSN C (wc := [(a 18, .inl (cI, 5, .inl (r 13))), (a 5, .inl (cI, 5, .inl (r 2)))]) (pc := 5) (rY' := rm 1 22) (nn := 2) (As := [.ref (a 18), .ref (a 5)]) (rest := []) (c_copy l D cI tt (a 18) 5 (a 5) 5 (r 13) (r 2) (by decide) (by decide)) rfl rfl ⟨rfl, rfl, ⟨Nat.le_of_ble_eq_true rfl, Nat.le_of_ble_eq_true rfl⟩, Nat.le_of_ble_eq_true rfl, Nat.le_of_ble_eq_true rfl⟩ wl_X1_26 ws_X3_copy wi_X3 wc_X3_copy (by decide +kernel) rfl rfl (Nat.le_of_ble_eq_true rfl) dX1_setCairns_5) (fun u_1 h_1 => ?_)
  subst h_1
  refine z_ws (st' := []) (ws' := (cW cI a i (va_up r 2 (cpv 5 (r 13) 5 (r 2) 5)))) rfl rfl ?_
  refine z_vret C (pc := 8) (va_up r 2 (cpv 5 (r 13) 5 (r 2) 5)) dX1_setCairns_8 ?_ rfl
  refine ⟨SR.rf.up, fun k hk => ?_⟩
  rw [vup_s, cpv_at (by decide) (by decide) 5 (by decide) (by decide), if_pos hk]

set_option maxHeartbeats 4000000 in
set_option maxRecDepth 100000 in
theorem c_dieOn (l : Launch) (D : va_G) (cI : ClassId) (tt : Nat × Nat × Nat) (a : Nat → Nat) (i : Nat → Int32) (r : Nat → Nat → Int32) (v : Int32) : MetV (S := (Nat → Int32)) l yX1_dieOn cX1_dieOn 2 none (rm 0 0) D cI tt [.ref (a 3), .int v] (cW cI a i r) (fun i' => SP i i' ∧ i' 5 = 0 ∧ i' 6 = 0 ∧ i' 9 = v) (fun i' => cW cI a i' r) := by
  refine met_ofV (by decide) (Nat.le_of_ble_eq_true rfl) ?_
  intro pP eE sS mM aV bB mE cC AA C hin
  refine z_conv (lv' := [(0, .ref (a 3)), (1, .int v)]) ⟨rfl, rfl, trivial⟩ rfl rfl ?_
  refine z_aload_n C (pc := 0) dX1_dieOn_0 rfl ?_
  refine z_iconst C (pc := 1) (v := 0) dX1_dieOn_1 (by decide) ?_
  refine z_put C (pc := 2) 3 rfl rfl wf_X1 3 (by decide) rfl tyX1 tyX1_ok nmX1 rfl rfl rfl (Nat.le_of_ble_eq_true rfl) (ws' := (cW cI a (upd i 5 0) r)) rfl wl_X1_40 dX1_dieOn_2 ?_
  refine z_aload_n C (pc := 5) dX1_dieOn_5 rfl ?_
  refine z_iconst C (pc := 6) (v := 0) dX1_dieOn_6 (by decide) ?_
  refine z_put C (pc := 7) 3 rfl rfl wf_X1 4 (by decide) rfl tyX1 tyX1_ok nmX1 rfl rfl rfl (Nat.le_of_ble_eq_true rfl) (ws' := (cW cI a (upd (upd i 5 0) 6 0) r)) rfl wl_X1_43 dX1_dieOn_7 ?_
  refine z_aload_n C (pc := 10) dX1_dieOn_10 rfl ?_
  refine z_iload_n C (pc := 11) dX1_dieOn_11 rfl ?_
  refine z_put C (pc := 12) 3 rfl rfl wf_X1 7 (by decide) rfl tyX1 tyX1_ok nmX1 rfl rfl rfl (Nat.le_of_ble_eq_true rfl) (ws' := (cW cI a (upd (upd (upd i 5 0) 6 0) 9 v) r)) rfl wl_X1_75 dX1_dieOn_12 ?_
  refine z_vret C (pc := 15) (upd (upd (upd i 5 0) 6 0) 9 v) dX1_dieOn_15 ?_ rfl
  exact ⟨((SP.rf.up (by omega)).up (by omega)).up (by omega), by simp [upd], by simp [upd], by simp [upd]⟩

set_option maxHeartbeats 4000000 in
set_option maxRecDepth 100000 in
theorem c_devour (l : Launch) (D : va_G) (cI : ClassId) (tt : Nat × Nat × Nat) (a : Nat → Nat) (i : Nat → Int32) (r : Nat → Nat → Int32) (kd : Nat → Nat) (n x f : Nat) (hv : PV i r kd n) (hs : PS i kd n x f) (ho : OK kd n x f) (k : Nat) (hk : k < n) : MetV (S := (Nat → Int32)) l yX1_devour cX1_devour 3 none (rm 1 21) D cI tt [.ref (a 3), .int (nI k)] (cW cI a i r) (fun i' => SP i i' ∧ i' 9 = i 9 ∧ PS i' kd n (dev kd n k (x, f)).1 (dev kd n k (x, f)).2) (fun i' => cW cI a i' r) := by
  have hn6 := hv.2.1
  have hx6 := pow_le6 hn6
  have hx := ho.1
  refine met_ofV (by decide) (Nat.le_of_ble_eq_true rfl) ?_
  intro pP eE sS mM aV bB mE cC AA C hin
  refine z_conv (lv' := [(0, .ref (a 3)), (1, .int (nI k))]) ⟨rfl, rfl, trivial⟩ rfl rfl ?_
  refine z_aload_n C (pc := 0) dX1_devour_0 rfl ?_
  refine z_get C (pc := 1) 3 rfl rfl wf_X1 3 (by decide) rfl wl_X1_40 (v := .int (i 5)) rfl dX1_devour_1 ?_
  refine z_iload_n C (pc := 4) dX1_devour_4 rfl ?_
  refine z_ishr C (pc := 5) dX1_devour_5 ?_
  refine z_iconst C (pc := 6) (v := 1) dX1_devour_6 (by decide) ?_
  refine z_iand C (pc := 7) dX1_devour_7 ?_
  refine z_if_ne C (pc := 8) (tgt := 12) dX1_devour_8 (by decide) (fun c_1 => ?_) (fun c_1 => ?_)
  · have hb := bt1' (by omega) (by omega) (hs.1 ▸ c_1)
    refine z_aload_n C (pc := 12) dX1_devour_12 rfl ?_
    refine z_get C (pc := 13) 3 rfl rfl wf_X1 0 (by decide) rfl wl_X1_9 (v := .ref (a 4)) rfl dX1_devour_13 ?_
    refine z_iload_n C (pc := 16) dX1_devour_16 rfl ?_
    refine z_calli C (isC := [4]) rfl (by exact fun _ => rfl) (runSN C (wc := [(a 4, .inl (cI, 6, .inl (r 1)))]) (pc := 17) (rY' := rm 0 0) (nn := 2) (As := [.ref (a 4), .int (nI k)]) (rest := []) (c_at l D cI tt (a 4) 6 (r 1) (nI k) (by decide)) rfl rfl ⟨rfl, rfl, ⟨Nat.le_of_ble_eq_true rfl, Nat.le_of_ble_eq_true rfl⟩, Nat.le_of_ble_eq_true rfl, Nat.le_of_ble_eq_true rfl⟩ wl_X1_22 ws_X3_at wi_X3 wc_X3_at (by decide +kernel) rfl rfl (Nat.le_of_ble_eq_true rfl) dX1_devour_17) (fun r_2 u_2 h_2 => ?_)
    have h_2 : r_2 = (nI (kd k)) := h_2.trans (kind_at hv hk)
    subst h_2
    refine z_ws (st' := [.int (nI (kd k))]) (ws' := (cW cI a i r)) rfl rfl ?_
    refine z_istore_n C (pc := 20) (lv' := [(0, .ref (a 3)), (1, .int (nI k)), (2, .int (nI (kd k)))]) dX1_devour_20 (Nat.le_of_ble_eq_true rfl) rfl rfl ?_
    refine z_aload_n C (pc := 21) dX1_devour_21 rfl ?_
    refine z_dup C (pc := 22) dX1_devour_22 rfl ?_
    refine z_get C (pc := 23) 3 rfl rfl wf_X1 3 (by decide) rfl wl_X1_40 (v := .int (i 5)) rfl dX1_devour_23 ?_
    refine z_iconst C (pc := 26) (v := 1) dX1_devour_26 (by decide) ?_
    refine z_iload_n C (pc := 27) dX1_devour_27 rfl ?_
    refine z_ishl C (pc := 28) dX1_devour_28 ?_
    refine z_iconst C (pc := 29) (v := (-1)) dX1_devour_29 (by decide) ?_
    refine z_ixor C (pc := 30) dX1_devour_30 ?_
    refine z_iand C (pc := 31) dX1_devour_31 ?_
    refine z_put C (pc := 32) 3 rfl rfl wf_X1 3 (by decide) rfl tyX1 tyX1_ok nmX1 rfl rfl rfl (Nat.le_of_ble_eq_true rfl) (ws' := (cW cI a (upd i 5 ((i 5) &&& ((1 <<< ((nI k) &&& 31)) ^^^ (-1)))) r)) rfl wl_X1_40 dX1_devour_32 ?_
    refine z_aload_n C (pc := 35) dX1_devour_35 rfl ?_
    refine z_dup C (pc := 36) dX1_devour_36 rfl ?_
    refine z_get C (pc := 37) 3 rfl rfl wf_X1 5 (by decide) rfl wl_X1_63 (v := .int (i 7)) rfl dX1_devour_37 ?_
    refine z_getsN C (pc := 40) C.2.2.2.2.2.2.2.1.1.1 wl_X1_56 dX1_devour_40 ?_
    refine z_iload_n C (pc := 43) dX1_devour_43 rfl ?_
    refine z_calli C (isC := []) rfl (by exact fun _ => rfl) (runSN C (wc := []) (pc := 44) (rY' := rm 0 0) (nn := 2) (As := [.ref tt.1, .int (nI (kd k))]) (rest := [.int (i 7), .ref (a 3)]) (c_atP l D cI tt (nI (kd k))) rfl rfl ⟨rfl, rfl, ⟨Nat.le_of_ble_eq_true rfl, Nat.le_of_ble_eq_true rfl⟩, Nat.le_of_ble_eq_true rfl, Nat.le_of_ble_eq_true rfl⟩ wl_X1_22 ws_X3_at wi_X3 wc_X3_at (by decide +kernel) rfl rfl (Nat.le_of_ble_eq_true rfl) dX1_devour_44) (fun r_3 u_3 h_3 => ?_)
    have h_3 : r_3 = (nI (pls (kd k))) := h_3.trans (tabP (hv.2.2 k hk).2)
    subst h_3
    refine z_ws (st' := [.int (nI (pls (kd k))), .int (i 7), .ref (a 3)]) (ws' := (cW cI a (upd i 5 ((i 5) &&& ((1 <<< ((nI k) &&& 31)) ^^^ (-1)))) r)) rfl rfl ?_
    refine z_isub C (pc := 47) dX1_devour_47 ?_
    refine z_put C (pc := 48) 3 rfl rfl wf_X1 5 (by decide) rfl tyX1 tyX1_ok nmX1 rfl rfl rfl (Nat.le_of_ble_eq_true rfl) (ws' := (cW cI a (upd (upd i 5 ((i 5) &&& ((1 <<< ((nI k) &&& 31)) ^^^ (-1)))) 7 ((i 7) - (nI (pls (kd k))))) r)) rfl wl_X1_63 dX1_devour_48 ?_
    refine z_aload_n C (pc := 51) dX1_devour_51 rfl ?_
    refine z_dup C (pc := 52) dX1_devour_52 rfl ?_
    refine z_get C (pc := 53) 3 rfl rfl wf_X1 6 (by decide) rfl wl_X1_46 (v := .int (i 8)) rfl dX1_devour_53 ?_
    refine z_getsN C (pc := 56) C.2.2.2.2.2.2.2.1.2.1.1 wl_X1_66 dX1_devour_56 ?_
    refine z_iload_n C (pc := 59) dX1_devour_59 rfl ?_
    refine z_calli C (isC := []) rfl (by exact fun _ => rfl) (runSN C (wc := []) (pc := 60) (rY' := rm 0 0) (nn := 2) (As := [.ref tt.2.1, .int (nI (kd k))]) (rest := [.int (i 8), .ref (a 3)]) (c_atE l D cI tt (nI (kd k))) rfl rfl ⟨rfl, rfl, ⟨Nat.le_of_ble_eq_true rfl, Nat.le_of_ble_eq_true rfl⟩, Nat.le_of_ble_eq_true rfl, Nat.le_of_ble_eq_true rfl⟩ wl_X1_22 ws_X3_at wi_X3 wc_X3_at (by decide +kernel) rfl rfl (Nat.le_of_ble_eq_true rfl) dX1_devour_60) (fun r_4 u_4 h_4 => ?_)
    have h_4 : r_4 = (nI (ets (kd k))) := h_4.trans (tabE (hv.2.2 k hk).2)
    subst h_4
    refine z_ws (st' := [.int (nI (ets (kd k))), .int (i 8), .ref (a 3)]) (ws' := (cW cI a (upd (upd i 5 ((i 5) &&& ((1 <<< ((nI k) &&& 31)) ^^^ (-1)))) 7 ((i 7) - (nI (pls (kd k))))) r)) rfl rfl ?_
    refine z_isub C (pc := 63) dX1_devour_63 ?_
    refine z_put C (pc := 64) 3 rfl rfl wf_X1 6 (by decide) rfl tyX1 tyX1_ok nmX1 rfl rfl rfl (Nat.le_of_ble_eq_true rfl) (ws' := (cW cI a (upd (upd (upd i 5 ((i 5) &&& ((1 <<< ((nI k) &&& 31)) ^^^ (-1)))) 7 ((i 7) - (nI (pls (kd k))))) 8 ((i 8) - (nI (ets (kd k))))) r)) rfl wl_X1_46 dX1_devour_64 ?_
    refine z_aload_n C (pc := 67) dX1_devour_67 rfl ?_
    refine z_aload_n C (pc := 68) dX1_devour_68 rfl ?_
    refine z_get C (pc := 69) 3 rfl rfl wf_X1 4 (by decide) rfl wl_X1_43 (v := .int (i 6)) rfl dX1_devour_69 ?_
    refine z_getsN C (pc := 72) C.2.2.2.2.2.2.2.1.2.2.1 wl_X1_85 dX1_devour_72 ?_
    refine z_iload_n C (pc := 75) dX1_devour_75 rfl ?_
    refine z_calli C (isC := []) rfl (by exact fun _ => rfl) (runSN C (wc := []) (pc := 76) (rY' := rm 0 0) (nn := 2) (As := [.ref tt.2.2, .int (nI (kd k))]) (rest := [.int (i 6), .ref (a 3)]) (c_atF l D cI tt (nI (kd k))) rfl rfl ⟨rfl, rfl, ⟨Nat.le_of_ble_eq_true rfl, Nat.le_of_ble_eq_true rfl⟩, Nat.le_of_ble_eq_true rfl, Nat.le_of_ble_eq_true rfl⟩ wl_X1_22 ws_X3_at wi_X3 wc_X3_at (by decide +kernel) rfl rfl (Nat.le_of_ble_eq_true rfl) dX1_devour_76) (fun r_5 u_5 h_5 => ?_)
    have h_5 : r_5 = (nI (fds (kd k))) := h_5.trans (tabF (hv.2.2 k hk).2)
    subst h_5
    refine z_ws (st' := [.int (nI (fds (kd k))), .int (i 6), .ref (a 3)]) (ws' := (cW cI a (upd (upd (upd i 5 ((i 5) &&& ((1 <<< ((nI k) &&& 31)) ^^^ (-1)))) 7 ((i 7) - (nI (pls (kd k))))) 8 ((i 8) - (nI (ets (kd k))))) r)) rfl rfl ?_
    refine z_iadd C (pc := 79) dX1_devour_79 ?_
    refine z_aload_n C (pc := 80) dX1_devour_80 rfl ?_
    refine z_get C (pc := 81) 3 rfl rfl wf_X1 5 (by decide) rfl wl_X1_63 (v := .int ((i 7) - (nI (pls (kd k))))) rfl dX1_devour_81 ?_
    refine z_mmin C (pc := 84) wl_X1_69 (Nat.le_of_ble_eq_true rfl) (Nat.le_of_ble_eq_true rfl) (Nat.zero_le _) (Nat.zero_le _) dX1_devour_84 ?_
    refine z_put C (pc := 87) 3 rfl rfl wf_X1 4 (by decide) rfl tyX1 tyX1_ok nmX1 rfl rfl rfl (Nat.le_of_ble_eq_true rfl) (ws' := (cW cI a (upd (upd (upd (upd i 5 ((i 5) &&& ((1 <<< ((nI k) &&& 31)) ^^^ (-1)))) 7 ((i 7) - (nI (pls (kd k))))) 8 ((i 8) - (nI (ets (kd k))))) 6 (if ((i 7) - (nI (pls (kd k)))) < ((i 6) + (nI (fds (kd k)))) then ((i 7) - (nI (pls (kd k)))) else ((i 6) + (nI (fds (kd k)))))) r)) rfl wl_X1_43 dX1_devour_87 ?_
    refine z_vret C (pc := 90) (upd (upd (upd (upd i 5 ((i 5) &&& ((1 <<< ((nI k) &&& 31)) ^^^ (-1)))) 7 ((i 7) - (nI (pls (kd k))))) 8 ((i 8) - (nI (ets (kd k))))) 6 (if ((i 7) - (nI (pls (kd k)))) < ((i 6) + (nI (fds (kd k)))) then ((i 7) - (nI (pls (kd k)))) else ((i 6) + (nI (fds (kd k)))))) dX1_devour_90 ?_ rfl
    have e5 : i 5 &&& ((1 <<< (nI k &&& 31)) ^^^ (-1)) = nI (x - 2 ^ k) := by rw [hs.1]; exact and_not x (by omega) k (by omega) hb
    have hp := sumk_sub (g := pls) (kd := kd) (by omega) (by omega) hb n hn6 hk
    have hq := sumk_sub (g := ets) (kd := kd) (by omega) (by omega) hb n hn6 hk
    have e7 : i 7 - nI (pls (kd k)) = nI (sumk pls kd (x - 2 ^ k) n) := by rw [hs.2.2.1, ← hp, ← nI_add]; simp
    have e8 : i 8 - nI (ets (kd k)) = nI (sumk ets kd (x - 2 ^ k) n) := by rw [hs.2.2.2, ← hq, ← nI_add]; simp
    have hf := fds_le (kd k)
    have hpl := pl_le (kd := kd) (x := x) hn6
    have hpl2 := pl_le (kd := kd) (x := x - 2 ^ k) hn6
    have hof := ho.2
    have e6 : (if i 7 - nI (pls (kd k)) < i 6 + nI (fds (kd k)) then i 7 - nI (pls (kd k)) else i 6 + nI (fds (kd k))) = nI (min (f + fds (kd k)) (sumk pls kd (x - 2 ^ k) n)) := by
      rw [e7, hs.2.1, nI_add, min_nI (by omega) (by omega)]
    refine ⟨(((SP.rf.up (by omega)).up (by omega)).up (by omega)).up (by omega), by simp [upd], ?_⟩
    unfold dev
    rw [if_pos hb]
    refine ⟨?_, ?_, ?_, ?_⟩
    · rw [upd_n (by decide), upd_n (by decide), upd_n (by decide), upd_s]; exact e5
    · rw [upd_s]; exact e6
    · rw [upd_n (by decide), upd_n (by decide), upd_s]; exact e7
    · rw [upd_n (by decide), upd_s]; exact e8
  · refine z_vret C (pc := 11) i dX1_devour_11 ?_ rfl
    have hb := bt0' (by omega) (by omega) (hs.1 ▸ c_1)
    refine ⟨SP.rf, rfl, ?_⟩
    unfold dev; rw [if_neg (show ¬ bt x k = 1 by omega)]; exact hs
end
section
theorem add_m1 (x : Int32) : x + (-1) = x - 1 := (Int32.sub_eq_add_neg x 1).symm
theorem neg_pred : ∀ m, m < 7 → (nI m - 1 < 0 ↔ m = 0) := by decide +kernel
theorem nI_eq1 {t : Nat} (h : t < 2 ^ 31) : nI t = 1 ↔ t = 1 := nI_eq (b := 1) h (by decide)
theorem isOf_2 : ∀ t, t ≤ 4 → (isOfv (nI t) 2 = 0 ↔ ¬ (t = 2 ∨ t = 4)) := by decide +kernel
theorem pon_s {kd : Nat → Nat} {n k : Nat} {s : Nat × Nat} (h : kd k = 1) : pon kd n (k + 1) s = pon kd n k (dev kd n k s) := by
  show pon kd n k (if kd k = 1 then _ else _) = _
  rw [if_pos h]
theorem pon_n {kd : Nat → Nat} {n k : Nat} {s : Nat × Nat} (h : ¬ kd k = 1) : pon kd n (k + 1) s = pon kd n k s := by
  show pon kd n k (if kd k = 1 then _ else _) = _
  rw [if_neg h]
theorem bea_s {kd : Nat → Nat} {n k : Nat} {s : Nat × Nat} (h0 : s.2 < sumk ets kd s.1 n) (h : isB (kd k) = true) : bea kd n (k + 1) s = bea kd n k (dev kd n k s) := by
  show (if _ then bea kd n k (if isB (kd k) = true then _ else _) else _) = _
  rw [if_pos h0, if_pos h]
theorem bea_n {kd : Nat → Nat} {n k : Nat} {s : Nat × Nat} (h0 : s.2 < sumk ets kd s.1 n) (h : ¬ isB (kd k) = true) : bea kd n (k + 1) s = bea kd n k s := by
  show (if _ then bea kd n k (if isB (kd k) = true then _ else _) else _) = _
  rw [if_pos h0, if_neg h]
theorem bea_x {kd : Nat → Nat} {n : Nat} {s : Nat × Nat} (h0 : ¬ s.2 < sumk ets kd s.1 n) : ∀ k, bea kd n k s = s
  | 0 => rfl
  | k + 1 => by
    show (if _ then _ else _) = _
    rw [if_neg h0]
theorem isB_iff (t : Nat) : isB t = true ↔ t = 1 ∨ t = 2 ∨ t = 4 := by simp [isB, or_assoc]
def cav (c : Nat → Nat) (q : Nat) : Nat := if q = 0 then 0 else c (q - 1)
theorem pred_neg : ∀ q, q < 6 → (nI q - 1 < 0 ↔ q = 0) := by decide +kernel
theorem pred_5 : ∀ q, q < 6 → ¬ nI 5 ≤ nI q - 1 := by decide +kernel
theorem pred_cl : ∀ q, q < 6 → q ≠ 0 → (nI q - 1).toNatClampNeg = q - 1 := by decide +kernel
theorem at_c {f : Nat → Int32} {c : Nat → Nat} {q : Nat} (hq : q < 6) (h : ∀ k, k < 5 → f k = nI (c k) ∧ c k ≤ 9) : atv 5 f (nI q - 1) = nI (cav c q) := by
  unfold atv cav
  by_cases e : q = 0
  · rw [if_pos ((pred_neg q hq).mpr e), if_pos e]; rfl
  · rw [if_neg (fun h => e ((pred_neg q hq).mp h)), if_neg (pred_5 q hq), if_neg e, pred_cl q hq e]
    exact (h (q - 1) (by omega)).1
theorem put_c {f : Nat → Int32} {q : Nat} {v : Int32} (hq : q < 6) : putv 5 f (nI q - 1) v = if q = 0 then f else upd f (q - 1) v := by
  unfold putv
  by_cases e : q = 0
  · rw [if_pos ((pred_neg q hq).mpr e), if_pos e]
  · rw [if_neg (fun h => e ((pred_neg q hq).mp h)), if_neg (pred_5 q hq), if_neg e, pred_cl q hq e]
theorem cav_le {f : Nat → Int32} (c : Nat → Nat) (q : Nat) (h : ∀ k, k < 5 → f k = nI (c k) ∧ c k ≤ 9) : q < 6 → cav c q ≤ 9 := fun hq => by
  unfold cav
  by_cases e : q = 0
  · rw [if_pos e]; decide
  · rw [if_neg e]; exact (h _ (by omega)).2
set_option maxHeartbeats 4000000 in
set_option maxRecDepth 100000 in
theorem c_eatPonies (l : Launch) (D : va_G) (cI : ClassId) (tt : Nat × Nat × Nat) (a : Nat → Nat) (i : Nat → Int32) (r : Nat → Nat → Int32) (kd : Nat → Nat) (n x f : Nat) (hv : PV i r kd n) (hs : PS i kd n x f) (ho : OK kd n x f) : MetV (S := (Nat → Int32)) l yX1_eatPonies cX1_eatPonies 2 none (rm 2 43) D cI tt [.ref (a 3)] (cW cI a i r) (fun i' => SP i i' ∧ i' 9 = i 9 ∧ PS i' kd n (pon kd n n (x, f)).1 (pon kd n n (x, f)).2) (fun i' => cW cI a i' r) := by
  have hn6 := hv.2.1
  have hx6 := pow_le6 hn6
  have hx := ho.1
  refine met_ofV (by decide) (Nat.le_of_ble_eq_true rfl) ?_
  intro pP eE sS mM aV bB mE cC AA C hin
  refine z_conv (lv' := [(0, .ref (a 3))]) ⟨rfl, trivial⟩ rfl rfl ?_
  refine z_aload_n C (pc := 0) dX1_eatPonies_0 rfl ?_
  refine z_get C (pc := 1) 3 rfl rfl wf_X1 1 (by decide) rfl wl_X1_18 (v := .int (i 4)) rfl dX1_eatPonies_1 ?_
  refine z_iconst C (pc := 4) (v := 1) dX1_eatPonies_4 (by decide) ?_
  refine z_isub C (pc := 5) dX1_eatPonies_5 ?_
  refine z_istore_n C (pc := 6) (lv' := [(0, .ref (a 3)), (1, .int ((i 4) - 1))]) dX1_eatPonies_6 (Nat.le_of_ble_eq_true rfl) rfl rfl ?_
  have key7 : ∀ (fu7 : Nat) (m x' f' : Nat) (i' : Nat → Int32), m < fu7 → (m ≤ n) → (SP i i') → (i' 9 = i 9) → (PS i' kd n x' f') → (OK kd n x' f') → (pon kd n m (x', f') = pon kd n n (x, f)) → Z pP l eE (rm 2 43) sS mM aV bB mE cC D AA 2 0 0 (MQ bB (va_Qv (S := (Nat → Int32)) (fun i' => SP i i' ∧ i' 9 = i 9 ∧ PS i' kd n (pon kd n n (x, f)).1 (pon kd n n (x, f)).2) (fun u t => va_P D vwCl ((fun i' => cW cI a i' r) u) t.heap) AA) aV sS 0 0 AA) 7 [(0, .ref (a 3)), (1, .int (nI m - 1))] [] (cW cI a i' r) := by
    intro fu7
    induction fu7 with
    | zero => intro m x' f' i' hfu7; exact absurd hfu7 (Nat.not_lt_zero _)
    | succ fu7 ih7 =>
      intro m x' f' i' hfu7 hm hsp h9 hps hok heq
      refine z_iload_n C (pc := 7) dX1_eatPonies_7 rfl ?_
      refine z_if_lt C (pc := 8) (tgt := 34) dX1_eatPonies_8 (by decide) (fun c_1 => ?_) (fun c_1 => ?_)
      · refine z_vret C (pc := 34) i' dX1_eatPonies_34 ?_ rfl
        have hm0 := (neg_pred m (by omega)).mp c_1
        subst hm0
        refine ⟨hsp, h9, ?_⟩
        rw [← heq]; exact hps
      · obtain ⟨k, rfl⟩ : ∃ k, m = k + 1 := ⟨m - 1, by have hm0 : m ≠ 0 := (fun h => c_1 ((neg_pred m (by omega)).mpr h)); omega⟩
        refine z_lv (lv' := [(0, .ref (a 3)), (1, .int (nI k))]) ⟨rfl, lki (nI_pred k), trivial⟩ ?_
        have hk : k < n := by omega
        have hv' := hv.sp hsp (SR.rf (r := r))
        refine z_aload_n C (pc := 11) dX1_eatPonies_11 rfl ?_
        refine z_get C (pc := 12) 3 rfl rfl wf_X1 0 (by decide) rfl wl_X1_9 (v := .ref (a 4)) rfl dX1_eatPonies_12 ?_
        refine z_iload_n C (pc := 15) dX1_eatPonies_15 rfl ?_
        refine z_calli C (isC := [4]) rfl (by exact fun _ => rfl) (runSN C (wc := [(a 4, .inl (cI, 6, .inl (r 1)))]) (pc := 16) (rY' := rm 0 0) (nn := 2) (As := [.ref (a 4), .int (nI k)]) (rest := []) (c_at l D cI tt (a 4) 6 (r 1) (nI k) (by decide)) rfl rfl ⟨rfl, rfl, ⟨Nat.le_of_ble_eq_true rfl, Nat.le_of_ble_eq_true rfl⟩, Nat.le_of_ble_eq_true rfl, Nat.le_of_ble_eq_true rfl⟩ wl_X1_22 ws_X3_at wi_X3 wc_X3_at (by decide +kernel) rfl rfl (Nat.le_of_ble_eq_true rfl) dX1_eatPonies_16) (fun r_2 u_2 h_2 => ?_)
        have h_2 : r_2 = (nI (kd k)) := h_2.trans (kind_at hv' hk)
        subst h_2
        refine z_ws (st' := [.int (nI (kd k))]) (ws' := (cW cI a i' r)) rfl rfl ?_
        refine z_iconst C (pc := 19) (v := 1) dX1_eatPonies_19 (by decide) ?_
        refine z_icmp_ne C (pc := 20) (tgt := 28) dX1_eatPonies_20 (by decide) (fun c_3 => ?_) (fun c_3 => ?_)
        · have hkd : ¬ kd k = 1 := fun h => c_3 ((nI_eq1 (by have := (hv.2.2 k hk).2; omega)).mpr h)
          refine z_iinc C (pc := 28) (v := ((nI k) + (-1))) (lv' := [(0, .ref (a 3)), (1, .int ((nI k) + (-1)))]) dX1_eatPonies_28 rfl rfl (Nat.le_of_ble_eq_true rfl) rfl rfl ?_
          refine z_goto C (pc := 31) (tgt := 7) dX1_eatPonies_31 (by decide) ?_
          refine z_lv (lv' := [(0, .ref (a 3)), (1, .int (nI k - 1))]) ⟨rfl, lki (add_m1 _), trivial⟩ ?_
          exact ih7 k x' f' i' (by omega) (by omega) hsp h9 hps hok ((pon_n hkd).symm.trans heq)
        · have hkd : kd k = 1 := (nI_eq1 (by have := (hv.2.2 k hk).2; omega)).mp c_3
          refine z_aload_n C (pc := 23) dX1_eatPonies_23 rfl ?_
          refine z_iload_n C (pc := 24) dX1_eatPonies_24 rfl ?_
          refine z_callvF C (by exact fun _ => cW_ad) (runV C (wc := (cW cI a i' r)) (pc := 25) (rY' := rm 1 21) (nn := 1) (As := [.int (nI k)]) (rest := []) (c_devour l D cI tt a i' r kd n x' f' hv' hps hok k hk) (full_hC _) (full_nd _) ⟨rfl, rfl, ⟨Nat.le_of_ble_eq_true rfl, Nat.le_of_ble_eq_true rfl⟩, Nat.le_of_ble_eq_true rfl, Nat.le_of_ble_eq_true rfl⟩ wl_X1_78 wm_X1_devour we_X1_devour wi_X1 wc_X1_devour (by decide +kernel) rfl 3 rfl rfl rfl rfl (Nat.le_of_ble_eq_true rfl) dX1_eatPonies_25) (fun u_4 h_4 => ?_)
          generalize u_4 = i4 at h_4 ⊢
          obtain ⟨g1, g2, g3⟩ := h_4
          refine z_ws (st' := []) (ws' := (cW cI a i4 r)) rfl rfl ?_
          refine z_iinc C (pc := 28) (v := ((nI k) + (-1))) (lv' := [(0, .ref (a 3)), (1, .int ((nI k) + (-1)))]) dX1_eatPonies_28 rfl rfl (Nat.le_of_ble_eq_true rfl) rfl rfl ?_
          refine z_goto C (pc := 31) (tgt := 7) dX1_eatPonies_31 (by decide) ?_
          refine z_lv (lv' := [(0, .ref (a 3)), (1, .int (nI k - 1))]) ⟨rfl, lki (add_m1 _), trivial⟩ ?_
          exact ih7 k ((dev kd n k (x', f')).1) ((dev kd n k (x', f')).2) i4 (by omega) (by omega) (hsp.tr g1) (g2.trans h9) g3 (dev_ok hn6 hk hok) ((pon_s hkd).symm.trans heq)
  refine z_lv (lv' := [(0, .ref (a 3)), (1, .int (nI n - 1))]) ⟨rfl, lki (by rw [hv.1]), trivial⟩ ?_
  exact key7 (_ + 1) n x f i (Nat.lt_succ_self _) (Nat.le_refl _) SP.rf rfl hs ho rfl

set_option maxHeartbeats 4000000 in
set_option maxRecDepth 100000 in
theorem c_eatBeasts (l : Launch) (D : va_G) (cI : ClassId) (tt : Nat × Nat × Nat) (a : Nat → Nat) (i : Nat → Int32) (r : Nat → Nat → Int32) (kd : Nat → Nat) (n x f : Nat) (hv : PV i r kd n) (hs : PS i kd n x f) (ho : OK kd n x f) : MetV (S := (Nat → Int32)) l yX1_eatBeasts cX1_eatBeasts 3 none (rm 2 43) D cI tt [.ref (a 3)] (cW cI a i r) (fun i' => SP i i' ∧ i' 9 = i 9 ∧ PS i' kd n (bea kd n n (x, f)).1 (bea kd n n (x, f)).2) (fun i' => cW cI a i' r) := by
  have hn6 := hv.2.1
  have hx6 := pow_le6 hn6
  have hx := ho.1
  refine met_ofV (by decide) (Nat.le_of_ble_eq_true rfl) ?_
  intro pP eE sS mM aV bB mE cC AA C hin
  refine z_conv (lv' := [(0, .ref (a 3))]) ⟨rfl, trivial⟩ rfl rfl ?_
  refine z_aload_n C (pc := 0) dX1_eatBeasts_0 rfl ?_
  refine z_get C (pc := 1) 3 rfl rfl wf_X1 1 (by decide) rfl wl_X1_18 (v := .int (i 4)) rfl dX1_eatBeasts_1 ?_
  refine z_iconst C (pc := 4) (v := 1) dX1_eatBeasts_4 (by decide) ?_
  refine z_isub C (pc := 5) dX1_eatBeasts_5 ?_
  refine z_istore_n C (pc := 6) (lv' := [(0, .ref (a 3)), (1, .int ((i 4) - 1))]) dX1_eatBeasts_6 (Nat.le_of_ble_eq_true rfl) rfl rfl ?_
  have key7 : ∀ (fu7 : Nat) (m x' f' : Nat) (i' : Nat → Int32), m < fu7 → (m ≤ n) → (SP i i') → (i' 9 = i 9) → (PS i' kd n x' f') → (OK kd n x' f') → (bea kd n m (x', f') = bea kd n n (x, f)) → Z pP l eE (rm 2 43) sS mM aV bB mE cC D AA 3 0 0 (MQ bB (va_Qv (S := (Nat → Int32)) (fun i' => SP i i' ∧ i' 9 = i 9 ∧ PS i' kd n (bea kd n n (x, f)).1 (bea kd n n (x, f)).2) (fun u t => va_P D vwCl ((fun i' => cW cI a i' r) u) t.heap) AA) aV sS 0 0 AA) 7 [(0, .ref (a 3)), (1, .int (nI m - 1))] [] (cW cI a i' r) := by
    intro fu7
    induction fu7 with
    | zero => intro m x' f' i' hfu7; exact absurd hfu7 (Nat.not_lt_zero _)
    | succ fu7 ih7 =>
      intro m x' f' i' hfu7 hm hsp h9 hps hok heq
      refine z_iload_n C (pc := 7) dX1_eatBeasts_7 rfl ?_
      refine z_if_lt C (pc := 8) (tgt := 55) dX1_eatBeasts_8 (by decide) (fun c_1 => ?_) (fun c_1 => ?_)
      · refine z_vret C (pc := 55) i' dX1_eatBeasts_55 ?_ rfl
        have hm0 := (neg_pred m (by omega)).mp c_1
        subst hm0
        refine ⟨hsp, h9, ?_⟩
        rw [← heq]; exact hps
      · obtain ⟨k, rfl⟩ : ∃ k, m = k + 1 := ⟨m - 1, by have hm0 : m ≠ 0 := (fun h => c_1 ((neg_pred m (by omega)).mpr h)); omega⟩
        refine z_lv (lv' := [(0, .ref (a 3)), (1, .int (nI k))]) ⟨rfl, lki (nI_pred k), trivial⟩ ?_
        have hk : k < n := by omega
        have hv' := hv.sp hsp (SR.rf (r := r))
        refine z_aload_n C (pc := 11) dX1_eatBeasts_11 rfl ?_
        refine z_get C (pc := 12) 3 rfl rfl wf_X1 4 (by decide) rfl wl_X1_43 (v := .int (i' 6)) rfl dX1_eatBeasts_12 ?_
        refine z_aload_n C (pc := 15) dX1_eatBeasts_15 rfl ?_
        refine z_get C (pc := 16) 3 rfl rfl wf_X1 6 (by decide) rfl wl_X1_46 (v := .int (i' 8)) rfl dX1_eatBeasts_16 ?_
        refine z_icmp_ge C (pc := 19) (tgt := 55) dX1_eatBeasts_19 (by decide) (fun c_2 => ?_) (fun c_2 => ?_)
        · refine z_vret C (pc := 55) i' dX1_eatBeasts_55 ?_ rfl
          have hge : ¬ (x', f').2 < sumk ets kd (x', f').1 n := by
            rw [hps.2.2.2, hps.2.1] at c_2
            have := ge_of_nI c_2 (by have := et_le (kd := kd) (x := x') hn6; omega)
            exact Nat.not_lt.mpr this
          refine ⟨hsp, h9, ?_⟩
          rw [← heq, bea_x hge]; exact hps
        · have hlt : (x', f').2 < sumk ets kd (x', f').1 n := by
            rw [hps.2.2.2, hps.2.1] at c_2
            exact lt_of_nI c_2 (by have := hok.2; have := pl_le (kd := kd) (x := x') hn6; omega)
          refine z_aload_n C (pc := 22) dX1_eatBeasts_22 rfl ?_
          refine z_get C (pc := 23) 3 rfl rfl wf_X1 0 (by decide) rfl wl_X1_9 (v := .ref (a 4)) rfl dX1_eatBeasts_23 ?_
          refine z_iload_n C (pc := 26) dX1_eatBeasts_26 rfl ?_
          refine z_calli C (isC := [4]) rfl (by exact fun _ => rfl) (runSN C (wc := [(a 4, .inl (cI, 6, .inl (r 1)))]) (pc := 27) (rY' := rm 0 0) (nn := 2) (As := [.ref (a 4), .int (nI k)]) (rest := []) (c_at l D cI tt (a 4) 6 (r 1) (nI k) (by decide)) rfl rfl ⟨rfl, rfl, ⟨Nat.le_of_ble_eq_true rfl, Nat.le_of_ble_eq_true rfl⟩, Nat.le_of_ble_eq_true rfl, Nat.le_of_ble_eq_true rfl⟩ wl_X1_22 ws_X3_at wi_X3 wc_X3_at (by decide +kernel) rfl rfl (Nat.le_of_ble_eq_true rfl) dX1_eatBeasts_27) (fun r_3 u_3 h_3 => ?_)
          have h_3 : r_3 = (nI (kd k)) := h_3.trans (kind_at hv' hk)
          subst h_3
          refine z_ws (st' := [.int (nI (kd k))]) (ws' := (cW cI a i' r)) rfl rfl ?_
          refine z_istore_n C (pc := 30) (lv' := [(0, .ref (a 3)), (1, .int (nI k)), (2, .int (nI (kd k)))]) dX1_eatBeasts_30 (Nat.le_of_ble_eq_true rfl) rfl rfl ?_
          refine z_iload_n C (pc := 31) dX1_eatBeasts_31 rfl ?_
          refine z_iconst C (pc := 32) (v := 1) dX1_eatBeasts_32 (by decide) ?_
          refine z_icmp_eq C (pc := 33) (tgt := 44) dX1_eatBeasts_33 (by decide) (fun c_4 => ?_) (fun c_4 => ?_)
          · have hkd : isB (kd k) = true := (isB_iff _).mpr (Or.inl ((nI_eq1 (by have := (hv.2.2 k hk).2; omega)).mp c_4))
            refine z_aload_n C (pc := 44) dX1_eatBeasts_44 rfl ?_
            refine z_iload_n C (pc := 45) dX1_eatBeasts_45 rfl ?_
            refine z_callvF C (by exact fun _ => cW_ad) (runV C (wc := (cW cI a i' r)) (pc := 46) (rY' := rm 1 21) (nn := 1) (As := [.int (nI k)]) (rest := []) (c_devour l D cI tt a i' r kd n x' f' hv' hps hok k hk) (full_hC _) (full_nd _) ⟨rfl, rfl, ⟨Nat.le_of_ble_eq_true rfl, Nat.le_of_ble_eq_true rfl⟩, Nat.le_of_ble_eq_true rfl, Nat.le_of_ble_eq_true rfl⟩ wl_X1_78 wm_X1_devour we_X1_devour wi_X1 wc_X1_devour (by decide +kernel) rfl 3 rfl rfl rfl rfl (Nat.le_of_ble_eq_true rfl) dX1_eatBeasts_46) (fun u_5 h_5 => ?_)
            generalize u_5 = i5 at h_5 ⊢
            obtain ⟨g1, g2, g3⟩ := h_5
            refine z_ws (st' := []) (ws' := (cW cI a i5 r)) rfl rfl ?_
            refine z_iinc C (pc := 49) (v := ((nI k) + (-1))) (lv' := [(0, .ref (a 3)), (1, .int ((nI k) + (-1))), (2, .int (nI (kd k)))]) dX1_eatBeasts_49 rfl rfl (Nat.le_of_ble_eq_true rfl) rfl rfl ?_
            refine z_goto C (pc := 52) (tgt := 7) dX1_eatBeasts_52 (by decide) ?_
            refine z_lv (lv' := [(0, .ref (a 3)), (1, .int (nI k - 1))]) ⟨rfl, lki (add_m1 _), trivial⟩ ?_
            exact ih7 k ((dev kd n k (x', f')).1) ((dev kd n k (x', f')).2) i5 (by omega) (by omega) (hsp.tr g1) (g2.trans h9) g3 (dev_ok hn6 hk hok) ((bea_s hlt hkd).symm.trans heq)
          · have hk1 : ¬ kd k = 1 := fun h => c_4 ((nI_eq1 (by have := (hv.2.2 k hk).2; omega)).mpr h)
            refine z_iload_n C (pc := 36) dX1_eatBeasts_36 rfl ?_
            refine z_iconst C (pc := 37) (v := 2) dX1_eatBeasts_37 (by decide) ?_
            refine z_calli C (isC := []) rfl (by exact fun _ => rfl) (runSN C (wc := []) (pc := 38) (rY' := rm 0 0) (nn := 2) (As := [.int (nI (kd k)), .int 2]) (rest := []) (c_isOf l D cI tt (nI (kd k)) 2) rfl rfl ⟨rfl, rfl, ⟨Nat.le_of_ble_eq_true rfl, Nat.le_of_ble_eq_true rfl⟩, Nat.le_of_ble_eq_true rfl, Nat.le_of_ble_eq_true rfl⟩ wl_X1_81 ws_X3_isOf wi_X3 wc_X3_isOf (by decide +kernel) rfl rfl (Nat.le_of_ble_eq_true rfl) dX1_eatBeasts_38) (fun r_6 u_6 h_6 => ?_)
            subst h_6
            refine z_ws (st' := [.int (isOfv (nI (kd k)) 2)]) (ws' := (cW cI a i' r)) rfl rfl ?_
            refine z_if_eq C (pc := 41) (tgt := 49) dX1_eatBeasts_41 (by decide) (fun c_7 => ?_) (fun c_7 => ?_)
            · have hkd : ¬ isB (kd k) = true := fun h => ((isOf_2 _ (hv.2.2 k hk).2).mp c_7) (((isB_iff _).mp h).resolve_left hk1)
              refine z_iinc C (pc := 49) (v := ((nI k) + (-1))) (lv' := [(0, .ref (a 3)), (1, .int ((nI k) + (-1))), (2, .int (nI (kd k)))]) dX1_eatBeasts_49 rfl rfl (Nat.le_of_ble_eq_true rfl) rfl rfl ?_
              refine z_goto C (pc := 52) (tgt := 7) dX1_eatBeasts_52 (by decide) ?_
              refine z_lv (lv' := [(0, .ref (a 3)), (1, .int (nI k - 1))]) ⟨rfl, lki (add_m1 _), trivial⟩ ?_
              exact ih7 k x' f' i' (by omega) (by omega) hsp h9 hps hok ((bea_n hlt hkd).symm.trans heq)
            · have hkd : isB (kd k) = true := (isB_iff _).mpr (Or.inr (Classical.not_not.mp (fun h => c_7 ((isOf_2 _ (hv.2.2 k hk).2).mpr h))))
              refine z_aload_n C (pc := 44) dX1_eatBeasts_44 rfl ?_
              refine z_iload_n C (pc := 45) dX1_eatBeasts_45 rfl ?_
              refine z_callvF C (by exact fun _ => cW_ad) (runV C (wc := (cW cI a i' r)) (pc := 46) (rY' := rm 1 21) (nn := 1) (As := [.int (nI k)]) (rest := []) (c_devour l D cI tt a i' r kd n x' f' hv' hps hok k hk) (full_hC _) (full_nd _) ⟨rfl, rfl, ⟨Nat.le_of_ble_eq_true rfl, Nat.le_of_ble_eq_true rfl⟩, Nat.le_of_ble_eq_true rfl, Nat.le_of_ble_eq_true rfl⟩ wl_X1_78 wm_X1_devour we_X1_devour wi_X1 wc_X1_devour (by decide +kernel) rfl 3 rfl rfl rfl rfl (Nat.le_of_ble_eq_true rfl) dX1_eatBeasts_46) (fun u_8 h_8 => ?_)
              generalize u_8 = i8 at h_8 ⊢
              obtain ⟨g1, g2, g3⟩ := h_8
              refine z_ws (st' := []) (ws' := (cW cI a i8 r)) rfl rfl ?_
              refine z_iinc C (pc := 49) (v := ((nI k) + (-1))) (lv' := [(0, .ref (a 3)), (1, .int ((nI k) + (-1))), (2, .int (nI (kd k)))]) dX1_eatBeasts_49 rfl rfl (Nat.le_of_ble_eq_true rfl) rfl rfl ?_
              refine z_goto C (pc := 52) (tgt := 7) dX1_eatBeasts_52 (by decide) ?_
              refine z_lv (lv' := [(0, .ref (a 3)), (1, .int (nI k - 1))]) ⟨rfl, lki (add_m1 _), trivial⟩ ?_
              exact ih7 k ((dev kd n k (x', f')).1) ((dev kd n k (x', f')).2) i8 (by omega) (by omega) (hsp.tr g1) (g2.trans h9) g3 (dev_ok hn6 hk hok) ((bea_s hlt hkd).symm.trans heq)
  refine z_lv (lv' := [(0, .ref (a 3)), (1, .int (nI n - 1))]) ⟨rfl, lki (by rw [hv.1]), trivial⟩ ?_
  exact key7 (_ + 1) n x f i (Nat.lt_succ_self _) (Nat.le_refl _) SP.rf rfl hs ho rfl

set_option maxHeartbeats 4000000 in
set_option maxRecDepth 100000 in
theorem c_setOut (l : Launch) (D : va_G) (cI : ClassId) (tt : Nat × Nat × Nat) (a : Nat → Nat) (i : Nat → Int32) (r : Nat → Nat → Int32) (kd : Nat → Nat) (n x f : Nat) (hv : PV i r kd n) (hx : x < 2 ^ n) (hf : f ≤ 40) : MetV (S := (Nat → Int32)) l yX1_setOut cX1_setOut 3 none (rm 2 45) D cI tt [.ref (a 3), .int (nI x), .int (nI f)] (cW cI a i r) (fun i' => SP i i' ∧ i' 9 = 0 ∧ PS i' kd n x (min f (sumk pls kd x n))) (fun i' => cW cI a i' r) := by
  have hn6 := hv.2.1
  have hx6 := pow_le6 hn6
  refine met_ofV (by decide) (Nat.le_of_ble_eq_true rfl) ?_
  intro pP eE sS mM aV bB mE cC AA C hin
  refine z_conv (lv' := [(0, .ref (a 3)), (1, .int (nI x)), (2, .int (nI f))]) ⟨rfl, rfl, rfl, trivial⟩ rfl rfl ?_
  refine z_aload_n C (pc := 0) dX1_setOut_0 rfl ?_
  refine z_iload_n C (pc := 1) dX1_setOut_1 rfl ?_
  refine z_put C (pc := 2) 3 rfl rfl wf_X1 3 (by decide) rfl tyX1 tyX1_ok nmX1 rfl rfl rfl (Nat.le_of_ble_eq_true rfl) (ws' := (cW cI a (upd i 5 (nI x)) r)) rfl wl_X1_40 dX1_setOut_2 ?_
  refine z_aload_n C (pc := 5) dX1_setOut_5 rfl ?_
  refine z_aload_n C (pc := 6) dX1_setOut_6 rfl ?_
  refine z_iload_n C (pc := 7) dX1_setOut_7 rfl ?_
  refine z_getsN C (pc := 8) C.2.2.2.2.2.2.2.1.1.1 wl_X1_56 dX1_setOut_8 ?_
  refine z_calliF C (by exact fun _ => cW_ad) (runV C (wc := (cW cI a (upd i 5 (nI x)) r)) (pc := 11) (rY' := rm 1 21) (nn := 2) (As := [.int (nI x), .ref tt.1]) (rest := [.ref (a 3)]) (c_togetherP l D cI tt a (upd i 5 (nI x)) r kd n x (hv.sp (SP.rf.up (by omega)) SR.rf) (by omega)) (full_hC _) (full_nd _) ⟨rfl, rfl, ⟨Nat.le_of_ble_eq_true rfl, Nat.le_of_ble_eq_true rfl⟩, Nat.le_of_ble_eq_true rfl, Nat.le_of_ble_eq_true rfl⟩ wl_X1_59 wm_X1_together we_X1_together wi_X1 wc_X1_together (by decide +kernel) rfl 3 rfl rfl rfl rfl (Nat.le_of_ble_eq_true rfl) dX1_setOut_11) (fun q_1 u_1 h_1 => ?_)
  subst h_1
  refine z_ws (st' := [.int (nI (sumk pls kd x n)), .ref (a 3)]) (ws' := (cW cI a (upd i 5 (nI x)) r)) rfl rfl ?_
  refine z_put C (pc := 14) 3 rfl rfl wf_X1 5 (by decide) rfl tyX1 tyX1_ok nmX1 rfl rfl rfl (Nat.le_of_ble_eq_true rfl) (ws' := (cW cI a (upd (upd i 5 (nI x)) 7 (nI (sumk pls kd x n))) r)) rfl wl_X1_63 dX1_setOut_14 ?_
  refine z_aload_n C (pc := 17) dX1_setOut_17 rfl ?_
  refine z_aload_n C (pc := 18) dX1_setOut_18 rfl ?_
  refine z_iload_n C (pc := 19) dX1_setOut_19 rfl ?_
  refine z_getsN C (pc := 20) C.2.2.2.2.2.2.2.1.2.1.1 wl_X1_66 dX1_setOut_20 ?_
  refine z_calliF C (by exact fun _ => cW_ad) (runV C (wc := (cW cI a (upd (upd i 5 (nI x)) 7 (nI (sumk pls kd x n))) r)) (pc := 23) (rY' := rm 1 21) (nn := 2) (As := [.int (nI x), .ref tt.2.1]) (rest := [.ref (a 3)]) (c_togetherE l D cI tt a (upd (upd i 5 (nI x)) 7 (nI (sumk pls kd x n))) r kd n x (hv.sp ((SP.rf.up (by omega)).up (by omega)) SR.rf) (by omega)) (full_hC _) (full_nd _) ⟨rfl, rfl, ⟨Nat.le_of_ble_eq_true rfl, Nat.le_of_ble_eq_true rfl⟩, Nat.le_of_ble_eq_true rfl, Nat.le_of_ble_eq_true rfl⟩ wl_X1_59 wm_X1_together we_X1_together wi_X1 wc_X1_together (by decide +kernel) rfl 3 rfl rfl rfl rfl (Nat.le_of_ble_eq_true rfl) dX1_setOut_23) (fun q_2 u_2 h_2 => ?_)
  subst h_2
  refine z_ws (st' := [.int (nI (sumk ets kd x n)), .ref (a 3)]) (ws' := (cW cI a (upd (upd i 5 (nI x)) 7 (nI (sumk pls kd x n))) r)) rfl rfl ?_
  refine z_put C (pc := 26) 3 rfl rfl wf_X1 6 (by decide) rfl tyX1 tyX1_ok nmX1 rfl rfl rfl (Nat.le_of_ble_eq_true rfl) (ws' := (cW cI a (upd (upd (upd i 5 (nI x)) 7 (nI (sumk pls kd x n))) 8 (nI (sumk ets kd x n))) r)) rfl wl_X1_46 dX1_setOut_26 ?_
  refine z_aload_n C (pc := 29) dX1_setOut_29 rfl ?_
  refine z_iload_n C (pc := 30) dX1_setOut_30 rfl ?_
  refine z_aload_n C (pc := 31) dX1_setOut_31 rfl ?_
  refine z_get C (pc := 32) 3 rfl rfl wf_X1 5 (by decide) rfl wl_X1_63 (v := .int (nI (sumk pls kd x n))) rfl dX1_setOut_32 ?_
  refine z_mmin C (pc := 35) wl_X1_69 (Nat.le_of_ble_eq_true rfl) (Nat.le_of_ble_eq_true rfl) (Nat.zero_le _) (Nat.zero_le _) dX1_setOut_35 ?_
  refine z_put C (pc := 38) 3 rfl rfl wf_X1 4 (by decide) rfl tyX1 tyX1_ok nmX1 rfl rfl rfl (Nat.le_of_ble_eq_true rfl) (ws' := (cW cI a (upd (upd (upd (upd i 5 (nI x)) 7 (nI (sumk pls kd x n))) 8 (nI (sumk ets kd x n))) 6 (if (nI (sumk pls kd x n)) < (nI f) then (nI (sumk pls kd x n)) else (nI f))) r)) rfl wl_X1_43 dX1_setOut_38 ?_
  refine z_aload_n C (pc := 41) dX1_setOut_41 rfl ?_
  refine z_iconst C (pc := 42) (v := 0) dX1_setOut_42 (by decide) ?_
  refine z_put C (pc := 43) 3 rfl rfl wf_X1 7 (by decide) rfl tyX1 tyX1_ok nmX1 rfl rfl rfl (Nat.le_of_ble_eq_true rfl) (ws' := (cW cI a (upd (upd (upd (upd (upd i 5 (nI x)) 7 (nI (sumk pls kd x n))) 8 (nI (sumk ets kd x n))) 6 (if (nI (sumk pls kd x n)) < (nI f) then (nI (sumk pls kd x n)) else (nI f))) 9 0) r)) rfl wl_X1_75 dX1_setOut_43 ?_
  refine z_vret C (pc := 46) (upd (upd (upd (upd (upd i 5 (nI x)) 7 (nI (sumk pls kd x n))) 8 (nI (sumk ets kd x n))) 6 (if (nI (sumk pls kd x n)) < (nI f) then (nI (sumk pls kd x n)) else (nI f))) 9 0) dX1_setOut_46 ?_ rfl
  refine ⟨((((SP.rf.up (by omega)).up (by omega)).up (by omega)).up (by omega)).up (by omega), by simp [upd], by simp [upd], ?_, by simp [upd], by simp [upd]⟩
  rw [upd_n (by decide), upd_s]
  exact min_nI (by omega) (by have := pl_le (kd := kd) (x := x) hn6; omega)

set_option maxHeartbeats 4000000 in
set_option maxRecDepth 100000 in
theorem c_takeUpAt (l : Launch) (D : va_G) (cI : ClassId) (tt : Nat × Nat × Nat) (a : Nat → Nat) (i : Nat → Int32) (r : Nat → Nat → Int32) (kd : Nat → Nat) (n x f : Nat) (hv : PV i r kd n) (hs : PS i kd n x f) (ho : OK kd n x f) (c : Nat → Nat) (hc : ∀ k, k < 5 → r 2 k = nI (c k) ∧ c k ≤ 9) (q : Nat) (hq : q < 6) : MetV (S := ((Nat → Int32) × (Nat → Nat → Int32))) l yX1_takeUpAt cX1_takeUpAt 3 none (rm 1 22) D cI tt [.ref (a 3), .int (nI q)] (cW cI a i r) (fun u => SP i u.1 ∧ SR r u.2 ∧ u.1 9 = i 9 ∧ PS u.1 kd n x (takev kd n q (x, f) c).1 ∧ ∀ k, k < 5 → u.2 2 k = nI ((takev kd n q (x, f) c).2 k)) (fun u => cW cI a u.1 u.2) := by
  have hn6 := hv.2.1
  have hx6 := pow_le6 hn6
  have hx := ho.1
  refine met_ofV (by decide) (Nat.le_of_ble_eq_true rfl) ?_
  intro pP eE sS mM aV bB mE cC AA C hin
  refine z_conv (lv' := [(0, .ref (a 3)), (1, .int (nI q))]) ⟨rfl, rfl, trivial⟩ rfl rfl ?_
  refine z_aload_n C (pc := 0) dX1_takeUpAt_0 rfl ?_
  refine z_get C (pc := 1) 3 rfl rfl wf_X1 2 (by decide) rfl wl_X1_15 (v := .ref (a 5)) rfl dX1_takeUpAt_1 ?_
  refine z_iload_n C (pc := 4) dX1_takeUpAt_4 rfl ?_
  refine z_iconst C (pc := 5) (v := 1) dX1_takeUpAt_5 (by decide) ?_
  refine z_isub C (pc := 6) dX1_takeUpAt_6 ?_
  refine z_calli C (isC := [5]) rfl (by exact fun _ => rfl) (runSN C (wc := [(a 5, .inl (cI, 5, .inl (r 2)))]) (pc := 7) (rY' := rm 0 0) (nn := 2) (As := [.ref (a 5), .int ((nI q) - 1)]) (rest := []) (c_at l D cI tt (a 5) 5 (r 2) ((nI q) - 1) (by decide)) rfl rfl ⟨rfl, rfl, ⟨Nat.le_of_ble_eq_true rfl, Nat.le_of_ble_eq_true rfl⟩, Nat.le_of_ble_eq_true rfl, Nat.le_of_ble_eq_true rfl⟩ wl_X1_22 ws_X3_at wi_X3 wc_X3_at (by decide +kernel) rfl rfl (Nat.le_of_ble_eq_true rfl) dX1_takeUpAt_7) (fun r_1 u_1 h_1 => ?_)
  have h_1 : r_1 = (nI (cav c q)) := h_1.trans (at_c hq hc)
  subst h_1
  refine z_ws (st' := [.int (nI (cav c q))]) (ws' := (cW cI a i r)) rfl rfl ?_
  refine z_aload_n C (pc := 10) dX1_takeUpAt_10 rfl ?_
  refine z_get C (pc := 11) 3 rfl rfl wf_X1 5 (by decide) rfl wl_X1_63 (v := .int (i 7)) rfl dX1_takeUpAt_11 ?_
  refine z_aload_n C (pc := 14) dX1_takeUpAt_14 rfl ?_
  refine z_get C (pc := 15) 3 rfl rfl wf_X1 4 (by decide) rfl wl_X1_43 (v := .int (i 6)) rfl dX1_takeUpAt_15 ?_
  refine z_isub C (pc := 18) dX1_takeUpAt_18 ?_
  refine z_mmin C (pc := 19) wl_X1_69 (Nat.le_of_ble_eq_true rfl) (Nat.le_of_ble_eq_true rfl) (Nat.zero_le _) (Nat.zero_le _) dX1_takeUpAt_19 ?_
  refine z_topi (fun t_2 et_2 => ?_)
  refine z_istore_n C (pc := 22) (lv' := [(0, .ref (a 3)), (1, .int (nI q)), (2, .int t_2)]) dX1_takeUpAt_22 (Nat.le_of_ble_eq_true rfl) rfl rfl ?_
  have ht : t_2 = (nI (min (cav c q) (sumk pls kd x n - f))) := by rw [et_2, hs.2.2.1, hs.2.1, pk_sub ho.2, min_nI (by have := cav_le c q hc hq; omega) (by have := pl_le (kd := kd) (x := x) hn6; omega)]
  subst ht
  refine z_lv (lv' := [(0, .ref (a 3)), (1, .int (nI q)), (2, .int (nI (min (cav c q) (sumk pls kd x n - f))))]) ⟨rfl, rfl, rfl, trivial⟩ ?_
  refine z_aload_n C (pc := 23) dX1_takeUpAt_23 rfl ?_
  refine z_get C (pc := 24) 3 rfl rfl wf_X1 2 (by decide) rfl wl_X1_15 (v := .ref (a 5)) rfl dX1_takeUpAt_24 ?_
  refine z_iload_n C (pc := 27) dX1_takeUpAt_27 rfl ?_
  refine z_iconst C (pc := 28) (v := 1) dX1_takeUpAt_28 (by decide) ?_
  refine z_isub C (pc := 29) dX1_takeUpAt_29 ?_
  refine z_aload_n C (pc := 30) dX1_takeUpAt_30 rfl ?_
  refine z_get C (pc := 31) 3 rfl rfl wf_X1 2 (by decide) rfl wl_X1_15 (v := .ref (a 5)) rfl dX1_takeUpAt_31 ?_
  refine z_iload_n C (pc := 34) dX1_takeUpAt_34 rfl ?_
  refine z_iconst C (pc := 35) (v := 1) dX1_takeUpAt_35 (by decide) ?_
  refine z_isub C (pc := 36) dX1_takeUpAt_36 ?_
  refine z_calli C (isC := [5]) rfl (by exact fun _ => rfl) (runSN C (wc := [(a 5, .inl (cI, 5, .inl (r 2)))]) (pc := 37) (rY' := rm 0 0) (nn := 2) (As := [.ref (a 5), .int ((nI q) - 1)]) (rest := [.int ((nI q) - 1), .ref (a 5)]) (c_at l D cI tt (a 5) 5 (r 2) ((nI q) - 1) (by decide)) rfl rfl ⟨rfl, rfl, ⟨Nat.le_of_ble_eq_true rfl, Nat.le_of_ble_eq_true rfl⟩, Nat.le_of_ble_eq_true rfl, Nat.le_of_ble_eq_true rfl⟩ wl_X1_22 ws_X3_at wi_X3 wc_X3_at (by decide +kernel) rfl rfl (Nat.le_of_ble_eq_true rfl) dX1_takeUpAt_37) (fun r_3 u_3 h_3 => ?_)
  have h_3 : r_3 = (nI (cav c q)) := h_3.trans (at_c hq hc)
  subst h_3
  refine z_ws (st' := [.int (nI (cav c q)), .int ((nI q) - 1), .ref (a 5)]) (ws' := (cW cI a i r)) rfl rfl ?_
  refine z_iload_n C (pc := 40) dX1_takeUpAt_40 rfl ?_
  refine z_isub C (pc := 41) dX1_takeUpAt_41 ?_
  refine z_callv C (isC := [5]) rfl (by exact fun _ => rfl) (runSN C (wc := [(a 5, .inl (cI, 5, .inl (r 2)))]) (pc := 42) (rY' := rm 0 0) (nn := 3) (As := [.ref (a 5), .int ((nI q) - 1), .int ((nI (cav c q)) - (nI (min (cav c q) (sumk pls kd x n - f))))]) (rest := []) (c_put l D cI tt (a 5) 5 (r 2) ((nI q) - 1) ((nI (cav c q)) - (nI (min (cav c q) (sumk pls kd x n - f)))) (by decide)) rfl rfl ⟨rfl, rfl, ⟨Nat.le_of_ble_eq_true rfl, Nat.le_of_ble_eq_true rfl⟩, Nat.le_of_ble_eq_true rfl, Nat.le_of_ble_eq_true rfl⟩ wl_X1_88 ws_X3_put wi_X3 wc_X3_put (by decide +kernel) rfl rfl (Nat.le_of_ble_eq_true rfl) dX1_takeUpAt_42) (fun u_4 h_4 => ?_)
  subst h_4
  refine z_ws (st' := []) (ws' := (cW cI a i (va_up r 2 (putv 5 (r 2) ((nI q) - 1) ((nI (cav c q)) - (nI (min (cav c q) (sumk pls kd x n - f)))))))) rfl rfl ?_
  refine z_aload_n C (pc := 45) dX1_takeUpAt_45 rfl ?_
  refine z_dup C (pc := 46) dX1_takeUpAt_46 rfl ?_
  refine z_get C (pc := 47) 3 rfl rfl wf_X1 4 (by decide) rfl wl_X1_43 (v := .int (i 6)) rfl dX1_takeUpAt_47 ?_
  refine z_iload_n C (pc := 50) dX1_takeUpAt_50 rfl ?_
  refine z_iadd C (pc := 51) dX1_takeUpAt_51 ?_
  refine z_put C (pc := 52) 3 rfl rfl wf_X1 4 (by decide) rfl tyX1 tyX1_ok nmX1 rfl rfl rfl (Nat.le_of_ble_eq_true rfl) (ws' := (cW cI a (upd i 6 ((i 6) + (nI (min (cav c q) (sumk pls kd x n - f))))) (va_up r 2 (putv 5 (r 2) ((nI q) - 1) ((nI (cav c q)) - (nI (min (cav c q) (sumk pls kd x n - f)))))))) rfl wl_X1_43 dX1_takeUpAt_52 ?_
  refine z_vret C (pc := 55) ((upd i 6 ((i 6) + (nI (min (cav c q) (sumk pls kd x n - f))))), (va_up r 2 (putv 5 (r 2) ((nI q) - 1) ((nI (cav c q)) - (nI (min (cav c q) (sumk pls kd x n - f))))))) dX1_takeUpAt_55 ?_ rfl
  have hcv := cav_le c q hc hq
  have hpl := pl_le (kd := kd) (x := x) hn6
  have hof := ho.2
  refine ⟨SP.rf.up (by omega), SR.rf.up, by simp [upd], ⟨by simp [upd]; exact hs.1, ?_, by simp [upd]; exact hs.2.2.1, by simp [upd]; exact hs.2.2.2⟩, fun k hk => ?_⟩
  · dsimp only
    rw [upd_s, hs.2.1, nI_add]
    unfold takev cav
    by_cases e : q = 0
    · rw [if_pos e, if_pos e]; simp
    · rw [if_neg e, if_neg e]
  · dsimp only
    rw [vup_s, put_c hq]
    unfold takev cav
    by_cases e : q = 0
    · rw [if_pos e, if_pos e]; exact (hc k hk).1
    · rw [if_neg e, if_neg e, if_neg e]
      show upd (r 2) (q - 1) _ k = nI (upN c (q - 1) _ k)
      unfold upd upN
      by_cases e2 : k = q - 1
      · rw [if_pos e2, if_pos e2, pk_sub (Nat.min_le_left _ _)]
      · rw [if_neg e2, if_neg e2]; exact (hc k hk).1
end
section
theorem two_mul_nI (st : Nat) : 2 * nI st = nI (2 * st) := pk_mul 2 st
def GO (i : Nat → Int32) (r : Nat → Nat → Int32) (i' : Nat → Int32) (r' : Nat → Nat → Int32) (z : MS) : Prop := SP i i' ∧ SR r r' ∧ i' 5 = nI z.1 ∧ i' 6 = nI z.2.1 ∧ i' 9 = nI z.2.2.2 ∧ ∀ k, k < 5 → r' 2 k = nI (z.2.2.1 k)
theorem mar_end {kd : Nat → Nat} {n st x f : Nat} {c : Nat → Nat} {j : Nat} (hj : j ≤ 2 * st) (h : (runv kd n st j (x, min f (sumk pls kd x n), c, 0)).2.2.2 ≠ 0) : marv kd n x st f c = runv kd n st j (x, min f (sumk pls kd x n), c, 0) := by
  have := runv_dead h (2 * st - j)
  rw [show j + (2 * st - j) = 2 * st by omega] at this
  exact this
theorem run_s {kd : Nat → Nat} {n st j : Nat} {z : MS} (h : (runv kd n st j z).2.2.2 = 0) : runv kd n st (j + 1) z = legv kd n st (j + 1) (runv kd n st j z) := by
  show (if _ then _ else _) = _
  rw [if_pos h]
theorem leg_die {kd : Nat → Nat} {n st j : Nat} {z : MS} {s : Nat × Nat} (hs : outv kd n st j (z.1, z.2.1) = s) (h : s.1 = 0 ∨ s.2 < sumk ets kd s.1 n) : legv kd n st j z = (0, 0, z.2.2.1, j) := by
  unfold legv; rw [hs]; dsimp only; rw [if_pos h]
theorem leg_out {kd : Nat → Nat} {n st j : Nat} {z : MS} {s : Nat × Nat} (hs : outv kd n st j (z.1, z.2.1) = s) (h : ¬ (s.1 = 0 ∨ s.2 < sumk ets kd s.1 n)) (h2 : j ≤ st) : legv kd n st j z = (s.1, s.2 - sumk ets kd s.1 n, z.2.2.1, 0) := by
  unfold legv; rw [hs]; dsimp only; rw [if_neg h, if_pos h2]
theorem leg_home {kd : Nat → Nat} {n st j : Nat} {z : MS} {s : Nat × Nat} (hs : outv kd n st j (z.1, z.2.1) = s) (h : ¬ (s.1 = 0 ∨ s.2 < sumk ets kd s.1 n)) (h2 : ¬ j ≤ st) : legv kd n st j z = (s.1, (takev kd n (2 * st - j) (s.1, s.2 - sumk ets kd s.1 n) z.2.2.1).1, (takev kd n (2 * st - j) (s.1, s.2 - sumk ets kd s.1 n) z.2.2.1).2, 0) := by
  unfold legv; rw [hs]; dsimp only; rw [if_neg h, if_neg h2]
theorem out_p {kd : Nat → Nat} {n st j : Nat} {s : Nat × Nat} (h1 : j ≤ st) (h2 : 3 ≤ j - 1) : outv kd n st j s = bea kd n n (pon kd n n s) := by unfold outv; rw [if_pos ⟨h1, h2⟩]
theorem out_n {kd : Nat → Nat} {n st j : Nat} {s : Nat × Nat} (h : ¬ (j ≤ st ∧ 3 ≤ j - 1)) : outv kd n st j s = bea kd n n s := by unfold outv; rw [if_neg h]
theorem mok0 {kd : Nat → Nat} {n x f : Nat} {c : Nat → Nat} (hx : x < 2 ^ n) (hc : ∀ k, k < 5 → c k ≤ 9) : MOK kd n (x, min f (sumk pls kd x n), c, 0) := ⟨⟨hx, Nat.min_le_right _ _⟩, hc, Or.inl rfl⟩
set_option maxHeartbeats 4000000 in
set_option maxRecDepth 100000 in
theorem c_go (l : Launch) (D : va_G) (cI : ClassId) (tt : Nat × Nat × Nat) (a : Nat → Nat) (i : Nat → Int32) (r : Nat → Nat → Int32) (kd : Nat → Nat) (n x st f : Nat) (hv : PV i r kd n) (hx : x < 2 ^ n) (hst : st ≤ 6) (hf : f ≤ 40) (c : Nat → Nat) (hc : ∀ k, k < 5 → r 2 k = nI (c k) ∧ c k ≤ 9) : MetI (S := ((Nat → Int32) × (Nat → Nat → Int32))) l yX1_go cX1_go 6 (some .boolean) (rm 3 67) D cI tt [.ref (a 3), .int (nI x), .int (nI st), .int (nI f)] (cW cI a i r) (fun q u => q = (if (marv kd n x st f c).2.2.2 = 0 then 1 else 0) ∧ GO i r u.1 u.2 (marv kd n x st f c)) (fun u => cW cI a u.1 u.2) := by
  have hn6 := hv.2.1
  have hx6 := pow_le6 hn6
  have hcc : ∀ k, k < 5 → c k ≤ 9 := fun k hk => (hc k hk).2
  refine met_ofI (by decide) (Nat.le_of_ble_eq_true rfl) ?_
  intro pP eE sS mM aV bB mE cC AA C hin
  refine z_conv (lv' := [(0, .ref (a 3)), (1, .int (nI x)), (2, .int (nI st)), (3, .int (nI f))]) ⟨rfl, rfl, rfl, rfl, trivial⟩ rfl rfl ?_
  refine z_aload_n C (pc := 0) dX1_go_0 rfl ?_
  refine z_iload_n C (pc := 1) dX1_go_1 rfl ?_
  refine z_iload_n C (pc := 2) dX1_go_2 rfl ?_
  refine z_callvF C (by exact fun _ => cW_ad) (runV C (wc := (cW cI a i r)) (pc := 3) (rY' := rm 2 45) (nn := 2) (As := [.int (nI x), .int (nI f)]) (rest := []) (c_setOut l D cI tt a i r kd n x f hv hx hf) (full_hC _) (full_nd _) ⟨rfl, rfl, ⟨Nat.le_of_ble_eq_true rfl, Nat.le_of_ble_eq_true rfl⟩, Nat.le_of_ble_eq_true rfl, Nat.le_of_ble_eq_true rfl⟩ wl_X1_30 wm_X1_setOut we_X1_setOut wi_X1 wc_X1_setOut (by decide +kernel) rfl 3 rfl rfl rfl rfl (Nat.le_of_ble_eq_true rfl) dX1_go_3) (fun u_1 h_1 => ?_)
  generalize u_1 = i1 at h_1 ⊢
  obtain ⟨q1, q2, q3⟩ := h_1
  refine z_ws (st' := []) (ws' := (cW cI a i1 r)) rfl rfl ?_
  refine z_iconst C (pc := 6) (v := 1) dX1_go_6 (by decide) ?_
  refine z_istore C (pc := 7) (lv' := [(0, .ref (a 3)), (1, .int (nI x)), (2, .int (nI st)), (3, .int (nI f)), (4, .int 1)]) dX1_go_7 (Nat.le_of_ble_eq_true rfl) rfl rfl ?_
  have key9 : ∀ (fu9 : Nat) (j : Nat) (i' : Nat → Int32) (r' : Nat → Nat → Int32), 2 * st - j < fu9 → (j ≤ 2 * st) → ((runv kd n st j (x, min f (sumk pls kd x n), c, 0)).2.2.2 = 0) → (SP i i') → (SR r r') → (i' 9 = 0) → (PS i' kd n (runv kd n st j (x, min f (sumk pls kd x n), c, 0)).1 (runv kd n st j (x, min f (sumk pls kd x n), c, 0)).2.1) → (∀ k, k < 5 → r' 2 k = nI ((runv kd n st j (x, min f (sumk pls kd x n), c, 0)).2.2.1 k)) → Z pP l eE (rm 3 67) sS mM aV bB mE cC D AA 6 0 0 (MQ bB (va_Qi (S := ((Nat → Int32) × (Nat → Nat → Int32))) (fun q u => q = (if (marv kd n x st f c).2.2.2 = 0 then 1 else 0) ∧ GO i r u.1 u.2 (marv kd n x st f c)) (fun u t => va_P D vwCl ((fun u => cW cI a u.1 u.2) u) t.heap) AA) aV sS 0 0 AA) 9 [(0, .ref (a 3)), (1, .int (nI x)), (2, .int (nI st)), (3, .int (nI f)), (4, .int (nI (j + 1)))] [] (cW cI a i' r') := by
    intro fu9
    induction fu9 with
    | zero => intro j i' r' hfu9; exact absurd hfu9 (Nat.not_lt_zero _)
    | succ fu9 ih9 =>
      intro j i' r' hfu9 hj hd hsp hsr h9 hps hc2
      refine z_iload C (pc := 9) dX1_go_9 rfl ?_
      refine z_iconst C (pc := 11) (v := 2) dX1_go_11 (by decide) ?_
      refine z_iload_n C (pc := 12) dX1_go_12 rfl ?_
      refine z_imul C (pc := 13) dX1_go_13 ?_
      refine z_icmp_gt C (pc := 14) (tgt := 111) dX1_go_14 (by decide) (fun c_2 => ?_) (fun c_2 => ?_)
      · have hje : j = 2 * st := by
          rw [two_mul_nI] at c_2
          have := Nat.lt_of_not_le (fun h => nI_nlt (a := 2 * st) (b := j + 1) h (by omega) c_2)
          omega
        refine z_iconst C (pc := 111) (v := 1) dX1_go_111 (by decide) ?_
        refine z_zret C (pc := 112) (i', r') dX1_go_112 rfl ?_ rfl
        subst hje
        have hme : marv kd n x st f c = (runv kd n st (2 * st) (x, min f (sumk pls kd x n), c, 0)) := rfl
        rw [hme]
        exact ⟨by rw [if_pos hd], hsp, hsr, hps.1, hps.2.1, by rw [hd]; exact h9, hc2⟩
      · have hjl : j + 1 ≤ 2 * st := by
          rw [two_mul_nI] at c_2
          exact Nat.le_of_not_lt (fun h => c_2 (nI_lt h (by omega)))
        have hv' := hv.sp hsp hsr
        have hmk := runv_ok (kd := kd) (st := st) hn6 j (x, min f (sumk pls kd x n), c, 0) (mok0 (kd := kd) (f := f) hx hcc)
        generalize hzz : (runv kd n st j (x, min f (sumk pls kd x n), c, 0)) = z at hd hps hc2 hmk
        have hok := hmk.1
        refine z_iload C (pc := 17) dX1_go_17 rfl ?_
        refine z_iload_n C (pc := 19) dX1_go_19 rfl ?_
        refine z_icmp_gt C (pc := 20) (tgt := 27) dX1_go_20 (by decide) (fun c_3 => ?_) (fun c_3 => ?_)
        · have hout : ¬ j + 1 ≤ st := fun h => nI_nlt h (by omega) c_3
          refine z_iconst C (pc := 27) (v := 0) dX1_go_27 (by decide) ?_
          refine z_istore C (pc := 28) (lv' := [(0, .ref (a 3)), (1, .int (nI x)), (2, .int (nI st)), (3, .int (nI f)), (4, .int (nI (j + 1))), (5, .int 0)]) dX1_go_28 (Nat.le_of_ble_eq_true rfl) rfl rfl ?_
          refine z_iload C (pc := 30) dX1_go_30 rfl ?_
          refine z_if_eq C (pc := 32) (tgt := 47) dX1_go_32 (by decide) (fun c_4 => ?_) (fun c_4 => ?_)
          · refine z_aload_n C (pc := 47) dX1_go_47 rfl ?_
            refine z_callvF C (by exact fun _ => cW_ad) (runV C (wc := (cW cI a i' r')) (pc := 48) (rY' := rm 2 43) (nn := 0) (As := []) (rest := []) (c_eatBeasts l D cI tt a i' r' kd n z.1 z.2.1 hv' hps hok) (full_hC _) (full_nd _) ⟨rfl, rfl, ⟨Nat.le_of_ble_eq_true rfl, Nat.le_of_ble_eq_true rfl⟩, Nat.le_of_ble_eq_true rfl, Nat.le_of_ble_eq_true rfl⟩ wl_X1_37 wm_X1_eatBeasts we_X1_eatBeasts wi_X1 wc_X1_eatBeasts (by decide +kernel) rfl 3 rfl rfl rfl rfl (Nat.le_of_ble_eq_true rfl) dX1_go_48) (fun u_5 h_5 => ?_)
            generalize u_5 = i5 at h_5 ⊢
            obtain ⟨b1, b2, b3⟩ := h_5
            have hsp2 := hsp.tr b1
            have h92 : i5 9 = 0 := b2.trans h9
            have hov : outv kd n st (j + 1) (z.1, z.2.1) = bea kd n n (z.1, z.2.1) := out_n (fun h => hout h.1)
            have oko := outv_ok (st := st) (j := j + 1) (s := (z.1, z.2.1)) hn6 hok
            rw [hov] at oko
            generalize bea kd n n (z.1, z.2.1) = s2 at hov b3 oko
            refine z_ws (st' := []) (ws' := (cW cI a i5 r')) rfl rfl ?_
            refine z_aload_n C (pc := 51) dX1_go_51 rfl ?_
            refine z_get C (pc := 52) 3 rfl rfl wf_X1 3 (by decide) rfl wl_X1_40 (v := .int (i5 5)) rfl dX1_go_52 ?_
            refine z_if_eq C (pc := 55) (tgt := 69) dX1_go_55 (by decide) (fun c_6 => ?_) (fun c_6 => ?_)
            · have hdie : s2.1 = 0 ∨ s2.2 < sumk ets kd s2.1 n := Or.inl (by
                rw [b3.1] at c_6
                exact (nI_eq (b := 0) (by have := oko.1; omega) (by omega)).mp c_6)
              refine z_aload_n C (pc := 69) dX1_go_69 rfl ?_
              refine z_iload C (pc := 70) dX1_go_70 rfl ?_
              refine z_callvF C (by exact fun _ => cW_ad) (runV C (wc := (cW cI a i5 r')) (pc := 72) (rY' := rm 0 0) (nn := 1) (As := [.int (nI (j + 1))]) (rest := []) (c_dieOn l D cI tt a i5 r' (nI (j + 1))) (full_hC _) (full_nd _) ⟨rfl, rfl, ⟨Nat.le_of_ble_eq_true rfl, Nat.le_of_ble_eq_true rfl⟩, Nat.le_of_ble_eq_true rfl, Nat.le_of_ble_eq_true rfl⟩ wl_X1_49 wm_X1_dieOn we_X1_dieOn wi_X1 wc_X1_dieOn (by decide +kernel) rfl 3 rfl rfl rfl rfl (Nat.le_of_ble_eq_true rfl) dX1_go_72) (fun u_7 h_7 => ?_)
              generalize u_7 = i7 at h_7 ⊢
              obtain ⟨e1, e5, e6, e9⟩ := h_7
              refine z_ws (st' := []) (ws' := (cW cI a i7 r')) rfl rfl ?_
              refine z_iconst C (pc := 75) (v := 0) dX1_go_75 (by decide) ?_
              refine z_zret C (pc := 76) (i7, r') dX1_go_76 rfl ?_ rfl
              have hrs : runv kd n st (j + 1) (x, min f (sumk pls kd x n), c, 0) = (0, 0, z.2.2.1, j + 1) := by rw [run_s (by rw [hzz]; exact hd), hzz]; exact leg_die hov hdie
              have hme : marv kd n x st f c = (0, 0, z.2.2.1, j + 1) := by rw [mar_end hjl (by rw [hrs]; simp), hrs]
              rw [hme]
              exact ⟨by simp, hsp2.tr e1, hsr, e5, e6, e9, hc2⟩
            · have hal : s2.1 ≠ 0 := fun h => c_6 (by rw [b3.1, h]; rfl)
              refine z_aload_n C (pc := 58) dX1_go_58 rfl ?_
              refine z_get C (pc := 59) 3 rfl rfl wf_X1 4 (by decide) rfl wl_X1_43 (v := .int (i5 6)) rfl dX1_go_59 ?_
              refine z_aload_n C (pc := 62) dX1_go_62 rfl ?_
              refine z_get C (pc := 63) 3 rfl rfl wf_X1 6 (by decide) rfl wl_X1_46 (v := .int (i5 8)) rfl dX1_go_63 ?_
              refine z_icmp_ge C (pc := 66) (tgt := 77) dX1_go_66 (by decide) (fun c_8 => ?_) (fun c_8 => ?_)
              · have hnd : ¬ (s2.1 = 0 ∨ s2.2 < sumk ets kd s2.1 n) := by
                  rw [b3.2.2.2, b3.2.1] at c_8
                  have := ge_of_nI c_8 (by have := et_le (kd := kd) (x := s2.1) hn6; omega)
                  omega
                have hsub : i' 0 = i' 0 := rfl
                refine z_aload_n C (pc := 77) dX1_go_77 rfl ?_
                refine z_dup C (pc := 78) dX1_go_78 rfl ?_
                refine z_get C (pc := 79) 3 rfl rfl wf_X1 4 (by decide) rfl wl_X1_43 (v := .int (i5 6)) rfl dX1_go_79 ?_
                refine z_aload_n C (pc := 82) dX1_go_82 rfl ?_
                refine z_get C (pc := 83) 3 rfl rfl wf_X1 6 (by decide) rfl wl_X1_46 (v := .int (i5 8)) rfl dX1_go_83 ?_
                refine z_isub C (pc := 86) dX1_go_86 ?_
                refine z_put C (pc := 87) 3 rfl rfl wf_X1 4 (by decide) rfl tyX1 tyX1_ok nmX1 rfl rfl rfl (Nat.le_of_ble_eq_true rfl) (ws' := (cW cI a (upd i5 6 ((i5 6) - (i5 8))) r')) rfl wl_X1_43 dX1_go_87 ?_
                refine z_iload C (pc := 90) dX1_go_90 rfl ?_
                refine z_if_ne C (pc := 92) (tgt := 105) dX1_go_92 (by decide) (fun c_9 => ?_) (fun c_9 => ?_)
                · exact absurd c_9 (by decide)
                · refine z_aload_n C (pc := 95) dX1_go_95 rfl ?_
                  refine z_iconst C (pc := 96) (v := 2) dX1_go_96 (by decide) ?_
                  refine z_iload_n C (pc := 97) dX1_go_97 rfl ?_
                  refine z_imul C (pc := 98) dX1_go_98 ?_
                  refine z_iload C (pc := 99) dX1_go_99 rfl ?_
                  refine z_isub C (pc := 101) dX1_go_101 ?_
                  refine z_seti (y := nI (2 * st - (j + 1))) (by rw [two_mul_nI, pk_sub hjl]) ?_
                  have hps2 : PS (upd i5 6 (i5 6 - i5 8)) kd n s2.1 (s2.2 - sumk ets kd s2.1 n) := ⟨by rw [upd_n (by decide)]; exact b3.1, by rw [upd_s, b3.2.1, b3.2.2.2, pk_sub (by omega)], by rw [upd_n (by decide)]; exact b3.2.2.1, by rw [upd_n (by decide)]; exact b3.2.2.2⟩
                  have hok2 : OK kd n s2.1 (s2.2 - sumk ets kd s2.1 n) := ⟨oko.1, Nat.le_trans (Nat.sub_le _ _) oko.2⟩
                  have hv3 := hv.sp (hsp2.up (k := 6) (v := i5 6 - i5 8) (by omega)) hsr
                  refine z_callvF C (by exact fun _ => cW_ad) (runV C (wc := (cW cI a (upd i5 6 ((i5 6) - (i5 8))) r')) (pc := 102) (rY' := rm 1 22) (nn := 1) (As := [.int (nI (2 * st - (j + 1)))]) (rest := []) (c_takeUpAt l D cI tt a (upd i5 6 ((i5 6) - (i5 8))) r' kd n s2.1 (s2.2 - sumk ets kd s2.1 n) hv3 hps2 hok2 z.2.2.1 (fun k hk => ⟨hc2 k hk, hmk.2.1 k hk⟩) (2 * st - (j + 1)) (by omega)) (full_hC _) (full_nd _) ⟨rfl, rfl, ⟨Nat.le_of_ble_eq_true rfl, Nat.le_of_ble_eq_true rfl⟩, Nat.le_of_ble_eq_true rfl, Nat.le_of_ble_eq_true rfl⟩ wl_X1_53 wm_X1_takeUpAt we_X1_takeUpAt wi_X1 wc_X1_takeUpAt (by decide +kernel) rfl 3 rfl rfl rfl rfl (Nat.le_of_ble_eq_true rfl) dX1_go_102) (fun u_10 h_10 => ?_)
                  obtain ⟨i10, r10⟩ := u_10
                  try dsimp only at h_10
                  obtain ⟨t1, t2, t3, t4, t5⟩ := h_10
                  have hrs : runv kd n st (j + 1) (x, min f (sumk pls kd x n), c, 0) = (s2.1, (takev kd n (2 * st - (j + 1)) (s2.1, s2.2 - sumk ets kd s2.1 n) z.2.2.1).1, (takev kd n (2 * st - (j + 1)) (s2.1, s2.2 - sumk ets kd s2.1 n) z.2.2.1).2, 0) := by rw [run_s (by rw [hzz]; exact hd), hzz]; exact leg_home hov hnd hout
                  refine z_ws (st' := []) (ws' := (cW cI a i10 r10)) rfl rfl ?_
                  refine z_iinc C (pc := 105) (v := ((nI (j + 1)) + 1)) (lv' := [(0, .ref (a 3)), (1, .int (nI x)), (2, .int (nI st)), (3, .int (nI f)), (4, .int ((nI (j + 1)) + 1)), (5, .int 0)]) dX1_go_105 rfl rfl (Nat.le_of_ble_eq_true rfl) rfl rfl ?_
                  refine z_goto C (pc := 108) (tgt := 9) dX1_go_108 (by decide) ?_
                  refine z_lv (lv' := [(0, .ref (a 3)), (1, .int (nI x)), (2, .int (nI st)), (3, .int (nI f)), (4, .int (nI ((j + 1) + 1)))]) ⟨rfl, rfl, rfl, rfl, lki (nI_1 _), trivial⟩ ?_
                  exact ih9 (j + 1) i10 r10 (by omega) hjl (by rw [hrs]) (hsp2.tr ((SP.rf.up (by omega)).tr t1)) (hsr.tr t2) (t3.trans (by rw [upd_n (by decide)]; exact h92)) (by rw [hrs]; exact t4) (by rw [hrs]; exact t5)
              · have hdie : s2.1 = 0 ∨ s2.2 < sumk ets kd s2.1 n := Or.inr (by
                  rw [b3.2.2.2, b3.2.1] at c_8
                  exact lt_of_nI c_8 (by have := oko.2; have := pl_le (kd := kd) (x := s2.1) hn6; omega))
                refine z_aload_n C (pc := 69) dX1_go_69 rfl ?_
                refine z_iload C (pc := 70) dX1_go_70 rfl ?_
                refine z_callvF C (by exact fun _ => cW_ad) (runV C (wc := (cW cI a i5 r')) (pc := 72) (rY' := rm 0 0) (nn := 1) (As := [.int (nI (j + 1))]) (rest := []) (c_dieOn l D cI tt a i5 r' (nI (j + 1))) (full_hC _) (full_nd _) ⟨rfl, rfl, ⟨Nat.le_of_ble_eq_true rfl, Nat.le_of_ble_eq_true rfl⟩, Nat.le_of_ble_eq_true rfl, Nat.le_of_ble_eq_true rfl⟩ wl_X1_49 wm_X1_dieOn we_X1_dieOn wi_X1 wc_X1_dieOn (by decide +kernel) rfl 3 rfl rfl rfl rfl (Nat.le_of_ble_eq_true rfl) dX1_go_72) (fun u_11 h_11 => ?_)
                generalize u_11 = i11 at h_11 ⊢
                obtain ⟨e1, e5, e6, e9⟩ := h_11
                refine z_ws (st' := []) (ws' := (cW cI a i11 r')) rfl rfl ?_
                refine z_iconst C (pc := 75) (v := 0) dX1_go_75 (by decide) ?_
                refine z_zret C (pc := 76) (i11, r') dX1_go_76 rfl ?_ rfl
                have hrs : runv kd n st (j + 1) (x, min f (sumk pls kd x n), c, 0) = (0, 0, z.2.2.1, j + 1) := by rw [run_s (by rw [hzz]; exact hd), hzz]; exact leg_die hov hdie
                have hme : marv kd n x st f c = (0, 0, z.2.2.1, j + 1) := by rw [mar_end hjl (by rw [hrs]; simp), hrs]
                rw [hme]
                exact ⟨by simp, hsp2.tr e1, hsr, e5, e6, e9, hc2⟩
          · exact absurd c_4 (by decide)
        · have hout : j + 1 ≤ st := Nat.le_of_not_lt (fun h => c_3 (nI_lt h (by omega)))
          refine z_iconst C (pc := 23) (v := 1) dX1_go_23 (by decide) ?_
          refine z_goto C (pc := 24) (tgt := 28) dX1_go_24 (by decide) ?_
          refine z_istore C (pc := 28) (lv' := [(0, .ref (a 3)), (1, .int (nI x)), (2, .int (nI st)), (3, .int (nI f)), (4, .int (nI (j + 1))), (5, .int 1)]) dX1_go_28 (Nat.le_of_ble_eq_true rfl) rfl rfl ?_
          refine z_iload C (pc := 30) dX1_go_30 rfl ?_
          refine z_if_eq C (pc := 32) (tgt := 47) dX1_go_32 (by decide) (fun c_12 => ?_) (fun c_12 => ?_)
          · exact absurd c_12 (by decide)
          · refine z_iload C (pc := 35) dX1_go_35 rfl ?_
            refine z_iconst C (pc := 37) (v := 1) dX1_go_37 (by decide) ?_
            refine z_isub C (pc := 38) dX1_go_38 ?_
            refine z_iconst C (pc := 39) (v := 3) dX1_go_39 (by decide) ?_
            refine z_icmp_lt C (pc := 40) (tgt := 47) dX1_go_40 (by decide) (fun c_13 => ?_) (fun c_13 => ?_)
            · have hsk : ¬ 3 ≤ j + 1 - 1 := by
                rw [nI_pred] at c_13
                exact fun h => nI_nlt (a := j) (b := 3) (by omega) (by omega) c_13
              refine z_aload_n C (pc := 47) dX1_go_47 rfl ?_
              refine z_callvF C (by exact fun _ => cW_ad) (runV C (wc := (cW cI a i' r')) (pc := 48) (rY' := rm 2 43) (nn := 0) (As := []) (rest := []) (c_eatBeasts l D cI tt a i' r' kd n z.1 z.2.1 hv' hps hok) (full_hC _) (full_nd _) ⟨rfl, rfl, ⟨Nat.le_of_ble_eq_true rfl, Nat.le_of_ble_eq_true rfl⟩, Nat.le_of_ble_eq_true rfl, Nat.le_of_ble_eq_true rfl⟩ wl_X1_37 wm_X1_eatBeasts we_X1_eatBeasts wi_X1 wc_X1_eatBeasts (by decide +kernel) rfl 3 rfl rfl rfl rfl (Nat.le_of_ble_eq_true rfl) dX1_go_48) (fun u_14 h_14 => ?_)
              generalize u_14 = i14 at h_14 ⊢
              obtain ⟨b1, b2, b3⟩ := h_14
              have hsp2 := hsp.tr b1
              have h92 : i14 9 = 0 := b2.trans h9
              have hov : outv kd n st (j + 1) (z.1, z.2.1) = bea kd n n (z.1, z.2.1) := out_n (fun h => hsk h.2)
              have oko := outv_ok (st := st) (j := j + 1) (s := (z.1, z.2.1)) hn6 hok
              rw [hov] at oko
              generalize bea kd n n (z.1, z.2.1) = s2 at hov b3 oko
              refine z_ws (st' := []) (ws' := (cW cI a i14 r')) rfl rfl ?_
              refine z_aload_n C (pc := 51) dX1_go_51 rfl ?_
              refine z_get C (pc := 52) 3 rfl rfl wf_X1 3 (by decide) rfl wl_X1_40 (v := .int (i14 5)) rfl dX1_go_52 ?_
              refine z_if_eq C (pc := 55) (tgt := 69) dX1_go_55 (by decide) (fun c_15 => ?_) (fun c_15 => ?_)
              · have hdie : s2.1 = 0 ∨ s2.2 < sumk ets kd s2.1 n := Or.inl (by
                  rw [b3.1] at c_15
                  exact (nI_eq (b := 0) (by have := oko.1; omega) (by omega)).mp c_15)
                refine z_aload_n C (pc := 69) dX1_go_69 rfl ?_
                refine z_iload C (pc := 70) dX1_go_70 rfl ?_
                refine z_callvF C (by exact fun _ => cW_ad) (runV C (wc := (cW cI a i14 r')) (pc := 72) (rY' := rm 0 0) (nn := 1) (As := [.int (nI (j + 1))]) (rest := []) (c_dieOn l D cI tt a i14 r' (nI (j + 1))) (full_hC _) (full_nd _) ⟨rfl, rfl, ⟨Nat.le_of_ble_eq_true rfl, Nat.le_of_ble_eq_true rfl⟩, Nat.le_of_ble_eq_true rfl, Nat.le_of_ble_eq_true rfl⟩ wl_X1_49 wm_X1_dieOn we_X1_dieOn wi_X1 wc_X1_dieOn (by decide +kernel) rfl 3 rfl rfl rfl rfl (Nat.le_of_ble_eq_true rfl) dX1_go_72) (fun u_16 h_16 => ?_)
                generalize u_16 = i16 at h_16 ⊢
                obtain ⟨e1, e5, e6, e9⟩ := h_16
                refine z_ws (st' := []) (ws' := (cW cI a i16 r')) rfl rfl ?_
                refine z_iconst C (pc := 75) (v := 0) dX1_go_75 (by decide) ?_
                refine z_zret C (pc := 76) (i16, r') dX1_go_76 rfl ?_ rfl
                have hrs : runv kd n st (j + 1) (x, min f (sumk pls kd x n), c, 0) = (0, 0, z.2.2.1, j + 1) := by rw [run_s (by rw [hzz]; exact hd), hzz]; exact leg_die hov hdie
                have hme : marv kd n x st f c = (0, 0, z.2.2.1, j + 1) := by rw [mar_end hjl (by rw [hrs]; simp), hrs]
                rw [hme]
                exact ⟨by simp, hsp2.tr e1, hsr, e5, e6, e9, hc2⟩
              · have hal : s2.1 ≠ 0 := fun h => c_15 (by rw [b3.1, h]; rfl)
                refine z_aload_n C (pc := 58) dX1_go_58 rfl ?_
                refine z_get C (pc := 59) 3 rfl rfl wf_X1 4 (by decide) rfl wl_X1_43 (v := .int (i14 6)) rfl dX1_go_59 ?_
                refine z_aload_n C (pc := 62) dX1_go_62 rfl ?_
                refine z_get C (pc := 63) 3 rfl rfl wf_X1 6 (by decide) rfl wl_X1_46 (v := .int (i14 8)) rfl dX1_go_63 ?_
                refine z_icmp_ge C (pc := 66) (tgt := 77) dX1_go_66 (by decide) (fun c_17 => ?_) (fun c_17 => ?_)
                · have hnd : ¬ (s2.1 = 0 ∨ s2.2 < sumk ets kd s2.1 n) := by
                    rw [b3.2.2.2, b3.2.1] at c_17
                    have := ge_of_nI c_17 (by have := et_le (kd := kd) (x := s2.1) hn6; omega)
                    omega
                  have hsub : i' 0 = i' 0 := rfl
                  refine z_aload_n C (pc := 77) dX1_go_77 rfl ?_
                  refine z_dup C (pc := 78) dX1_go_78 rfl ?_
                  refine z_get C (pc := 79) 3 rfl rfl wf_X1 4 (by decide) rfl wl_X1_43 (v := .int (i14 6)) rfl dX1_go_79 ?_
                  refine z_aload_n C (pc := 82) dX1_go_82 rfl ?_
                  refine z_get C (pc := 83) 3 rfl rfl wf_X1 6 (by decide) rfl wl_X1_46 (v := .int (i14 8)) rfl dX1_go_83 ?_
                  refine z_isub C (pc := 86) dX1_go_86 ?_
                  refine z_put C (pc := 87) 3 rfl rfl wf_X1 4 (by decide) rfl tyX1 tyX1_ok nmX1 rfl rfl rfl (Nat.le_of_ble_eq_true rfl) (ws' := (cW cI a (upd i14 6 ((i14 6) - (i14 8))) r')) rfl wl_X1_43 dX1_go_87 ?_
                  refine z_iload C (pc := 90) dX1_go_90 rfl ?_
                  refine z_if_ne C (pc := 92) (tgt := 105) dX1_go_92 (by decide) (fun c_18 => ?_) (fun c_18 => ?_)
                  · refine z_iinc C (pc := 105) (v := ((nI (j + 1)) + 1)) (lv' := [(0, .ref (a 3)), (1, .int (nI x)), (2, .int (nI st)), (3, .int (nI f)), (4, .int ((nI (j + 1)) + 1)), (5, .int 1)]) dX1_go_105 rfl rfl (Nat.le_of_ble_eq_true rfl) rfl rfl ?_
                    refine z_goto C (pc := 108) (tgt := 9) dX1_go_108 (by decide) ?_
                    have hrs : runv kd n st (j + 1) (x, min f (sumk pls kd x n), c, 0) = (s2.1, s2.2 - sumk ets kd s2.1 n, z.2.2.1, 0) := by rw [run_s (by rw [hzz]; exact hd), hzz]; exact leg_out hov hnd hout
                    have hps2 : PS (upd i14 6 (i14 6 - i14 8)) kd n s2.1 (s2.2 - sumk ets kd s2.1 n) := ⟨by rw [upd_n (by decide)]; exact b3.1, by rw [upd_s, b3.2.1, b3.2.2.2, pk_sub (by omega)], by rw [upd_n (by decide)]; exact b3.2.2.1, by rw [upd_n (by decide)]; exact b3.2.2.2⟩
                    refine z_lv (lv' := [(0, .ref (a 3)), (1, .int (nI x)), (2, .int (nI st)), (3, .int (nI f)), (4, .int (nI ((j + 1) + 1)))]) ⟨rfl, rfl, rfl, rfl, lki (nI_1 _), trivial⟩ ?_
                    exact ih9 (j + 1) (upd i14 6 ((i14 6) - (i14 8))) r' (by omega) hjl (by rw [hrs]) (hsp2.up (by omega)) hsr (by rw [upd_n (by decide)]; exact h92) (by rw [hrs]; exact hps2) (by rw [hrs]; exact hc2)
                  · exact absurd c_18 (by decide)
                · have hdie : s2.1 = 0 ∨ s2.2 < sumk ets kd s2.1 n := Or.inr (by
                    rw [b3.2.2.2, b3.2.1] at c_17
                    exact lt_of_nI c_17 (by have := oko.2; have := pl_le (kd := kd) (x := s2.1) hn6; omega))
                  refine z_aload_n C (pc := 69) dX1_go_69 rfl ?_
                  refine z_iload C (pc := 70) dX1_go_70 rfl ?_
                  refine z_callvF C (by exact fun _ => cW_ad) (runV C (wc := (cW cI a i14 r')) (pc := 72) (rY' := rm 0 0) (nn := 1) (As := [.int (nI (j + 1))]) (rest := []) (c_dieOn l D cI tt a i14 r' (nI (j + 1))) (full_hC _) (full_nd _) ⟨rfl, rfl, ⟨Nat.le_of_ble_eq_true rfl, Nat.le_of_ble_eq_true rfl⟩, Nat.le_of_ble_eq_true rfl, Nat.le_of_ble_eq_true rfl⟩ wl_X1_49 wm_X1_dieOn we_X1_dieOn wi_X1 wc_X1_dieOn (by decide +kernel) rfl 3 rfl rfl rfl rfl (Nat.le_of_ble_eq_true rfl) dX1_go_72) (fun u_19 h_19 => ?_)
                  generalize u_19 = i19 at h_19 ⊢
                  obtain ⟨e1, e5, e6, e9⟩ := h_19
                  refine z_ws (st' := []) (ws' := (cW cI a i19 r')) rfl rfl ?_
                  refine z_iconst C (pc := 75) (v := 0) dX1_go_75 (by decide) ?_
                  refine z_zret C (pc := 76) (i19, r') dX1_go_76 rfl ?_ rfl
                  have hrs : runv kd n st (j + 1) (x, min f (sumk pls kd x n), c, 0) = (0, 0, z.2.2.1, j + 1) := by rw [run_s (by rw [hzz]; exact hd), hzz]; exact leg_die hov hdie
                  have hme : marv kd n x st f c = (0, 0, z.2.2.1, j + 1) := by rw [mar_end hjl (by rw [hrs]; simp), hrs]
                  rw [hme]
                  exact ⟨by simp, hsp2.tr e1, hsr, e5, e6, e9, hc2⟩
            · have hsk : 3 ≤ j + 1 - 1 := by
                rw [nI_pred] at c_13
                have := Nat.le_of_not_lt (fun h => c_13 (nI_lt (a := j) (b := 3) h (by omega)))
                omega
              refine z_aload_n C (pc := 43) dX1_go_43 rfl ?_
              refine z_callvF C (by exact fun _ => cW_ad) (runV C (wc := (cW cI a i' r')) (pc := 44) (rY' := rm 2 43) (nn := 0) (As := []) (rest := []) (c_eatPonies l D cI tt a i' r' kd n z.1 z.2.1 hv' hps hok) (full_hC _) (full_nd _) ⟨rfl, rfl, ⟨Nat.le_of_ble_eq_true rfl, Nat.le_of_ble_eq_true rfl⟩, Nat.le_of_ble_eq_true rfl, Nat.le_of_ble_eq_true rfl⟩ wl_X1_34 wm_X1_eatPonies we_X1_eatPonies wi_X1 wc_X1_eatPonies (by decide +kernel) rfl 3 rfl rfl rfl rfl (Nat.le_of_ble_eq_true rfl) dX1_go_44) (fun u_20 h_20 => ?_)
              generalize u_20 = i20 at h_20 ⊢
              obtain ⟨k1, k2, k3⟩ := h_20
              have kok := pon_ok hn6 n (z.1, z.2.1) (Nat.le_refl _) hok
              have hv2 := hv'.sp k1 (SR.rf (r := r'))
              refine z_ws (st' := []) (ws' := (cW cI a i20 r')) rfl rfl ?_
              refine z_aload_n C (pc := 47) dX1_go_47 rfl ?_
              refine z_callvF C (by exact fun _ => cW_ad) (runV C (wc := (cW cI a i20 r')) (pc := 48) (rY' := rm 2 43) (nn := 0) (As := []) (rest := []) (c_eatBeasts l D cI tt a i20 r' kd n (pon kd n n (z.1, z.2.1)).1 (pon kd n n (z.1, z.2.1)).2 hv2 k3 kok) (full_hC _) (full_nd _) ⟨rfl, rfl, ⟨Nat.le_of_ble_eq_true rfl, Nat.le_of_ble_eq_true rfl⟩, Nat.le_of_ble_eq_true rfl, Nat.le_of_ble_eq_true rfl⟩ wl_X1_37 wm_X1_eatBeasts we_X1_eatBeasts wi_X1 wc_X1_eatBeasts (by decide +kernel) rfl 3 rfl rfl rfl rfl (Nat.le_of_ble_eq_true rfl) dX1_go_48) (fun u_21 h_21 => ?_)
              generalize u_21 = i21 at h_21 ⊢
              obtain ⟨b1, b2, b3⟩ := h_21
              have hsp2 := (hsp.tr k1).tr b1
              have h92 : i21 9 = 0 := b2.trans (k2.trans h9)
              have hov : outv kd n st (j + 1) (z.1, z.2.1) = bea kd n n (pon kd n n (z.1, z.2.1)) := out_p hout hsk
              have oko := outv_ok (st := st) (j := j + 1) (s := (z.1, z.2.1)) hn6 hok
              rw [hov] at oko
              generalize bea kd n n (pon kd n n (z.1, z.2.1)) = s2 at hov b3 oko
              refine z_ws (st' := []) (ws' := (cW cI a i21 r')) rfl rfl ?_
              refine z_aload_n C (pc := 51) dX1_go_51 rfl ?_
              refine z_get C (pc := 52) 3 rfl rfl wf_X1 3 (by decide) rfl wl_X1_40 (v := .int (i21 5)) rfl dX1_go_52 ?_
              refine z_if_eq C (pc := 55) (tgt := 69) dX1_go_55 (by decide) (fun c_22 => ?_) (fun c_22 => ?_)
              · have hdie : s2.1 = 0 ∨ s2.2 < sumk ets kd s2.1 n := Or.inl (by
                  rw [b3.1] at c_22
                  exact (nI_eq (b := 0) (by have := oko.1; omega) (by omega)).mp c_22)
                refine z_aload_n C (pc := 69) dX1_go_69 rfl ?_
                refine z_iload C (pc := 70) dX1_go_70 rfl ?_
                refine z_callvF C (by exact fun _ => cW_ad) (runV C (wc := (cW cI a i21 r')) (pc := 72) (rY' := rm 0 0) (nn := 1) (As := [.int (nI (j + 1))]) (rest := []) (c_dieOn l D cI tt a i21 r' (nI (j + 1))) (full_hC _) (full_nd _) ⟨rfl, rfl, ⟨Nat.le_of_ble_eq_true rfl, Nat.le_of_ble_eq_true rfl⟩, Nat.le_of_ble_eq_true rfl, Nat.le_of_ble_eq_true rfl⟩ wl_X1_49 wm_X1_dieOn we_X1_dieOn wi_X1 wc_X1_dieOn (by decide +kernel) rfl 3 rfl rfl rfl rfl (Nat.le_of_ble_eq_true rfl) dX1_go_72) (fun u_23 h_23 => ?_)
                generalize u_23 = i23 at h_23 ⊢
                obtain ⟨e1, e5, e6, e9⟩ := h_23
                refine z_ws (st' := []) (ws' := (cW cI a i23 r')) rfl rfl ?_
                refine z_iconst C (pc := 75) (v := 0) dX1_go_75 (by decide) ?_
                refine z_zret C (pc := 76) (i23, r') dX1_go_76 rfl ?_ rfl
                have hrs : runv kd n st (j + 1) (x, min f (sumk pls kd x n), c, 0) = (0, 0, z.2.2.1, j + 1) := by rw [run_s (by rw [hzz]; exact hd), hzz]; exact leg_die hov hdie
                have hme : marv kd n x st f c = (0, 0, z.2.2.1, j + 1) := by rw [mar_end hjl (by rw [hrs]; simp), hrs]
                rw [hme]
                exact ⟨by simp, hsp2.tr e1, hsr, e5, e6, e9, hc2⟩
              · have hal : s2.1 ≠ 0 := fun h => c_22 (by rw [b3.1, h]; rfl)
                refine z_aload_n C (pc := 58) dX1_go_58 rfl ?_
                refine z_get C (pc := 59) 3 rfl rfl wf_X1 4 (by decide) rfl wl_X1_43 (v := .int (i21 6)) rfl dX1_go_59 ?_
                refine z_aload_n C (pc := 62) dX1_go_62 rfl ?_
                refine z_get C (pc := 63) 3 rfl rfl wf_X1 6 (by decide) rfl wl_X1_46 (v := .int (i21 8)) rfl dX1_go_63 ?_
                refine z_icmp_ge C (pc := 66) (tgt := 77) dX1_go_66 (by decide) (fun c_24 => ?_) (fun c_24 => ?_)
                · have hnd : ¬ (s2.1 = 0 ∨ s2.2 < sumk ets kd s2.1 n) := by
                    rw [b3.2.2.2, b3.2.1] at c_24
                    have := ge_of_nI c_24 (by have := et_le (kd := kd) (x := s2.1) hn6; omega)
                    omega
                  have hsub : i' 0 = i' 0 := rfl
                  refine z_aload_n C (pc := 77) dX1_go_77 rfl ?_
                  refine z_dup C (pc := 78) dX1_go_78 rfl ?_
                  refine z_get C (pc := 79) 3 rfl rfl wf_X1 4 (by decide) rfl wl_X1_43 (v := .int (i21 6)) rfl dX1_go_79 ?_
                  refine z_aload_n C (pc := 82) dX1_go_82 rfl ?_
                  refine z_get C (pc := 83) 3 rfl rfl wf_X1 6 (by decide) rfl wl_X1_46 (v := .int (i21 8)) rfl dX1_go_83 ?_
                  refine z_isub C (pc := 86) dX1_go_86 ?_
                  refine z_put C (pc := 87) 3 rfl rfl wf_X1 4 (by decide) rfl tyX1 tyX1_ok nmX1 rfl rfl rfl (Nat.le_of_ble_eq_true rfl) (ws' := (cW cI a (upd i21 6 ((i21 6) - (i21 8))) r')) rfl wl_X1_43 dX1_go_87 ?_
                  refine z_iload C (pc := 90) dX1_go_90 rfl ?_
                  refine z_if_ne C (pc := 92) (tgt := 105) dX1_go_92 (by decide) (fun c_25 => ?_) (fun c_25 => ?_)
                  · refine z_iinc C (pc := 105) (v := ((nI (j + 1)) + 1)) (lv' := [(0, .ref (a 3)), (1, .int (nI x)), (2, .int (nI st)), (3, .int (nI f)), (4, .int ((nI (j + 1)) + 1)), (5, .int 1)]) dX1_go_105 rfl rfl (Nat.le_of_ble_eq_true rfl) rfl rfl ?_
                    refine z_goto C (pc := 108) (tgt := 9) dX1_go_108 (by decide) ?_
                    have hrs : runv kd n st (j + 1) (x, min f (sumk pls kd x n), c, 0) = (s2.1, s2.2 - sumk ets kd s2.1 n, z.2.2.1, 0) := by rw [run_s (by rw [hzz]; exact hd), hzz]; exact leg_out hov hnd hout
                    have hps2 : PS (upd i21 6 (i21 6 - i21 8)) kd n s2.1 (s2.2 - sumk ets kd s2.1 n) := ⟨by rw [upd_n (by decide)]; exact b3.1, by rw [upd_s, b3.2.1, b3.2.2.2, pk_sub (by omega)], by rw [upd_n (by decide)]; exact b3.2.2.1, by rw [upd_n (by decide)]; exact b3.2.2.2⟩
                    refine z_lv (lv' := [(0, .ref (a 3)), (1, .int (nI x)), (2, .int (nI st)), (3, .int (nI f)), (4, .int (nI ((j + 1) + 1)))]) ⟨rfl, rfl, rfl, rfl, lki (nI_1 _), trivial⟩ ?_
                    exact ih9 (j + 1) (upd i21 6 ((i21 6) - (i21 8))) r' (by omega) hjl (by rw [hrs]) (hsp2.up (by omega)) hsr (by rw [upd_n (by decide)]; exact h92) (by rw [hrs]; exact hps2) (by rw [hrs]; exact hc2)
                  · exact absurd c_25 (by decide)
                · have hdie : s2.1 = 0 ∨ s2.2 < sumk ets kd s2.1 n := Or.inr (by
                    rw [b3.2.2.2, b3.2.1] at c_24
                    exact lt_of_nI c_24 (by have := oko.2; have := pl_le (kd := kd) (x := s2.1) hn6; omega))
                  refine z_aload_n C (pc := 69) dX1_go_69 rfl ?_
                  refine z_iload C (pc := 70) dX1_go_70 rfl ?_
                  refine z_callvF C (by exact fun _ => cW_ad) (runV C (wc := (cW cI a i21 r')) (pc := 72) (rY' := rm 0 0) (nn := 1) (As := [.int (nI (j + 1))]) (rest := []) (c_dieOn l D cI tt a i21 r' (nI (j + 1))) (full_hC _) (full_nd _) ⟨rfl, rfl, ⟨Nat.le_of_ble_eq_true rfl, Nat.le_of_ble_eq_true rfl⟩, Nat.le_of_ble_eq_true rfl, Nat.le_of_ble_eq_true rfl⟩ wl_X1_49 wm_X1_dieOn we_X1_dieOn wi_X1 wc_X1_dieOn (by decide +kernel) rfl 3 rfl rfl rfl rfl (Nat.le_of_ble_eq_true rfl) dX1_go_72) (fun u_26 h_26 => ?_)
                  generalize u_26 = i26 at h_26 ⊢
                  obtain ⟨e1, e5, e6, e9⟩ := h_26
                  refine z_ws (st' := []) (ws' := (cW cI a i26 r')) rfl rfl ?_
                  refine z_iconst C (pc := 75) (v := 0) dX1_go_75 (by decide) ?_
                  refine z_zret C (pc := 76) (i26, r') dX1_go_76 rfl ?_ rfl
                  have hrs : runv kd n st (j + 1) (x, min f (sumk pls kd x n), c, 0) = (0, 0, z.2.2.1, j + 1) := by rw [run_s (by rw [hzz]; exact hd), hzz]; exact leg_die hov hdie
                  have hme : marv kd n x st f c = (0, 0, z.2.2.1, j + 1) := by rw [mar_end hjl (by rw [hrs]; simp), hrs]
                  rw [hme]
                  exact ⟨by simp, hsp2.tr e1, hsr, e5, e6, e9, hc2⟩
  refine z_lv (lv' := [(0, .ref (a 3)), (1, .int (nI x)), (2, .int (nI st)), (3, .int (nI f)), (4, .int (nI (0 + 1)))]) ⟨rfl, rfl, rfl, rfl, rfl, trivial⟩ ?_
  exact key9 (_ + 1) 0 i1 r (Nat.lt_succ_self _) (Nat.zero_le _) rfl q1 SR.rf q2 q3 (fun k hk => (hc k hk).1)
end
section
/-! what is searched for, in whole numbers -/
def homeb (kd : Nat → Nat) (n x st : Nat) (c : Nat → Nat) (f : Nat) : Bool := decide ((marv kd n x st f c).2.2.2 = 0)
def ndv (P : Nat → Bool) : Nat → Nat → Int32
  | 0, _ => -1
  | k + 1, f => if P f = true then nI f else ndv P k (f + 1)
def needv (kd : Nat → Nat) (n x st : Nat) (c : Nat → Nat) : Int32 := ndv (homeb kd n x st c) 41 0
def frv (P : Nat → Bool) : Nat → Nat
  | 0 => 0
  | s + 1 => if P (s + 1) = true then s + 1 else frv P s
def farb (kd : Nat → Nat) (n x : Nat) (c : Nat → Nat) (st : Nat) : Bool := decide (x ≠ 0) && decide (needv kd n x st c ≠ -1)
def farv (kd : Nat → Nat) (n x : Nat) (c : Nat → Nat) : Nat := frv (farb kd n x c) 6
def deadv (x y : Int32) : Int32 := x &&& (y ^^^ (-1))
def pcn (x : Nat) : Nat := sumk (fun _ => 1) (fun _ => 0) x 10
def tmv (ok : Nat → Bool) : Nat → Nat × Nat
  | 0 => (0, 7)
  | s + 1 => if ok (s + 1) = true ∧ pcn (s + 1) < (tmv ok s).2 then (s + 1, pcn (s + 1)) else tmv ok s
def okb (kd : Nat → Nat) (n al st : Nat) (c : Nat → Nat) (x : Nat) : Bool := decide (deadv (nI x) (nI al) = 0) && decide (needv kd n x st c ≠ -1)
def noneI (b : Nat) : Int32 := if b = 0 then -1 else nI b
def teamv (kd : Nat → Nat) (n al st : Nat) (c : Nat → Nat) : Int32 := noneI (tmv (okb kd n al st c) (2 ^ n - 1)).1
def alls (S : Nat → Bool) : Nat → Bool
  | 0 => true
  | p + 1 => alls S p && S p
def lyv (P : Nat → Bool) : Nat → Nat
  | 0 => 0
  | v + 1 => lyv P v + (if P v = true then 2 ^ v else 0)
def sob (kd : Nat → Nat) (n : Nat) (hm hs hf hh : Nat → Nat) (c : Nat → Nat) (k : Nat) : Bool := homeb kd n (hm k) (hs k) c (hf k) == decide (hh k = 1)
/-- LAY at the cairn q (from 1) -/
def layv (kd : Nat → Nat) (n : Nat) (c : Nat → Nat) (hn : Nat) (hm hs hf hh : Nat → Nat) (q : Nat) : Nat := lyv (fun v => alls (sob kd n hm hs hf hh (upN c (q - 1) v)) hn) 10
def hcv (H : Nat → Bool) (bits : Nat) : Nat → Nat
  | 0 => 0
  | v + 1 => hcv H bits v + (if bt bits v = 1 ∧ H v = true then 1 else 0)
def wov (kd : Nat → Nat) (n : Nat) (c : Nat → Nat) (q bits f : Nat) : Nat := max (hcv (fun v => homeb kd n (2 ^ n - 1) 6 (upN c (q - 1) v) f) bits 10) (pcn bits - hcv (fun v => homeb kd n (2 ^ n - 1) 6 (upN c (q - 1) v) f) bits 10)
def trv (w : Nat → Nat) (l0 : Nat) : Nat → Int32 × Nat
  | 0 => (-1, l0)
  | f + 1 => if w f < (trv w l0 f).2 then (nI f, w f) else trv w l0 f
/-- TRY at the cairn q, of these amounts -/
def tryv (kd : Nat → Nat) (n : Nat) (c : Nat → Nat) (q bits : Nat) : Int32 := if bits = 0 then -1 else (trv (wov kd n c q bits) 11 41).1
def nxt (t : Nat) : Nat := (1103515245 * t + 12345) % 2147483648
def crn (t : Nat) : Nat := t / 65536 % 3
def crp : Nat → Nat × (Nat → Nat) → Nat × (Nat → Nat)
  | 0, z => z
  | k + 1, z => (nxt (crp k z).1, upN (crp k z).2 k ((crp k z).2 k - crn (nxt (crp k z).1)))
def crw : Nat → Nat × (Nat → Nat) → Nat × (Nat → Nat)
  | 0, z => z
  | k + 1, z => crp 5 (crw k z)
/-! rows of it -/
theorem home_cap {kd : Nat → Nat} {n x st f : Nat} {c : Nat → Nat} (h : sumk pls kd x n ≤ f) : homeb kd n x st c f = homeb kd n x st c (sumk pls kd x n) := by
  unfold homeb marv
  rw [Nat.min_eq_right h, Nat.min_self]
theorem ndv_none {P : Nat → Bool} : ∀ k f, (∀ j, f ≤ j → P j = false) → ndv P k f = -1
  | 0, _, _ => rfl
  | k + 1, f, h => by
    unfold ndv
    rw [if_neg (by rw [h f (Nat.le_refl _)]; decide)]
    exact ndv_none k (f + 1) (fun j hj => h j (by omega))
theorem ndv_cap {P : Nat → Bool} {m : Nat} (hm : m ≤ 40) (hP : ∀ f, m ≤ f → P f = P m) : ∀ k f, k + f = m + 1 → f ≤ m → ndv P k f = ndv P (41 - f) f
  | 0, f, h, h2 => by omega
  | k + 1, f, h, h2 => by
    rw [show 41 - f = (40 - f) + 1 by omega]
    unfold ndv
    by_cases e : P f = true
    · rw [if_pos e, if_pos e]
    · rw [if_neg e, if_neg e]
      by_cases e2 : f = m
      · have hk : k = 0 := by omega
        subst hk
        rw [ndv_none (40 - f) (f + 1) (fun j hj => by rw [hP j (by omega), ← e2]; simpa using e)]
        rfl
      · rw [ndv_cap hm hP k (f + 1) (by omega) (by omega), show 41 - (f + 1) = 40 - f by omega]
theorem need_cap {kd : Nat → Nat} {n x st : Nat} {c : Nat → Nat} : ndv (homeb kd n x st c) (min 40 (sumk pls kd x n) + 1) 0 = needv kd n x st c := by
  unfold needv
  by_cases h : sumk pls kd x n ≤ 40
  · rw [Nat.min_eq_right h]
    exact ndv_cap (P := homeb kd n x st c) h (fun f hf => home_cap hf) _ 0 rfl (Nat.zero_le _)
  · rw [Nat.min_eq_left (by omega)]
theorem bc_pcn : ∀ x, x < 1024 → bcv (nI x) = nI (pcn x) := by decide +kernel
theorem pcn_le (x : Nat) : pcn x ≤ 10 := by have := sumk_le (g := fun _ => 1) (kd := fun _ => 0) (x := x) (M := 1) (fun _ => Nat.le_refl _) 10; unfold pcn; omega
theorem or_bit : ∀ v, v < 10 → ∀ b, b < 2 ^ v → nI b ||| (1 <<< (nI v &&& 31)) = nI (b + 2 ^ v) := by decide +kernel
theorem lyv_lt (P : Nat → Bool) : ∀ v, lyv P v < 2 ^ v
  | 0 => Nat.one_pos
  | v + 1 => by
    have := lyv_lt P v
    unfold lyv
    rw [Nat.pow_succ]
    split <;> omega
theorem alls_f {S : Nat → Bool} {p : Nat} (h : alls S p = false) : ∀ k, alls S (p + k) = false
  | 0 => h
  | k + 1 => by
    show (alls S (p + k) && S (p + k)) = false
    rw [alls_f h k]; rfl
theorem hcv_le (H : Nat → Bool) (bits : Nat) : ∀ v, hcv H bits v ≤ sumk (fun _ => 1) (fun _ => 0) bits v
  | 0 => Nat.le_refl _
  | v + 1 => by
    have := hcv_le H bits v
    unfold hcv sumk
    by_cases e : bt bits v = 1 ∧ H v = true
    · rw [if_pos e, e.1]; omega
    · rw [if_neg e]; omega
theorem wov_le {kd : Nat → Nat} {n : Nat} {c : Nat → Nat} {q bits f : Nat} : wov kd n c q bits f ≤ pcn bits := by
  unfold wov
  have := hcv_le (fun v => homeb kd n (2 ^ n - 1) 6 (upN c (q - 1) v) f) bits 10
  unfold pcn at *
  omega
theorem wov_cap {kd : Nat → Nat} {n : Nat} {c : Nat → Nat} {q bits f : Nat} (h : sumk pls kd (2 ^ n - 1) n ≤ f) : wov kd n c q bits f = wov kd n c q bits (sumk pls kd (2 ^ n - 1) n) := by
  have : (fun v => homeb kd n (2 ^ n - 1) 6 (upN c (q - 1) v) f) = (fun v => homeb kd n (2 ^ n - 1) 6 (upN c (q - 1) v) (sumk pls kd (2 ^ n - 1) n)) := funext fun v => home_cap h
  unfold wov
  rw [this]
/-- the first trial is better than any start: both starts come to the same -/
theorem trv_start {w : Nat → Nat} {l l' : Nat} (h : w 0 < l) (h' : w 0 < l') : ∀ k, trv w l (k + 1) = trv w l' (k + 1)
  | 0 => by
    show (if w 0 < l then _ else _) = (if w 0 < l' then _ else _)
    rw [if_pos h, if_pos h']
  | k + 1 => by
    have e := trv_start h h' k
    show (if w (k + 1) < (trv w l (k + 1)).2 then _ else trv w l (k + 1)) = (if w (k + 1) < (trv w l' (k + 1)).2 then _ else trv w l' (k + 1))
    rw [e]
theorem trv_le {w : Nat → Nat} {l : Nat} : ∀ k f, f < k → (trv w l k).2 ≤ w f
  | 0, f, h => by omega
  | k + 1, f, h => by
    show (if w k < (trv w l k).2 then (nI k, w k) else trv w l k).2 ≤ w f
    by_cases e : w k < (trv w l k).2
    · rw [if_pos e]
      by_cases e2 : f = k
      · subst e2; exact Nat.le_refl _
      · have := trv_le (w := w) (l := l) k f (by omega)
        show w k ≤ w f
        omega
    · rw [if_neg e]
      by_cases e2 : f = k
      · subst e2; omega
      · exact trv_le k f (by omega)
theorem trv_cap {w : Nat → Nat} {l m : Nat} (hw : ∀ f, m ≤ f → w f = w m) : ∀ k, trv w l (m + 1 + k) = trv w l (m + 1)
  | 0 => rfl
  | k + 1 => by
    show (if w (m + 1 + k) < (trv w l (m + 1 + k)).2 then _ else trv w l (m + 1 + k)) = _
    rw [trv_cap hw k, hw (m + 1 + k) (by omega), if_neg (by have := trv_le (w := w) (l := l) (m + 1) m (by omega); omega)]
theorem try_cap {kd : Nat → Nat} {n : Nat} {c : Nat → Nat} {q bits : Nat} : (trv (wov kd n c q bits) (pcn bits + 1) (min 40 (sumk pls kd (2 ^ n - 1) n) + 1)).1 = (trv (wov kd n c q bits) 11 41).1 := by
  have h0 : wov kd n c q bits 0 ≤ pcn bits := wov_le
  have h1 := pcn_le bits
  rw [trv_start (l' := 11) (by omega) (by omega)]
  by_cases h : sumk pls kd (2 ^ n - 1) n ≤ 40
  · rw [Nat.min_eq_right h]
    have := trv_cap (w := wov kd n c q bits) (l := 11) (m := sumk pls kd (2 ^ n - 1) n) (fun f hf => wov_cap hf) (40 - sumk pls kd (2 ^ n - 1) n)
    rw [show sumk pls kd (2 ^ n - 1) n + 1 + (40 - sumk pls kd (2 ^ n - 1) n) = 41 by omega] at this
    rw [this]
  · rw [Nat.min_eq_left (by omega)]
theorem tmv_le (ok : Nat → Bool) : ∀ s, (tmv ok s).1 ≤ s
  | 0 => Nat.le_refl _
  | s + 1 => by
    unfold tmv
    by_cases e : ok (s + 1) = true ∧ pcn (s + 1) < (tmv ok s).2
    · rw [if_pos e]; exact Nat.le_refl _
    · rw [if_neg e]; have := tmv_le ok s; omega
theorem tmv_7 (ok : Nat → Bool) : ∀ s, (tmv ok s).2 ≤ 7
  | 0 => Nat.le_refl _
  | s + 1 => by
    unfold tmv
    have := tmv_7 ok s
    by_cases e : ok (s + 1) = true ∧ pcn (s + 1) < (tmv ok s).2
    · rw [if_pos e]; show pcn (s + 1) ≤ 7; omega
    · rw [if_neg e]; exact this
theorem nextSeed_nI {t : Nat} (ht : t < 2147483648) : nextSeedv (nI t) = nI (nxt t) := by
  unfold nextSeedv nxt
  rw [show (1103515245 : Int32) = nI 1103515245 from rfl, show (12345 : Int32) = nI 12345 from rfl, pk_mul, nI_add, pk_and _ (m := 2147483647) 31 (by decide)]
  have h1 : (nI (1103515245 * t + 12345)).toBitVec.toNat = (1103515245 * t + 12345) % 4294967296 := by
    show (BitVec.ofNat 32 (1103515245 * t + 12345)).toNat = _
    simp [BitVec.toNat_ofNat]
  rw [h1, show ∀ z : Nat, z % 4294967296 % 2 ^ 31 = z % 2147483648 from fun z => by omega]
theorem nxt_lt (t : Nat) : nxt t < 2147483648 := Nat.mod_lt _ (by decide)
theorem crn_lt (t : Nat) : crn t < 3 := Nat.mod_lt _ (by decide)
theorem max_sub : ∀ w, w < 10 → ∀ k, k < 3 → (if (0 : Int32) < nI w - nI k then nI w - nI k else 0) = nI (w - k) := by decide +kernel
end
section
theorem nI_z {n : Nat} (hn : n < 2 ^ 31) (h : nI n = 0) : n = 0 := (nI_eq (b := 0) hn (by decide)).mp h
theorem nI_nz {n : Nat} (h : ¬ nI n = 0) : n ≠ 0 := fun e => h (by rw [e]; rfl)
def noCairn (n : Nat) (x : Int32) : Bool := decide (x < 1) || (!decide (x ≤ 5) || decide (n = 0))
set_option maxHeartbeats 4000000 in
set_option maxRecDepth 100000 in
theorem c_isNobody (l : Launch) (D : va_G) (cI : ClassId) (tt : Nat × Nat × Nat) (a : Nat → Nat) (i : Nat → Int32) (r : Nat → Nat → Int32) (x : Int32) (n : Nat) (hn : i 4 = nI n) (hn6 : n ≤ 6) : MetI (S := Unit) l yX3_isNobody cX3_isNobody 2 (some .boolean) (rm 1 20) D cI tt [.ref (a 0), .int x] (cW cI a i r) (fun q _ => q = b2 (noPeople n x)) (fun _ => cW cI a i r) := by
  refine met_ofI (by decide) (Nat.le_of_ble_eq_true rfl) ?_
  intro pP eE sS mM aV bB mE cC AA C hin
  refine z_conv (lv' := [(0, .ref (a 0)), (1, .int x)]) ⟨rfl, rfl, trivial⟩ rfl rfl ?_
  refine z_iload_n C (pc := 0) dX3_isNobody_0 rfl ?_
  refine z_iconst C (pc := 1) (v := 1) dX3_isNobody_1 (by decide) ?_
  refine z_icmp_lt C (pc := 2) (tgt := 16) dX3_isNobody_2 (by decide) (fun c_1 => ?_) (fun c_1 => ?_)
  · refine z_iconst C (pc := 16) (v := 1) dX3_isNobody_16 (by decide) ?_
    refine z_goto C (pc := 17) (tgt := 21) dX3_isNobody_17 (by decide) ?_
    refine z_zret C (pc := 21) () dX3_isNobody_21 rfl ?_ rfl
    simp [b2, noPeople, c_1]
  · refine z_iload_n C (pc := 5) dX3_isNobody_5 rfl ?_
    refine z_aload_n C (pc := 6) dX3_isNobody_6 rfl ?_
    refine z_get C (pc := 7) 0 rfl rfl wf_X3 1 (by decide) rfl wl_X3_19 (v := .ref (a 3)) rfl dX3_isNobody_7 ?_
    refine z_calliF C (by exact fun _ => cW_ad) (runVN C (wc := (cW cI a i r)) (pc := 10) (rY' := rm 0 0) (nn := 0) (As := []) (rest := [.int x]) (c_all l D cI tt a i r n hn hn6) (full_hC _) (full_nd _) ⟨rfl, rfl, ⟨Nat.le_of_ble_eq_true rfl, Nat.le_of_ble_eq_true rfl⟩, Nat.le_of_ble_eq_true rfl, Nat.le_of_ble_eq_true rfl⟩ wl_X3_70 wm_X1_all we_X1_all wi_X1 wc_X1_all (by decide +kernel) rfl 3 rfl rfl rfl rfl (Nat.le_of_ble_eq_true rfl) dX3_isNobody_10) (fun q_2 u_2 h_2 => ?_)
    subst h_2
    refine z_ws (st' := [.int (nI (2 ^ n - 1)), .int x]) (ws' := (cW cI a i r)) rfl rfl ?_
    refine z_icmp_le C (pc := 13) (tgt := 20) dX3_isNobody_13 (by decide) (fun c_3 => ?_) (fun c_3 => ?_)
    · refine z_iconst C (pc := 20) (v := 0) dX3_isNobody_20 (by decide) ?_
      refine z_zret C (pc := 21) () dX3_isNobody_21 rfl ?_ rfl
      simp [b2, noPeople, c_1, c_3]
    · refine z_iconst C (pc := 16) (v := 1) dX3_isNobody_16 (by decide) ?_
      refine z_goto C (pc := 17) (tgt := 21) dX3_isNobody_17 (by decide) ?_
      refine z_zret C (pc := 21) () dX3_isNobody_21 rfl ?_ rfl
      simp [b2, noPeople, c_1, c_3]

set_option maxHeartbeats 4000000 in
set_option maxRecDepth 100000 in
theorem c_isNoMarch (l : Launch) (D : va_G) (cI : ClassId) (tt : Nat × Nat × Nat) (a : Nat → Nat) (i : Nat → Int32) (r : Nat → Nat → Int32) (x y f : Int32) (n : Nat) (hn : i 4 = nI n) (hn6 : n ≤ 6) : MetI (S := Unit) l yX3_isNoMarch cX3_isNoMarch 4 (some .boolean) (rm 2 41) D cI tt [.ref (a 0), .int x, .int y, .int f] (cW cI a i r) (fun q _ => q = b2 (noMarch n x y f)) (fun _ => cW cI a i r) := by
  refine met_ofI (by decide) (Nat.le_of_ble_eq_true rfl) ?_
  intro pP eE sS mM aV bB mE cC AA C hin
  refine z_conv (lv' := [(0, .ref (a 0)), (1, .int x), (2, .int y), (3, .int f)]) ⟨rfl, rfl, rfl, rfl, trivial⟩ rfl rfl ?_
  refine z_aload_n C (pc := 0) dX3_isNoMarch_0 rfl ?_
  refine z_iload_n C (pc := 1) dX3_isNoMarch_1 rfl ?_
  refine z_calliF C (by exact fun _ => cW_ad) (runV C (wc := (cW cI a i r)) (pc := 2) (rY' := rm 1 20) (nn := 1) (As := [.int x]) (rest := []) (c_isNobody l D cI tt a i r x n hn hn6) (full_hC _) (full_nd _) ⟨rfl, rfl, ⟨Nat.le_of_ble_eq_true rfl, Nat.le_of_ble_eq_true rfl⟩, Nat.le_of_ble_eq_true rfl, Nat.le_of_ble_eq_true rfl⟩ wl_X3_153 wm_X3_isNobody we_X3_isNobody wi_X3 wc_X3_isNobody (by decide +kernel) rfl 0 rfl rfl rfl rfl (Nat.le_of_ble_eq_true rfl) dX3_isNoMarch_2) (fun q_1 u_1 h_1 => ?_)
  refine z_ws (st' := [.int q_1]) (ws' := (cW cI a i r)) rfl rfl ?_
  refine z_if_ne C (pc := 5) (tgt := 25) dX3_isNoMarch_5 (by decide) (fun c_2 => ?_) (fun c_2 => ?_)
  · have hb1 := b2_t (h_1 ▸ c_2)
    refine z_iconst C (pc := 25) (v := 1) dX3_isNoMarch_25 (by decide) ?_
    refine z_goto C (pc := 26) (tgt := 30) dX3_isNoMarch_26 (by decide) ?_
    refine z_zret C (pc := 30) () dX3_isNoMarch_30 rfl ?_ rfl
    simp [b2, noMarch, *]
  · have hb1 := b2_f (h_1 ▸ c_2)
    refine z_iload_n C (pc := 8) dX3_isNoMarch_8 rfl ?_
    refine z_calli C (isC := []) rfl (by exact fun _ => rfl) (runS C (wc := []) (pc := 9) (rY' := rm 0 0) (nn := 1) (As := [.int y]) (rest := []) (c_isNoStage l D cI tt y) rfl rfl ⟨rfl, rfl, ⟨Nat.le_of_ble_eq_true rfl, Nat.le_of_ble_eq_true rfl⟩, Nat.le_of_ble_eq_true rfl, Nat.le_of_ble_eq_true rfl⟩ wl_X3_156 ws_X3_isNoStage wi_X3 wc_X3_isNoStage (by decide +kernel) rfl rfl (Nat.le_of_ble_eq_true rfl) dX3_isNoMarch_9) (fun q_3 u_3 h_3 => ?_)
    refine z_ws (st' := [.int q_3]) (ws' := (cW cI a i r)) rfl rfl ?_
    refine z_if_ne C (pc := 12) (tgt := 25) dX3_isNoMarch_12 (by decide) (fun c_4 => ?_) (fun c_4 => ?_)
    · have hb2 := b2_t (h_3 ▸ c_4)
      refine z_iconst C (pc := 25) (v := 1) dX3_isNoMarch_25 (by decide) ?_
      refine z_goto C (pc := 26) (tgt := 30) dX3_isNoMarch_26 (by decide) ?_
      refine z_zret C (pc := 30) () dX3_isNoMarch_30 rfl ?_ rfl
      simp [b2, noMarch, *]
    · have hb2 := b2_f (h_3 ▸ c_4)
      refine z_iload_n C (pc := 15) dX3_isNoMarch_15 rfl ?_
      refine z_if_lt C (pc := 16) (tgt := 25) dX3_isNoMarch_16 (by decide) (fun c_5 => ?_) (fun c_5 => ?_)
      · refine z_iconst C (pc := 25) (v := 1) dX3_isNoMarch_25 (by decide) ?_
        refine z_goto C (pc := 26) (tgt := 30) dX3_isNoMarch_26 (by decide) ?_
        refine z_zret C (pc := 30) () dX3_isNoMarch_30 rfl ?_ rfl
        simp [b2, noMarch, noFood, *]
      · refine z_iload_n C (pc := 19) dX3_isNoMarch_19 rfl ?_
        refine z_bipush C (pc := 20) (v := 40) dX3_isNoMarch_20 (by decide) ?_
        refine z_icmp_le C (pc := 22) (tgt := 29) dX3_isNoMarch_22 (by decide) (fun c_6 => ?_) (fun c_6 => ?_)
        · refine z_iconst C (pc := 29) (v := 0) dX3_isNoMarch_29 (by decide) ?_
          refine z_zret C (pc := 30) () dX3_isNoMarch_30 rfl ?_ rfl
          simp [b2, noMarch, noFood, *]
        · refine z_iconst C (pc := 25) (v := 1) dX3_isNoMarch_25 (by decide) ?_
          refine z_goto C (pc := 26) (tgt := 30) dX3_isNoMarch_26 (by decide) ?_
          refine z_zret C (pc := 30) () dX3_isNoMarch_30 rfl ?_ rfl
          simp [b2, noMarch, noFood, *]

set_option maxHeartbeats 4000000 in
set_option maxRecDepth 100000 in
theorem c_isNoCairn (l : Launch) (D : va_G) (cI : ClassId) (tt : Nat × Nat × Nat) (a : Nat → Nat) (i : Nat → Int32) (r : Nat → Nat → Int32) (x : Int32) (n : Nat) (hn : i 4 = nI n) (hn6 : n ≤ 6) : MetI (S := Unit) l yX3_isNoCairn cX3_isNoCairn 2 (some .boolean) (rm 0 0) D cI tt [.ref (a 0), .int x] (cW cI a i r) (fun q _ => q = b2 (noCairn n x)) (fun _ => cW cI a i r) := by
  refine met_ofI (by decide) (Nat.le_of_ble_eq_true rfl) ?_
  intro pP eE sS mM aV bB mE cC AA C hin
  refine z_conv (lv' := [(0, .ref (a 0)), (1, .int x)]) ⟨rfl, rfl, trivial⟩ rfl rfl ?_
  refine z_iload_n C (pc := 0) dX3_isNoCairn_0 rfl ?_
  refine z_iconst C (pc := 1) (v := 1) dX3_isNoCairn_1 (by decide) ?_
  refine z_icmp_lt C (pc := 2) (tgt := 20) dX3_isNoCairn_2 (by decide) (fun c_1 => ?_) (fun c_1 => ?_)
  · refine z_iconst C (pc := 20) (v := 1) dX3_isNoCairn_20 (by decide) ?_
    refine z_goto C (pc := 21) (tgt := 25) dX3_isNoCairn_21 (by decide) ?_
    refine z_zret C (pc := 25) () dX3_isNoCairn_25 rfl ?_ rfl
    first | (simp [b2, noCairn, c_1]; done) | (have hn0 : n = 0 := nI_z (by omega) (hn ▸ c_1); simp [b2, noCairn, hn0]; done) | (have hn0 : n ≠ 0 := nI_nz (hn ▸ c_1); simp [b2, noCairn, hn0, c_1])
  · refine z_iload_n C (pc := 5) dX3_isNoCairn_5 rfl ?_
    refine z_iconst C (pc := 6) (v := 5) dX3_isNoCairn_6 (by decide) ?_
    refine z_icmp_gt C (pc := 7) (tgt := 20) dX3_isNoCairn_7 (by decide) (fun c_2 => ?_) (fun c_2 => ?_)
    · refine z_iconst C (pc := 20) (v := 1) dX3_isNoCairn_20 (by decide) ?_
      refine z_goto C (pc := 21) (tgt := 25) dX3_isNoCairn_21 (by decide) ?_
      refine z_zret C (pc := 25) () dX3_isNoCairn_25 rfl ?_ rfl
      first | (simp [b2, noCairn, c_1, c_2]; done) | (have hn0 : n = 0 := nI_z (by omega) (hn ▸ c_2); simp [b2, noCairn, hn0]; done) | (have hn0 : n ≠ 0 := nI_nz (hn ▸ c_2); simp [b2, noCairn, hn0, c_1])
    · refine z_aload_n C (pc := 10) dX3_isNoCairn_10 rfl ?_
      refine z_get C (pc := 11) 0 rfl rfl wf_X3 1 (by decide) rfl wl_X3_19 (v := .ref (a 3)) rfl dX3_isNoCairn_11 ?_
      refine z_getN C (pc := 14) 3 rfl rfl wf_X1 1 (by decide) rfl wl_X3_53 (v := .int (i 4)) rfl dX3_isNoCairn_14 ?_
      refine z_if_ne C (pc := 17) (tgt := 24) dX3_isNoCairn_17 (by decide) (fun c_3 => ?_) (fun c_3 => ?_)
      · refine z_iconst C (pc := 24) (v := 0) dX3_isNoCairn_24 (by decide) ?_
        refine z_zret C (pc := 25) () dX3_isNoCairn_25 rfl ?_ rfl
        first | (simp [b2, noCairn, c_1, c_2, c_3]; done) | (have hn0 : n = 0 := nI_z (by omega) (hn ▸ c_3); simp [b2, noCairn, hn0]; done) | (have hn0 : n ≠ 0 := nI_nz (hn ▸ c_3); simp [b2, noCairn, hn0, c_1, c_2])
      · refine z_iconst C (pc := 20) (v := 1) dX3_isNoCairn_20 (by decide) ?_
        refine z_goto C (pc := 21) (tgt := 25) dX3_isNoCairn_21 (by decide) ?_
        refine z_zret C (pc := 25) () dX3_isNoCairn_25 rfl ?_ rfl
        first | (simp [b2, noCairn, c_1, c_2, c_3]; done) | (have hn0 : n = 0 := nI_z (by omega) (hn ▸ c_3); simp [b2, noCairn, hn0]; done) | (have hn0 : n ≠ 0 := nI_nz (hn ▸ c_3); simp [b2, noCairn, hn0, c_1, c_2])

set_option maxHeartbeats 4000000 in
set_option maxRecDepth 100000 in
theorem c_anyIsDead (l : Launch) (D : va_G) (cI : ClassId) (tt : Nat × Nat × Nat) (a : Nat → Nat) (i : Nat → Int32) (r : Nat → Nat → Int32) (x : Int32) : MetI (S := Unit) l yX3_anyIsDead cX3_anyIsDead 2 (some .boolean) (rm 0 0) D cI tt [.ref (a 0), .int x] (cW cI a i r) (fun q _ => q = b2 (decide (deadv x (i 10) ≠ 0))) (fun _ => cW cI a i r) := by
  refine met_ofI (by decide) (Nat.le_of_ble_eq_true rfl) ?_
  intro pP eE sS mM aV bB mE cC AA C hin
  refine z_conv (lv' := [(0, .ref (a 0)), (1, .int x)]) ⟨rfl, rfl, trivial⟩ rfl rfl ?_
  refine z_iload_n C (pc := 0) dX3_anyIsDead_0 rfl ?_
  refine z_aload_n C (pc := 1) dX3_anyIsDead_1 rfl ?_
  refine z_get C (pc := 2) 0 rfl rfl wf_X3 2 (by decide) rfl wl_X3_26 (v := .ref (a 6)) rfl dX3_anyIsDead_2 ?_
  refine z_getN C (pc := 5) 6 rfl rfl wf_X2 0 (by decide) rfl wl_X3_100 (v := .int (i 10)) rfl dX3_anyIsDead_5 ?_
  refine z_iconst C (pc := 8) (v := (-1)) dX3_anyIsDead_8 (by decide) ?_
  refine z_ixor C (pc := 9) dX3_anyIsDead_9 ?_
  refine z_iand C (pc := 10) dX3_anyIsDead_10 ?_
  refine z_if_eq C (pc := 11) (tgt := 18) dX3_anyIsDead_11 (by decide) (fun c_1 => ?_) (fun c_1 => ?_)
  · refine z_iconst C (pc := 18) (v := 0) dX3_anyIsDead_18 (by decide) ?_
    refine z_zret C (pc := 19) () dX3_anyIsDead_19 rfl ?_ rfl
    first | (have hd : deadv x (i 10) = 0 := c_1; simp [b2, hd]; done) | (have hd : ¬ deadv x (i 10) = 0 := c_1; simp [b2, hd])
  · refine z_iconst C (pc := 14) (v := 1) dX3_anyIsDead_14 (by decide) ?_
    refine z_goto C (pc := 15) (tgt := 19) dX3_anyIsDead_15 (by decide) ?_
    refine z_zret C (pc := 19) () dX3_anyIsDead_19 rfl ?_ rfl
    first | (have hd : deadv x (i 10) = 0 := c_1; simp [b2, hd]; done) | (have hd : ¬ deadv x (i 10) = 0 := c_1; simp [b2, hd])

set_option maxHeartbeats 4000000 in
set_option maxRecDepth 100000 in
theorem c_mostFoodOf (l : Launch) (D : va_G) (cI : ClassId) (tt : Nat × Nat × Nat) (a : Nat → Nat) (i : Nat → Int32) (r : Nat → Nat → Int32) (kd : Nat → Nat) (n : Nat) (hv : PV i r kd n) (x : Nat) (hx : x < 64) : MetI (S := Unit) l yX3_mostFoodOf cX3_mostFoodOf 2 (some .int) (rm 2 45) D cI tt [.ref (a 0), .int (nI x)] (cW cI a i r) (fun q _ => q = nI (min 40 (sumk pls kd x n))) (fun _ => cW cI a i r) := by
  have hn6 := hv.2.1
  have hx6 := pow_le6 hn6
  refine met_ofI (by decide) (Nat.le_of_ble_eq_true rfl) ?_
  intro pP eE sS mM aV bB mE cC AA C hin
  refine z_conv (lv' := [(0, .ref (a 0)), (1, .int (nI x))]) ⟨rfl, rfl, trivial⟩ rfl rfl ?_
  refine z_bipush C (pc := 0) (v := 40) dX3_mostFoodOf_0 (by decide) ?_
  refine z_aload_n C (pc := 2) dX3_mostFoodOf_2 rfl ?_
  refine z_get C (pc := 3) 0 rfl rfl wf_X3 1 (by decide) rfl wl_X3_19 (v := .ref (a 3)) rfl dX3_mostFoodOf_3 ?_
  refine z_iload_n C (pc := 6) dX3_mostFoodOf_6 rfl ?_
  refine z_gets C (pc := 7) C.2.2.2.2.2.2.2.1.1.1 wl_X3_91 dX3_mostFoodOf_7 ?_
  refine z_calliF C (by exact fun _ => cW_ad) (runVN C (wc := (cW cI a i r)) (pc := 10) (rY' := rm 1 21) (nn := 2) (As := [.int (nI x), .ref tt.1]) (rest := [.int 40]) (c_togetherP l D cI tt a i r kd n x hv (by omega)) (full_hC _) (full_nd _) ⟨rfl, rfl, ⟨Nat.le_of_ble_eq_true rfl, Nat.le_of_ble_eq_true rfl⟩, Nat.le_of_ble_eq_true rfl, Nat.le_of_ble_eq_true rfl⟩ wl_X3_192 wm_X1_together we_X1_together wi_X1 wc_X1_together (by decide +kernel) rfl 3 rfl rfl rfl rfl (Nat.le_of_ble_eq_true rfl) dX3_mostFoodOf_10) (fun q_1 u_1 h_1 => ?_)
  subst h_1
  refine z_ws (st' := [.int (nI (sumk pls kd x n)), .int 40]) (ws' := (cW cI a i r)) rfl rfl ?_
  refine z_mmin C (pc := 13) wl_X3_209 (Nat.le_of_ble_eq_true rfl) (Nat.le_of_ble_eq_true rfl) (Nat.zero_le _) (Nat.zero_le _) dX3_mostFoodOf_13 ?_
  refine z_iret C (pc := 16) () dX3_mostFoodOf_16 ?_ rfl
  exact min_nI (x := 40) (by omega) (by have := pl_le (kd := kd) (x := x) hn6; omega)

set_option maxHeartbeats 4000000 in
set_option maxRecDepth 100000 in
theorem c_leastFoodN (l : Launch) (D : va_G) (cI : ClassId) (tt : Nat × Nat × Nat) (a : Nat → Nat) (i : Nat → Int32) (r : Nat → Nat → Int32) (kd : Nat → Nat) (n : Nat) (hv : PV i r kd n) (x st : Nat) (hx : x < 2 ^ n) (hst : st ≤ 6) (c : Nat → Nat) (hc : ∀ k, k < 5 → r 3 k = nI (c k) ∧ c k ≤ 9) : MetI (S := ((Nat → Int32) × (Nat → Nat → Int32))) l yX3_leastFood cX3_leastFood 6 (some .int) (rm 4 92) D cI tt [.ref (a 0), .int (nI x), .int (nI st), .ref (a 7)] (cW cI a i r) (fun q u => q = needv kd n x st c ∧ SP i u.1 ∧ SR r u.2) (fun u => cW cI a u.1 u.2) := by
  have hn6 := hv.2.1
  have hx6 := pow_le6 hn6
  refine met_ofI (by decide) (Nat.le_of_ble_eq_true rfl) ?_
  intro pP eE sS mM aV bB mE cC AA C hin
  refine z_conv (lv' := [(0, .ref (a 0)), (1, .int (nI x)), (2, .int (nI st)), (3, .ref (a 7))]) ⟨rfl, rfl, rfl, rfl, trivial⟩ rfl rfl ?_
  refine z_aload_n C (pc := 0) dX3_leastFood_0 rfl ?_
  refine z_iload_n C (pc := 1) dX3_leastFood_1 rfl ?_
  refine z_calliF C (by exact fun _ => cW_ad) (runV C (wc := (cW cI a i r)) (pc := 2) (rY' := rm 2 45) (nn := 1) (As := [.int (nI x)]) (rest := []) (c_mostFoodOf l D cI tt a i r kd n hv x (by omega)) (full_hC _) (full_nd _) ⟨rfl, rfl, ⟨Nat.le_of_ble_eq_true rfl, Nat.le_of_ble_eq_true rfl⟩, Nat.le_of_ble_eq_true rfl, Nat.le_of_ble_eq_true rfl⟩ wl_X3_214 wm_X3_mostFoodOf we_X3_mostFoodOf wi_X3 wc_X3_mostFoodOf (by decide +kernel) rfl 0 rfl rfl rfl rfl (Nat.le_of_ble_eq_true rfl) dX3_leastFood_2) (fun q_1 u_1 h_1 => ?_)
  subst h_1
  refine z_ws (st' := [.int (nI (min 40 (sumk pls kd x n)))]) (ws' := (cW cI a i r)) rfl rfl ?_
  refine z_istore C (pc := 5) (lv' := [(0, .ref (a 0)), (1, .int (nI x)), (2, .int (nI st)), (3, .ref (a 7)), (4, .int (nI (min 40 (sumk pls kd x n))))]) dX3_leastFood_5 (Nat.le_of_ble_eq_true rfl) rfl rfl ?_
  refine z_iconst C (pc := 7) (v := 0) dX3_leastFood_7 (by decide) ?_
  refine z_istore C (pc := 8) (lv' := [(0, .ref (a 0)), (1, .int (nI x)), (2, .int (nI st)), (3, .ref (a 7)), (4, .int (nI (min 40 (sumk pls kd x n)))), (5, .int 0)]) dX3_leastFood_8 (Nat.le_of_ble_eq_true rfl) rfl rfl ?_
  have key10 : ∀ (fu10 : Nat) (f : Nat) (i' : Nat → Int32) (r' : Nat → Nat → Int32), (min 40 (sumk pls kd x n)) + 1 - f < fu10 → (f ≤ (min 40 (sumk pls kd x n)) + 1) → (SP i i') → (SR r r') → (ndv (homeb kd n x st c) ((min 40 (sumk pls kd x n)) + 1 - f) f = needv kd n x st c) → Z pP l eE (rm 4 92) sS mM aV bB mE cC D AA 6 0 0 (MQ bB (va_Qi (S := ((Nat → Int32) × (Nat → Nat → Int32))) (fun q u => q = needv kd n x st c ∧ SP i u.1 ∧ SR r u.2) (fun u t => va_P D vwCl ((fun u => cW cI a u.1 u.2) u) t.heap) AA) aV sS 0 0 AA) 10 [(0, .ref (a 0)), (1, .int (nI x)), (2, .int (nI st)), (3, .ref (a 7)), (4, .int (nI (min 40 (sumk pls kd x n)))), (5, .int (nI f))] [] (cW cI a i' r') := by
    intro fu10
    induction fu10 with
    | zero => intro f i' r' hfu10; exact absurd hfu10 (Nat.not_lt_zero _)
    | succ fu10 ih10 =>
      intro f i' r' hfu10 hfm hsp hsr heq
      refine z_iload C (pc := 10) dX3_leastFood_10 rfl ?_
      refine z_iload C (pc := 12) dX3_leastFood_12 rfl ?_
      refine z_icmp_gt C (pc := 14) (tgt := 48) dX3_leastFood_14 (by decide) (fun c_2 => ?_) (fun c_2 => ?_)
      · refine z_iconst C (pc := 48) (v := (-1)) dX3_leastFood_48 (by decide) ?_
        refine z_iret C (pc := 49) (i', r') dX3_leastFood_49 ?_ rfl
        have hfe : f = (min 40 (sumk pls kd x n)) + 1 := by
          have := Nat.lt_of_not_le (fun h => nI_nlt (a := (min 40 (sumk pls kd x n))) (b := f) h (by omega) c_2)
          omega
        refine ⟨?_, hsp, hsr⟩
        rw [← heq, hfe, Nat.sub_self]
        rfl
      · have hfl : f ≤ (min 40 (sumk pls kd x n)) := Nat.le_of_not_lt (fun h => c_2 (nI_lt h (by omega)))
        refine z_aload_n C (pc := 17) dX3_leastFood_17 rfl ?_
        refine z_get C (pc := 18) 0 rfl rfl wf_X3 1 (by decide) rfl wl_X3_19 (v := .ref (a 3)) rfl dX3_leastFood_18 ?_
        refine z_aload_n C (pc := 21) dX3_leastFood_21 rfl ?_
        refine z_callvF C (by exact fun _ => cW_ad) (runVN C (wc := (cW cI a i' r')) (pc := 22) (rY' := rm 2 44) (nn := 1) (As := [.ref (a 7)]) (rest := []) (c_setCairnsN l D cI tt a i' r') (full_hC _) (full_nd _) ⟨rfl, rfl, ⟨Nat.le_of_ble_eq_true rfl, Nat.le_of_ble_eq_true rfl⟩, Nat.le_of_ble_eq_true rfl, Nat.le_of_ble_eq_true rfl⟩ wl_X3_124 wm_X1_setCairns we_X1_setCairns wi_X1 wc_X1_setCairns (by decide +kernel) rfl 3 rfl rfl rfl rfl (Nat.le_of_ble_eq_true rfl) dX3_leastFood_22) (fun u_3 h_3 => ?_)
        generalize u_3 = r3 at h_3 ⊢
        obtain ⟨g1, g2⟩ := h_3
        have hsr2 := hsr.tr g1
        have hv2 := hv.sp hsp hsr2
        have hc2 : ∀ k, k < 5 → r3 2 k = nI (c k) ∧ c k ≤ 9 := fun k hk => ⟨(g2 k hk).trans ((congrFun (hsr 3 (by decide)) k).trans (hc k hk).1), (hc k hk).2⟩
        refine z_ws (st' := []) (ws' := (cW cI a i' r3)) rfl rfl ?_
        refine z_aload_n C (pc := 25) dX3_leastFood_25 rfl ?_
        refine z_get C (pc := 26) 0 rfl rfl wf_X3 1 (by decide) rfl wl_X3_19 (v := .ref (a 3)) rfl dX3_leastFood_26 ?_
        refine z_iload_n C (pc := 29) dX3_leastFood_29 rfl ?_
        refine z_iload_n C (pc := 30) dX3_leastFood_30 rfl ?_
        refine z_iload C (pc := 31) dX3_leastFood_31 rfl ?_
        refine z_calliF C (by exact fun _ => cW_ad) (runVN C (wc := (cW cI a i' r3)) (pc := 33) (rY' := rm 3 67) (nn := 3) (As := [.int (nI x), .int (nI st), .int (nI f)]) (rest := []) (c_go l D cI tt a i' r3 kd n x st f hv2 hx hst (by omega) c hc2) (full_hC _) (full_nd _) ⟨rfl, rfl, ⟨Nat.le_of_ble_eq_true rfl, Nat.le_of_ble_eq_true rfl⟩, Nat.le_of_ble_eq_true rfl, Nat.le_of_ble_eq_true rfl⟩ wl_X3_128 wm_X1_go we_X1_go wi_X1 wc_X1_go (by decide +kernel) rfl 3 rfl rfl rfl rfl (Nat.le_of_ble_eq_true rfl) dX3_leastFood_33) (fun q_4 u_4 h_4 => ?_)
        obtain ⟨i4, r4⟩ := u_4
        try dsimp only at h_4
        obtain ⟨k0, k1, k2, -⟩ := h_4
        refine z_ws (st' := [.int q_4]) (ws' := (cW cI a i4 r4)) rfl rfl ?_
        refine z_if_eq C (pc := 36) (tgt := 42) dX3_leastFood_36 (by decide) (fun c_5 => ?_) (fun c_5 => ?_)
        · have hne : (homeb kd n x st c) f = false := by
            unfold homeb
            by_cases e : (marv kd n x st f c).2.2.2 = 0
            · rw [k0, if_pos e] at c_5; exact absurd c_5 (by decide)
            · exact decide_eq_false e
          refine z_iinc C (pc := 42) (v := ((nI f) + 1)) (lv' := [(0, .ref (a 0)), (1, .int (nI x)), (2, .int (nI st)), (3, .ref (a 7)), (4, .int (nI (min 40 (sumk pls kd x n)))), (5, .int ((nI f) + 1))]) dX3_leastFood_42 rfl rfl (Nat.le_of_ble_eq_true rfl) rfl rfl ?_
          refine z_goto C (pc := 45) (tgt := 10) dX3_leastFood_45 (by decide) ?_
          refine z_lv (lv' := [(0, .ref (a 0)), (1, .int (nI x)), (2, .int (nI st)), (3, .ref (a 7)), (4, .int (nI (min 40 (sumk pls kd x n)))), (5, .int (nI (f + 1)))]) ⟨rfl, rfl, rfl, rfl, rfl, lki (nI_1 f), trivial⟩ ?_
          exact ih10 (f + 1) i4 r4 (by omega) (by omega) (hsp.tr k1) (hsr2.tr k2) (by rw [← heq, show (min 40 (sumk pls kd x n)) + 1 - f = ((min 40 (sumk pls kd x n)) + 1 - (f + 1)) + 1 by omega, show ((min 40 (sumk pls kd x n)) + 1 - (f + 1)) = ((min 40 (sumk pls kd x n)) - f) by omega]; show _ = (if _ then _ else _); rw [if_neg (by rw [hne]; decide)])
        · have hho : (homeb kd n x st c) f = true := by
            unfold homeb
            by_cases e : (marv kd n x st f c).2.2.2 = 0
            · exact decide_eq_true e
            · rw [k0, if_neg e] at c_5; exact absurd rfl c_5
          refine z_iload C (pc := 39) dX3_leastFood_39 rfl ?_
          refine z_iret C (pc := 41) (i4, r4) dX3_leastFood_41 ?_ rfl
          refine ⟨?_, hsp.tr k1, hsr2.tr k2⟩
          rw [← heq, show (min 40 (sumk pls kd x n)) + 1 - f = ((min 40 (sumk pls kd x n)) - f) + 1 by omega]
          unfold ndv
          rw [if_pos hho]
  refine z_lv (lv' := [(0, .ref (a 0)), (1, .int (nI x)), (2, .int (nI st)), (3, .ref (a 7)), (4, .int (nI (min 40 (sumk pls kd x n)))), (5, .int (nI 0))]) ⟨rfl, rfl, rfl, rfl, rfl, rfl, trivial⟩ ?_
  exact key10 (_ + 1) 0 i r (Nat.lt_succ_self _) (Nat.zero_le _) SP.rf SR.rf need_cap

set_option maxHeartbeats 4000000 in
set_option maxRecDepth 100000 in
theorem c_leastFoodW (l : Launch) (D : va_G) (cI : ClassId) (tt : Nat × Nat × Nat) (a : Nat → Nat) (i : Nat → Int32) (r : Nat → Nat → Int32) (kd : Nat → Nat) (n : Nat) (hv : PV i r kd n) (x st : Nat) (hx : x < 2 ^ n) (hst : st ≤ 6) (c : Nat → Nat) (hc : ∀ k, k < 5 → r 13 k = nI (c k) ∧ c k ≤ 9) : MetI (S := ((Nat → Int32) × (Nat → Nat → Int32))) l yX3_leastFood cX3_leastFood 6 (some .int) (rm 4 92) D cI tt [.ref (a 0), .int (nI x), .int (nI st), .ref (a 18)] (cW cI a i r) (fun q u => q = needv kd n x st c ∧ SP i u.1 ∧ SR r u.2) (fun u => cW cI a u.1 u.2) := by
  have hn6 := hv.2.1
  have hx6 := pow_le6 hn6
  refine met_ofI (by decide) (Nat.le_of_ble_eq_true rfl) ?_
  intro pP eE sS mM aV bB mE cC AA C hin
  refine z_conv (lv' := [(0, .ref (a 0)), (1, .int (nI x)), (2, .int (nI st)), (3, .ref (a 18))]) ⟨rfl, rfl, rfl, rfl, trivial⟩ rfl rfl ?_
  refine z_aload_n C (pc := 0) dX3_leastFood_0 rfl ?_
  refine z_iload_n C (pc := 1) dX3_leastFood_1 rfl ?_
  refine z_calliF C (by exact fun _ => cW_ad) (runV C (wc := (cW cI a i r)) (pc := 2) (rY' := rm 2 45) (nn := 1) (As := [.int (nI x)]) (rest := []) (c_mostFoodOf l D cI tt a i r kd n hv x (by omega)) (full_hC _) (full_nd _) ⟨rfl, rfl, ⟨Nat.le_of_ble_eq_true rfl, Nat.le_of_ble_eq_true rfl⟩, Nat.le_of_ble_eq_true rfl, Nat.le_of_ble_eq_true rfl⟩ wl_X3_214 wm_X3_mostFoodOf we_X3_mostFoodOf wi_X3 wc_X3_mostFoodOf (by decide +kernel) rfl 0 rfl rfl rfl rfl (Nat.le_of_ble_eq_true rfl) dX3_leastFood_2) (fun q_1 u_1 h_1 => ?_)
  subst h_1
  refine z_ws (st' := [.int (nI (min 40 (sumk pls kd x n)))]) (ws' := (cW cI a i r)) rfl rfl ?_
  refine z_istore C (pc := 5) (lv' := [(0, .ref (a 0)), (1, .int (nI x)), (2, .int (nI st)), (3, .ref (a 18)), (4, .int (nI (min 40 (sumk pls kd x n))))]) dX3_leastFood_5 (Nat.le_of_ble_eq_true rfl) rfl rfl ?_
  refine z_iconst C (pc := 7) (v := 0) dX3_leastFood_7 (by decide) ?_
  refine z_istore C (pc := 8) (lv' := [(0, .ref (a 0)), (1, .int (nI x)), (2, .int (nI st)), (3, .ref (a 18)), (4, .int (nI (min 40 (sumk pls kd x n)))), (5, .int 0)]) dX3_leastFood_8 (Nat.le_of_ble_eq_true rfl) rfl rfl ?_
  have key10 : ∀ (fu10 : Nat) (f : Nat) (i' : Nat → Int32) (r' : Nat → Nat → Int32), (min 40 (sumk pls kd x n)) + 1 - f < fu10 → (f ≤ (min 40 (sumk pls kd x n)) + 1) → (SP i i') → (SR r r') → (ndv (homeb kd n x st c) ((min 40 (sumk pls kd x n)) + 1 - f) f = needv kd n x st c) → Z pP l eE (rm 4 92) sS mM aV bB mE cC D AA 6 0 0 (MQ bB (va_Qi (S := ((Nat → Int32) × (Nat → Nat → Int32))) (fun q u => q = needv kd n x st c ∧ SP i u.1 ∧ SR r u.2) (fun u t => va_P D vwCl ((fun u => cW cI a u.1 u.2) u) t.heap) AA) aV sS 0 0 AA) 10 [(0, .ref (a 0)), (1, .int (nI x)), (2, .int (nI st)), (3, .ref (a 18)), (4, .int (nI (min 40 (sumk pls kd x n)))), (5, .int (nI f))] [] (cW cI a i' r') := by
    intro fu10
    induction fu10 with
    | zero => intro f i' r' hfu10; exact absurd hfu10 (Nat.not_lt_zero _)
    | succ fu10 ih10 =>
      intro f i' r' hfu10 hfm hsp hsr heq
      refine z_iload C (pc := 10) dX3_leastFood_10 rfl ?_
      refine z_iload C (pc := 12) dX3_leastFood_12 rfl ?_
      refine z_icmp_gt C (pc := 14) (tgt := 48) dX3_leastFood_14 (by decide) (fun c_2 => ?_) (fun c_2 => ?_)
      · refine z_iconst C (pc := 48) (v := (-1)) dX3_leastFood_48 (by decide) ?_
        refine z_iret C (pc := 49) (i', r') dX3_leastFood_49 ?_ rfl
        have hfe : f = (min 40 (sumk pls kd x n)) + 1 := by
          have := Nat.lt_of_not_le (fun h => nI_nlt (a := (min 40 (sumk pls kd x n))) (b := f) h (by omega) c_2)
          omega
        refine ⟨?_, hsp, hsr⟩
        rw [← heq, hfe, Nat.sub_self]
        rfl
      · have hfl : f ≤ (min 40 (sumk pls kd x n)) := Nat.le_of_not_lt (fun h => c_2 (nI_lt h (by omega)))
        refine z_aload_n C (pc := 17) dX3_leastFood_17 rfl ?_
        refine z_get C (pc := 18) 0 rfl rfl wf_X3 1 (by decide) rfl wl_X3_19 (v := .ref (a 3)) rfl dX3_leastFood_18 ?_
        refine z_aload_n C (pc := 21) dX3_leastFood_21 rfl ?_
        refine z_callvF C (by exact fun _ => cW_ad) (runVN C (wc := (cW cI a i' r')) (pc := 22) (rY' := rm 2 44) (nn := 1) (As := [.ref (a 18)]) (rest := []) (c_setCairnsW l D cI tt a i' r') (full_hC _) (full_nd _) ⟨rfl, rfl, ⟨Nat.le_of_ble_eq_true rfl, Nat.le_of_ble_eq_true rfl⟩, Nat.le_of_ble_eq_true rfl, Nat.le_of_ble_eq_true rfl⟩ wl_X3_124 wm_X1_setCairns we_X1_setCairns wi_X1 wc_X1_setCairns (by decide +kernel) rfl 3 rfl rfl rfl rfl (Nat.le_of_ble_eq_true rfl) dX3_leastFood_22) (fun u_3 h_3 => ?_)
        generalize u_3 = r3 at h_3 ⊢
        obtain ⟨g1, g2⟩ := h_3
        have hsr2 := hsr.tr g1
        have hv2 := hv.sp hsp hsr2
        have hc2 : ∀ k, k < 5 → r3 2 k = nI (c k) ∧ c k ≤ 9 := fun k hk => ⟨(g2 k hk).trans ((congrFun (hsr 13 (by decide)) k).trans (hc k hk).1), (hc k hk).2⟩
        refine z_ws (st' := []) (ws' := (cW cI a i' r3)) rfl rfl ?_
        refine z_aload_n C (pc := 25) dX3_leastFood_25 rfl ?_
        refine z_get C (pc := 26) 0 rfl rfl wf_X3 1 (by decide) rfl wl_X3_19 (v := .ref (a 3)) rfl dX3_leastFood_26 ?_
        refine z_iload_n C (pc := 29) dX3_leastFood_29 rfl ?_
        refine z_iload_n C (pc := 30) dX3_leastFood_30 rfl ?_
        refine z_iload C (pc := 31) dX3_leastFood_31 rfl ?_
        refine z_calliF C (by exact fun _ => cW_ad) (runVN C (wc := (cW cI a i' r3)) (pc := 33) (rY' := rm 3 67) (nn := 3) (As := [.int (nI x), .int (nI st), .int (nI f)]) (rest := []) (c_go l D cI tt a i' r3 kd n x st f hv2 hx hst (by omega) c hc2) (full_hC _) (full_nd _) ⟨rfl, rfl, ⟨Nat.le_of_ble_eq_true rfl, Nat.le_of_ble_eq_true rfl⟩, Nat.le_of_ble_eq_true rfl, Nat.le_of_ble_eq_true rfl⟩ wl_X3_128 wm_X1_go we_X1_go wi_X1 wc_X1_go (by decide +kernel) rfl 3 rfl rfl rfl rfl (Nat.le_of_ble_eq_true rfl) dX3_leastFood_33) (fun q_4 u_4 h_4 => ?_)
        obtain ⟨i4, r4⟩ := u_4
        try dsimp only at h_4
        obtain ⟨k0, k1, k2, -⟩ := h_4
        refine z_ws (st' := [.int q_4]) (ws' := (cW cI a i4 r4)) rfl rfl ?_
        refine z_if_eq C (pc := 36) (tgt := 42) dX3_leastFood_36 (by decide) (fun c_5 => ?_) (fun c_5 => ?_)
        · have hne : (homeb kd n x st c) f = false := by
            unfold homeb
            by_cases e : (marv kd n x st f c).2.2.2 = 0
            · rw [k0, if_pos e] at c_5; exact absurd c_5 (by decide)
            · exact decide_eq_false e
          refine z_iinc C (pc := 42) (v := ((nI f) + 1)) (lv' := [(0, .ref (a 0)), (1, .int (nI x)), (2, .int (nI st)), (3, .ref (a 18)), (4, .int (nI (min 40 (sumk pls kd x n)))), (5, .int ((nI f) + 1))]) dX3_leastFood_42 rfl rfl (Nat.le_of_ble_eq_true rfl) rfl rfl ?_
          refine z_goto C (pc := 45) (tgt := 10) dX3_leastFood_45 (by decide) ?_
          refine z_lv (lv' := [(0, .ref (a 0)), (1, .int (nI x)), (2, .int (nI st)), (3, .ref (a 18)), (4, .int (nI (min 40 (sumk pls kd x n)))), (5, .int (nI (f + 1)))]) ⟨rfl, rfl, rfl, rfl, rfl, lki (nI_1 f), trivial⟩ ?_
          exact ih10 (f + 1) i4 r4 (by omega) (by omega) (hsp.tr k1) (hsr2.tr k2) (by rw [← heq, show (min 40 (sumk pls kd x n)) + 1 - f = ((min 40 (sumk pls kd x n)) + 1 - (f + 1)) + 1 by omega, show ((min 40 (sumk pls kd x n)) + 1 - (f + 1)) = ((min 40 (sumk pls kd x n)) - f) by omega]; show _ = (if _ then _ else _); rw [if_neg (by rw [hne]; decide)])
        · have hho : (homeb kd n x st c) f = true := by
            unfold homeb
            by_cases e : (marv kd n x st f c).2.2.2 = 0
            · exact decide_eq_true e
            · rw [k0, if_neg e] at c_5; exact absurd rfl c_5
          refine z_iload C (pc := 39) dX3_leastFood_39 rfl ?_
          refine z_iret C (pc := 41) (i4, r4) dX3_leastFood_41 ?_ rfl
          refine ⟨?_, hsp.tr k1, hsr2.tr k2⟩
          rw [← heq, show (min 40 (sumk pls kd x n)) + 1 - f = ((min 40 (sumk pls kd x n)) - f) + 1 by omega]
          unfold ndv
          rw [if_pos hho]
  refine z_lv (lv' := [(0, .ref (a 0)), (1, .int (nI x)), (2, .int (nI st)), (3, .ref (a 18)), (4, .int (nI (min 40 (sumk pls kd x n)))), (5, .int (nI 0))]) ⟨rfl, rfl, rfl, rfl, rfl, rfl, trivial⟩ ?_
  exact key10 (_ + 1) 0 i r (Nat.lt_succ_self _) (Nat.zero_le _) SP.rf SR.rf need_cap
end
section
theorem need_ne {x : Int32} (h : ¬ x = -1) : decide (x ≠ -1) = true := decide_eq_true h
theorem frv_s {P : Nat → Bool} {s : Nat} (h : P (s + 1) = true) : frv P (s + 1) = s + 1 := by show (if _ then _ else _) = _; rw [if_pos h]
theorem frv_n {P : Nat → Bool} {s : Nat} (h : P (s + 1) = false) : frv P (s + 1) = frv P s := by show (if _ then _ else _) = _; rw [if_neg (by rw [h]; decide)]
theorem tmv_s {ok : Nat → Bool} {s : Nat} (h : ok (s + 1) = true ∧ pcn (s + 1) < (tmv ok s).2) : tmv ok (s + 1) = (s + 1, pcn (s + 1)) := by show (if _ then _ else _) = _; rw [if_pos h]
theorem tmv_n {ok : Nat → Bool} {s : Nat} (h : ¬ (ok (s + 1) = true ∧ pcn (s + 1) < (tmv ok s).2)) : tmv ok (s + 1) = tmv ok s := by show (if _ then _ else _) = _; rw [if_neg h]
theorem noneI_s {b : Nat} (h : b ≠ 0) : noneI b = nI b := if_neg h
theorem lt_nI_of {x y : Nat} (hx : x < 2 ^ 31) (hy : y < 2 ^ 31) : nI x < nI y ↔ x < y := nI_ltI hx hy
set_option maxHeartbeats 4000000 in
set_option maxRecDepth 100000 in
theorem c_farthestN (l : Launch) (D : va_G) (cI : ClassId) (tt : Nat × Nat × Nat) (a : Nat → Nat) (i : Nat → Int32) (r : Nat → Nat → Int32) (kd : Nat → Nat) (n : Nat) (hv : PV i r kd n) (x : Nat) (hx : x < 2 ^ n) (c : Nat → Nat) (hc : ∀ k, k < 5 → r 3 k = nI (c k) ∧ c k ≤ 9) : MetI (S := ((Nat → Int32) × (Nat → Nat → Int32))) l yX3_farthest cX3_farthest 4 (some .int) (rm 5 117) D cI tt [.ref (a 0), .int (nI x), .ref (a 7)] (cW cI a i r) (fun q u => q = nI (farv kd n x c) ∧ SP i u.1 ∧ SR r u.2) (fun u => cW cI a u.1 u.2) := by
  have hn6 := hv.2.1
  have hx6 := pow_le6 hn6
  refine met_ofI (by decide) (Nat.le_of_ble_eq_true rfl) ?_
  intro pP eE sS mM aV bB mE cC AA C hin
  refine z_conv (lv' := [(0, .ref (a 0)), (1, .int (nI x)), (2, .ref (a 7))]) ⟨rfl, rfl, rfl, trivial⟩ rfl rfl ?_
  refine z_bipush C (pc := 0) (v := 6) dX3_farthest_0 (by decide) ?_
  refine z_istore_n C (pc := 2) (lv' := [(0, .ref (a 0)), (1, .int (nI x)), (2, .ref (a 7)), (3, .int 6)]) dX3_farthest_2 (Nat.le_of_ble_eq_true rfl) rfl rfl ?_
  have key3 : ∀ (fu3 : Nat) (st : Nat) (i' : Nat → Int32) (r' : Nat → Nat → Int32), st < fu3 → (st ≤ 6) → (SP i i') → (SR r r') → (frv (farb kd n x c) st = farv kd n x c) → Z pP l eE (rm 5 117) sS mM aV bB mE cC D AA 4 0 0 (MQ bB (va_Qi (S := ((Nat → Int32) × (Nat → Nat → Int32))) (fun q u => q = nI (farv kd n x c) ∧ SP i u.1 ∧ SR r u.2) (fun u t => va_P D vwCl ((fun u => cW cI a u.1 u.2) u) t.heap) AA) aV sS 0 0 AA) 3 [(0, .ref (a 0)), (1, .int (nI x)), (2, .ref (a 7)), (3, .int (nI st))] [] (cW cI a i' r') := by
    intro fu3
    induction fu3 with
    | zero => intro st i' r' hfu3; exact absurd hfu3 (Nat.not_lt_zero _)
    | succ fu3 ih3 =>
      intro st i' r' hfu3 hs6 hsp hsr heq
      refine z_iload_n C (pc := 3) dX3_farthest_3 rfl ?_
      refine z_iconst C (pc := 4) (v := 1) dX3_farthest_4 (by decide) ?_
      refine z_icmp_lt C (pc := 5) (tgt := 31) dX3_farthest_5 (by decide) (fun c_1 => ?_) (fun c_1 => ?_)
      · have h0 : st = 0 := by
          have := lt_of_nI (n := 1) (i_nle.mpr c_1) (by omega)
          omega
        subst h0
        refine z_iconst C (pc := 31) (v := 0) dX3_farthest_31 (by decide) ?_
        refine z_iret C (pc := 32) (i', r') dX3_farthest_32 ?_ rfl
        exact ⟨by rw [← heq]; rfl, hsp, hsr⟩
      · obtain ⟨k, rfl⟩ : ∃ k, st = k + 1 := ⟨st - 1, by have h0 : st ≠ 0 := (fun h => c_1 (by rw [h]; decide)); omega⟩
        have hv2 := hv.sp hsp hsr
        have hc2 : ∀ k, k < 5 → r' 3 k = nI (c k) ∧ c k ≤ 9 := fun k hk => ⟨(congrFun (hsr 3 (by decide)) k).trans (hc k hk).1, (hc k hk).2⟩
        refine z_iload_n C (pc := 8) dX3_farthest_8 rfl ?_
        refine z_if_eq C (pc := 9) (tgt := 25) dX3_farthest_9 (by decide) (fun c_2 => ?_) (fun c_2 => ?_)
        · have hx0 : x = 0 := nI_z (by omega) c_2
          have hP : (farb kd n x c) (k + 1) = false := by unfold farb; rw [decide_eq_false (fun h => h hx0)]; rfl
          refine z_iinc C (pc := 25) (v := ((nI (k + 1)) + (-1))) (lv' := [(0, .ref (a 0)), (1, .int (nI x)), (2, .ref (a 7)), (3, .int ((nI (k + 1)) + (-1)))]) dX3_farthest_25 rfl rfl (Nat.le_of_ble_eq_true rfl) rfl rfl ?_
          refine z_goto C (pc := 28) (tgt := 3) dX3_farthest_28 (by decide) ?_
          refine z_lv (lv' := [(0, .ref (a 0)), (1, .int (nI x)), (2, .ref (a 7)), (3, .int (nI k))]) ⟨rfl, rfl, rfl, lki (pk_m1 k), trivial⟩ ?_
          exact ih3 k i' r' (by omega) (by omega) hsp hsr ((frv_n hP).symm.trans heq)
        · have hx0 : x ≠ 0 := nI_nz c_2
          refine z_aload_n C (pc := 12) dX3_farthest_12 rfl ?_
          refine z_iload_n C (pc := 13) dX3_farthest_13 rfl ?_
          refine z_iload_n C (pc := 14) dX3_farthest_14 rfl ?_
          refine z_aload_n C (pc := 15) dX3_farthest_15 rfl ?_
          refine z_calliF C (by exact fun _ => cW_ad) (runV C (wc := (cW cI a i' r')) (pc := 16) (rY' := rm 4 92) (nn := 3) (As := [.int (nI x), .int (nI (k + 1)), .ref (a 7)]) (rest := []) (c_leastFoodN l D cI tt a i' r' kd n hv2 x (k + 1) hx hs6 c hc2) (full_hC _) (full_nd _) ⟨rfl, rfl, ⟨Nat.le_of_ble_eq_true rfl, Nat.le_of_ble_eq_true rfl⟩, Nat.le_of_ble_eq_true rfl, Nat.le_of_ble_eq_true rfl⟩ wl_X3_159 wm_X3_leastFood we_X3_leastFood wi_X3 wc_X3_leastFood (by decide +kernel) rfl 0 rfl rfl rfl rfl (Nat.le_of_ble_eq_true rfl) dX3_farthest_16) (fun q_3 u_3 h_3 => ?_)
          obtain ⟨i3, r3⟩ := u_3
          try dsimp only at h_3
          obtain ⟨k0, k1, k2⟩ := h_3
          refine z_ws (st' := [.int q_3]) (ws' := (cW cI a i3 r3)) rfl rfl ?_
          refine z_iconst C (pc := 19) (v := (-1)) dX3_farthest_19 (by decide) ?_
          refine z_icmp_eq C (pc := 20) (tgt := 25) dX3_farthest_20 (by decide) (fun c_4 => ?_) (fun c_4 => ?_)
          · have hP : (farb kd n x c) (k + 1) = false := by unfold farb; rw [decide_eq_false (p := needv kd n x (k + 1) c ≠ -1) (fun h => h (k0 ▸ c_4)), Bool.and_false]
            refine z_iinc C (pc := 25) (v := ((nI (k + 1)) + (-1))) (lv' := [(0, .ref (a 0)), (1, .int (nI x)), (2, .ref (a 7)), (3, .int ((nI (k + 1)) + (-1)))]) dX3_farthest_25 rfl rfl (Nat.le_of_ble_eq_true rfl) rfl rfl ?_
            refine z_goto C (pc := 28) (tgt := 3) dX3_farthest_28 (by decide) ?_
            refine z_lv (lv' := [(0, .ref (a 0)), (1, .int (nI x)), (2, .ref (a 7)), (3, .int (nI k))]) ⟨rfl, rfl, rfl, lki (pk_m1 k), trivial⟩ ?_
            exact ih3 k i3 r3 (by omega) (by omega) (hsp.tr k1) (hsr.tr k2) ((frv_n hP).symm.trans heq)
          · have hP : (farb kd n x c) (k + 1) = true := by unfold farb; rw [decide_eq_true hx0, decide_eq_true (p := needv kd n x (k + 1) c ≠ -1) (fun h => c_4 (k0.trans h))]; rfl
            refine z_iload_n C (pc := 23) dX3_farthest_23 rfl ?_
            refine z_iret C (pc := 24) (i3, r3) dX3_farthest_24 ?_ rfl
            exact ⟨by rw [← heq, frv_s hP], hsp.tr k1, hsr.tr k2⟩
  refine z_lv (lv' := [(0, .ref (a 0)), (1, .int (nI x)), (2, .ref (a 7)), (3, .int (nI 6))]) ⟨rfl, rfl, rfl, rfl, trivial⟩ ?_
  exact key3 (_ + 1) 6 i r (Nat.lt_succ_self _) (Nat.le_refl _) SP.rf SR.rf rfl

set_option maxHeartbeats 4000000 in
set_option maxRecDepth 100000 in
theorem c_farthestW (l : Launch) (D : va_G) (cI : ClassId) (tt : Nat × Nat × Nat) (a : Nat → Nat) (i : Nat → Int32) (r : Nat → Nat → Int32) (kd : Nat → Nat) (n : Nat) (hv : PV i r kd n) (x : Nat) (hx : x < 2 ^ n) (c : Nat → Nat) (hc : ∀ k, k < 5 → r 13 k = nI (c k) ∧ c k ≤ 9) : MetI (S := ((Nat → Int32) × (Nat → Nat → Int32))) l yX3_farthest cX3_farthest 4 (some .int) (rm 5 117) D cI tt [.ref (a 0), .int (nI x), .ref (a 18)] (cW cI a i r) (fun q u => q = nI (farv kd n x c) ∧ SP i u.1 ∧ SR r u.2) (fun u => cW cI a u.1 u.2) := by
  have hn6 := hv.2.1
  have hx6 := pow_le6 hn6
  refine met_ofI (by decide) (Nat.le_of_ble_eq_true rfl) ?_
  intro pP eE sS mM aV bB mE cC AA C hin
  refine z_conv (lv' := [(0, .ref (a 0)), (1, .int (nI x)), (2, .ref (a 18))]) ⟨rfl, rfl, rfl, trivial⟩ rfl rfl ?_
  refine z_bipush C (pc := 0) (v := 6) dX3_farthest_0 (by decide) ?_
  refine z_istore_n C (pc := 2) (lv' := [(0, .ref (a 0)), (1, .int (nI x)), (2, .ref (a 18)), (3, .int 6)]) dX3_farthest_2 (Nat.le_of_ble_eq_true rfl) rfl rfl ?_
  have key3 : ∀ (fu3 : Nat) (st : Nat) (i' : Nat → Int32) (r' : Nat → Nat → Int32), st < fu3 → (st ≤ 6) → (SP i i') → (SR r r') → (frv (farb kd n x c) st = farv kd n x c) → Z pP l eE (rm 5 117) sS mM aV bB mE cC D AA 4 0 0 (MQ bB (va_Qi (S := ((Nat → Int32) × (Nat → Nat → Int32))) (fun q u => q = nI (farv kd n x c) ∧ SP i u.1 ∧ SR r u.2) (fun u t => va_P D vwCl ((fun u => cW cI a u.1 u.2) u) t.heap) AA) aV sS 0 0 AA) 3 [(0, .ref (a 0)), (1, .int (nI x)), (2, .ref (a 18)), (3, .int (nI st))] [] (cW cI a i' r') := by
    intro fu3
    induction fu3 with
    | zero => intro st i' r' hfu3; exact absurd hfu3 (Nat.not_lt_zero _)
    | succ fu3 ih3 =>
      intro st i' r' hfu3 hs6 hsp hsr heq
      refine z_iload_n C (pc := 3) dX3_farthest_3 rfl ?_
      refine z_iconst C (pc := 4) (v := 1) dX3_farthest_4 (by decide) ?_
      refine z_icmp_lt C (pc := 5) (tgt := 31) dX3_farthest_5 (by decide) (fun c_1 => ?_) (fun c_1 => ?_)
      · have h0 : st = 0 := by
          have := lt_of_nI (n := 1) (i_nle.mpr c_1) (by omega)
          omega
        subst h0
        refine z_iconst C (pc := 31) (v := 0) dX3_farthest_31 (by decide) ?_
        refine z_iret C (pc := 32) (i', r') dX3_farthest_32 ?_ rfl
        exact ⟨by rw [← heq]; rfl, hsp, hsr⟩
      · obtain ⟨k, rfl⟩ : ∃ k, st = k + 1 := ⟨st - 1, by have h0 : st ≠ 0 := (fun h => c_1 (by rw [h]; decide)); omega⟩
        have hv2 := hv.sp hsp hsr
        have hc2 : ∀ k, k < 5 → r' 13 k = nI (c k) ∧ c k ≤ 9 := fun k hk => ⟨(congrFun (hsr 13 (by decide)) k).trans (hc k hk).1, (hc k hk).2⟩
        refine z_iload_n C (pc := 8) dX3_farthest_8 rfl ?_
        refine z_if_eq C (pc := 9) (tgt := 25) dX3_farthest_9 (by decide) (fun c_2 => ?_) (fun c_2 => ?_)
        · have hx0 : x = 0 := nI_z (by omega) c_2
          have hP : (farb kd n x c) (k + 1) = false := by unfold farb; rw [decide_eq_false (fun h => h hx0)]; rfl
          refine z_iinc C (pc := 25) (v := ((nI (k + 1)) + (-1))) (lv' := [(0, .ref (a 0)), (1, .int (nI x)), (2, .ref (a 18)), (3, .int ((nI (k + 1)) + (-1)))]) dX3_farthest_25 rfl rfl (Nat.le_of_ble_eq_true rfl) rfl rfl ?_
          refine z_goto C (pc := 28) (tgt := 3) dX3_farthest_28 (by decide) ?_
          refine z_lv (lv' := [(0, .ref (a 0)), (1, .int (nI x)), (2, .ref (a 18)), (3, .int (nI k))]) ⟨rfl, rfl, rfl, lki (pk_m1 k), trivial⟩ ?_
          exact ih3 k i' r' (by omega) (by omega) hsp hsr ((frv_n hP).symm.trans heq)
        · have hx0 : x ≠ 0 := nI_nz c_2
          refine z_aload_n C (pc := 12) dX3_farthest_12 rfl ?_
          refine z_iload_n C (pc := 13) dX3_farthest_13 rfl ?_
          refine z_iload_n C (pc := 14) dX3_farthest_14 rfl ?_
          refine z_aload_n C (pc := 15) dX3_farthest_15 rfl ?_
          refine z_calliF C (by exact fun _ => cW_ad) (runV C (wc := (cW cI a i' r')) (pc := 16) (rY' := rm 4 92) (nn := 3) (As := [.int (nI x), .int (nI (k + 1)), .ref (a 18)]) (rest := []) (c_leastFoodW l D cI tt a i' r' kd n hv2 x (k + 1) hx hs6 c hc2) (full_hC _) (full_nd _) ⟨rfl, rfl, ⟨Nat.le_of_ble_eq_true rfl, Nat.le_of_ble_eq_true rfl⟩, Nat.le_of_ble_eq_true rfl, Nat.le_of_ble_eq_true rfl⟩ wl_X3_159 wm_X3_leastFood we_X3_leastFood wi_X3 wc_X3_leastFood (by decide +kernel) rfl 0 rfl rfl rfl rfl (Nat.le_of_ble_eq_true rfl) dX3_farthest_16) (fun q_3 u_3 h_3 => ?_)
          obtain ⟨i3, r3⟩ := u_3
          try dsimp only at h_3
          obtain ⟨k0, k1, k2⟩ := h_3
          refine z_ws (st' := [.int q_3]) (ws' := (cW cI a i3 r3)) rfl rfl ?_
          refine z_iconst C (pc := 19) (v := (-1)) dX3_farthest_19 (by decide) ?_
          refine z_icmp_eq C (pc := 20) (tgt := 25) dX3_farthest_20 (by decide) (fun c_4 => ?_) (fun c_4 => ?_)
          · have hP : (farb kd n x c) (k + 1) = false := by unfold farb; rw [decide_eq_false (p := needv kd n x (k + 1) c ≠ -1) (fun h => h (k0 ▸ c_4)), Bool.and_false]
            refine z_iinc C (pc := 25) (v := ((nI (k + 1)) + (-1))) (lv' := [(0, .ref (a 0)), (1, .int (nI x)), (2, .ref (a 18)), (3, .int ((nI (k + 1)) + (-1)))]) dX3_farthest_25 rfl rfl (Nat.le_of_ble_eq_true rfl) rfl rfl ?_
            refine z_goto C (pc := 28) (tgt := 3) dX3_farthest_28 (by decide) ?_
            refine z_lv (lv' := [(0, .ref (a 0)), (1, .int (nI x)), (2, .ref (a 18)), (3, .int (nI k))]) ⟨rfl, rfl, rfl, lki (pk_m1 k), trivial⟩ ?_
            exact ih3 k i3 r3 (by omega) (by omega) (hsp.tr k1) (hsr.tr k2) ((frv_n hP).symm.trans heq)
          · have hP : (farb kd n x c) (k + 1) = true := by unfold farb; rw [decide_eq_true hx0, decide_eq_true (p := needv kd n x (k + 1) c ≠ -1) (fun h => c_4 (k0.trans h))]; rfl
            refine z_iload_n C (pc := 23) dX3_farthest_23 rfl ?_
            refine z_iret C (pc := 24) (i3, r3) dX3_farthest_24 ?_ rfl
            exact ⟨by rw [← heq, frv_s hP], hsp.tr k1, hsr.tr k2⟩
  refine z_lv (lv' := [(0, .ref (a 0)), (1, .int (nI x)), (2, .ref (a 18)), (3, .int (nI 6))]) ⟨rfl, rfl, rfl, rfl, trivial⟩ ?_
  exact key3 (_ + 1) 6 i r (Nat.lt_succ_self _) (Nat.le_refl _) SP.rf SR.rf rfl
end
section
/-- what is heard -/
def HV (i : Nat → Int32) (r : Nat → Nat → Int32) (n hn : Nat) (hm hs hf hh : Nat → Nat) : Prop := i 13 = nI hn ∧ hn ≤ 6 ∧ ∀ k, k < hn → (r 4 k = nI (hm k) ∧ hm k < 2 ^ n) ∧ (r 5 k = nI (hs k) ∧ hs k ≤ 6) ∧ (r 6 k = nI (hf k) ∧ hf k ≤ 40) ∧ r 7 k = nI (hh k) ∧ hh k ≤ 1
theorem HV.sp {i i' : Nat → Int32} {r r' : Nat → Nat → Int32} {n hn : Nat} {hm hs hf hh : Nat → Nat} (h : HV i r n hn hm hs hf hh) (hi : SP i i') (hr : SR r r') : HV i' r' n hn hm hs hf hh := ⟨(hi 13 (by omega)).trans h.1, h.2.1, fun k hk => by rw [hr 4 (by decide), hr 5 (by decide), hr 6 (by decide), hr 7 (by decide)]; exact h.2.2 k hk⟩
theorem upN_le {c : Nat → Nat} {q v : Nat} (hc : ∀ k, k < 5 → c k ≤ 9) (hv : v ≤ 9) : ∀ k, k < 5 → upN c q v k ≤ 9 := fun k hk => by unfold upN; split <;> first | exact hv | exact hc k hk
theorem put_up {f : Nat → Int32} {c : Nat → Nat} {q v : Nat} (h0 : 1 ≤ q) (h5 : q < 6) (hf : ∀ k, k < 5 → f k = nI (c k)) : ∀ k, k < 5 → putv 5 f (nI q - 1) (nI v) k = nI (upN c (q - 1) v k) := fun k hk => by
  rw [put_c h5, if_neg (by omega)]
  unfold upd upN
  by_cases e : k = q - 1
  · rw [if_pos e, if_pos e]
  · rw [if_neg e, if_neg e]; exact hf k hk
theorem b2_1 {b : Bool} (h : b2 b = 1) : b = true := b2_t (by rw [h]; decide)
theorem b2_n1 {b : Bool} (h : ¬ b2 b = 1) : b = false := by cases b <;> first | rfl | exact absurd rfl h
theorem mar_b2 {d : Nat} : (if d = 0 then (1 : Int32) else 0) = b2 (decide (d = 0)) := by unfold b2; by_cases h : d = 0 <;> simp [h]
theorem mar_home {kd : Nat → Nat} {n x st f : Nat} {c : Nat → Nat} : (if (marv kd n x st f c).2.2.2 = 0 then (1 : Int32) else 0) = b2 (homeb kd n x st c f) := mar_b2
theorem alls_s {S : Nat → Bool} {p : Nat} (h : alls S p = true) (h2 : S p = true) : alls S (p + 1) = true := by show (alls S p && S p) = true; rw [h, h2]; rfl
theorem alls_n {S : Nat → Bool} {p m : Nat} (h2 : S p = false) (hm : p < m) : alls S m = false := by
  have h1 : alls S (p + 1) = false := by show (alls S p && S p) = false; rw [h2, Bool.and_false]
  have := alls_f h1 (m - (p + 1))
  rwa [show p + 1 + (m - (p + 1)) = m by omega] at this
theorem lyv_t {P : Nat → Bool} {v : Nat} (h : P v = true) : lyv P (v + 1) = lyv P v + 2 ^ v := by show lyv P v + (if _ then _ else _) = _; rw [if_pos h]
theorem lyv_f {P : Nat → Bool} {v : Nat} (h : P v = false) : lyv P (v + 1) = lyv P v := by show lyv P v + (if _ then _ else _) = _; rw [if_neg (by rw [h]; decide)]; rfl
theorem hcv_t {H : Nat → Bool} {b v : Nat} (h : bt b v = 1) (h2 : H v = true) : hcv H b (v + 1) = hcv H b v + 1 := by show hcv H b v + (if _ then _ else _) = _; rw [if_pos ⟨h, h2⟩]
theorem hcv_f {H : Nat → Bool} {b v : Nat} (h : ¬ (bt b v = 1 ∧ H v = true)) : hcv H b (v + 1) = hcv H b v := by show hcv H b v + (if _ then _ else _) = _; rw [if_neg h]; rfl
theorem trv_s {w : Nat → Nat} {l f : Nat} (h : w f < (trv w l f).2) : trv w l (f + 1) = (nI f, w f) := by show (if _ then _ else _) = _; rw [if_pos h]
theorem trv_n {w : Nat → Nat} {l f : Nat} (h : ¬ w f < (trv w l f).2) : trv w l (f + 1) = trv w l f := by show (if _ then _ else _) = _; rw [if_neg h]
theorem trv_b {w : Nat → Nat} {l B : Nat} (hl : l ≤ B) (hw : ∀ f, w f ≤ B) : ∀ f, (trv w l f).2 ≤ B
  | 0 => hl
  | f + 1 => by
    by_cases h : w f < (trv w l f).2
    · rw [trv_s h]; exact hw f
    · rw [trv_n h]; exact trv_b hl hw f
theorem max_nI {x y : Nat} (hx : x < 2 ^ 31) (hy : y < 2 ^ 31) : (if nI x < nI y then nI y else nI x) = nI (max x y) := by
  by_cases h : x < y
  · rw [if_pos (nI_lt h hy), Nat.max_eq_right (by omega)]
  · rw [if_neg (nI_nlt (by omega) hx), Nat.max_eq_left (by omega)]
set_option maxHeartbeats 4000000 in
set_option maxRecDepth 100000 in
theorem c_isAllSo (l : Launch) (D : va_G) (cI : ClassId) (tt : Nat × Nat × Nat) (a : Nat → Nat) (i : Nat → Int32) (r : Nat → Nat → Int32) (kd : Nat → Nat) (n : Nat) (hv : PV i r kd n) (c : Nat → Nat) (hc : ∀ k, k < 5 → r 3 k = nI (c k) ∧ c k ≤ 9) (hn : Nat) (hm hs hf hh : Nat → Nat) (hh0 : HV i r n hn hm hs hf hh) (q v : Nat) (hq1 : 1 ≤ q) (hq5 : q < 6) (hv9 : v ≤ 9) : MetI (S := ((Nat → Int32) × (Nat → Nat → Int32))) l yX3_isAllSo cX3_isAllSo 6 (some .boolean) (rm 4 92) D cI tt [.ref (a 0), .int (nI q), .int (nI v)] (cW cI a i r) (fun z u => z = b2 (alls (sob kd n hm hs hf hh (upN c (q - 1) v)) hn) ∧ SP i u.1 ∧ SR r u.2) (fun u => cW cI a u.1 u.2) := by
  have hn6 := hv.2.1
  have hx6 := pow_le6 hn6
  refine met_ofI (by decide) (Nat.le_of_ble_eq_true rfl) ?_
  intro pP eE sS mM aV bB mE cC AA C hin
  refine z_conv (lv' := [(0, .ref (a 0)), (1, .int (nI q)), (2, .int (nI v))]) ⟨rfl, rfl, rfl, trivial⟩ rfl rfl ?_
  refine z_iconst C (pc := 0) (v := 0) dX3_isAllSo_0 (by decide) ?_
  refine z_istore_n C (pc := 1) (lv' := [(0, .ref (a 0)), (1, .int (nI q)), (2, .int (nI v)), (3, .int 0)]) dX3_isAllSo_1 (Nat.le_of_ble_eq_true rfl) rfl rfl ?_
  have key2 : ∀ (fu2 : Nat) (k : Nat) (i' : Nat → Int32) (r' : Nat → Nat → Int32), hn - k < fu2 → (k ≤ hn) → (SP i i') → (SR r r') → (alls (sob kd n hm hs hf hh (upN c (q - 1) v)) k = true) → Z pP l eE (rm 4 92) sS mM aV bB mE cC D AA 6 0 0 (MQ bB (va_Qi (S := ((Nat → Int32) × (Nat → Nat → Int32))) (fun z u => z = b2 (alls (sob kd n hm hs hf hh (upN c (q - 1) v)) hn) ∧ SP i u.1 ∧ SR r u.2) (fun u t => va_P D vwCl ((fun u => cW cI a u.1 u.2) u) t.heap) AA) aV sS 0 0 AA) 2 [(0, .ref (a 0)), (1, .int (nI q)), (2, .int (nI v)), (3, .int (nI k))] [] (cW cI a i' r') := by
    intro fu2
    induction fu2 with
    | zero => intro k i' r' hfu2; exact absurd hfu2 (Nat.not_lt_zero _)
    | succ fu2 ih2 =>
      intro k i' r' hfu2 hkn hsp hsr hal
      refine z_iload_n C (pc := 2) dX3_isAllSo_2 rfl ?_
      refine z_aload_n C (pc := 3) dX3_isAllSo_3 rfl ?_
      refine z_get C (pc := 4) 0 rfl rfl wf_X3 2 (by decide) rfl wl_X3_26 (v := .ref (a 6)) rfl dX3_isAllSo_4 ?_
      refine z_getN C (pc := 7) 6 rfl rfl wf_X2 4 (by decide) rfl wl_X3_173 (v := .int (i' 13)) rfl dX3_isAllSo_7 ?_
      refine z_icmp_ge C (pc := 10) (tgt := 120) dX3_isAllSo_10 (by decide) (fun c_1 => ?_) (fun c_1 => ?_)
      · refine z_iconst C (pc := 120) (v := 1) dX3_isAllSo_120 (by decide) ?_
        refine z_zret C (pc := 121) (i', r') dX3_isAllSo_121 rfl ?_ rfl
        have hhn := hh0.2.1
        rw [(hsp 13 (by omega)).trans hh0.1] at c_1
        have hke : k = hn := by
          have := ge_of_nI c_1 (by have := hh0.2.1; omega)
          omega
        subst hke
        exact ⟨by rw [hal]; rfl, hsp, hsr⟩
      · have hhn := hh0.2.1
        rw [(hsp 13 (by omega)).trans hh0.1] at c_1
        have hk : k < hn := lt_of_nI c_1 (by omega)
        have hq0 := (hh0.2.2 k hk)
        refine z_aload_n C (pc := 13) dX3_isAllSo_13 rfl ?_
        refine z_get C (pc := 14) 0 rfl rfl wf_X3 1 (by decide) rfl wl_X3_19 (v := .ref (a 3)) rfl dX3_isAllSo_14 ?_
        refine z_aload_n C (pc := 17) dX3_isAllSo_17 rfl ?_
        refine z_get C (pc := 18) 0 rfl rfl wf_X3 2 (by decide) rfl wl_X3_26 (v := .ref (a 6)) rfl dX3_isAllSo_18 ?_
        refine z_getN C (pc := 21) 6 rfl rfl wf_X2 1 (by decide) rfl wl_X3_77 (v := .ref (a 7)) rfl dX3_isAllSo_21 ?_
        refine z_callvF C (by exact fun _ => cW_ad) (runVN C (wc := (cW cI a i' r')) (pc := 24) (rY' := rm 2 44) (nn := 1) (As := [.ref (a 7)]) (rest := []) (c_setCairnsN l D cI tt a i' r') (full_hC _) (full_nd _) ⟨rfl, rfl, ⟨Nat.le_of_ble_eq_true rfl, Nat.le_of_ble_eq_true rfl⟩, Nat.le_of_ble_eq_true rfl, Nat.le_of_ble_eq_true rfl⟩ wl_X3_124 wm_X1_setCairns we_X1_setCairns wi_X1 wc_X1_setCairns (by decide +kernel) rfl 3 rfl rfl rfl rfl (Nat.le_of_ble_eq_true rfl) dX3_isAllSo_24) (fun u_2 h_2 => ?_)
        generalize u_2 = r2 at h_2 ⊢
        obtain ⟨g1, g2⟩ := h_2
        have hsr2 := hsr.tr g1
        have hc2 : ∀ k, k < 5 → r2 2 k = nI (c k) := fun k hk => (g2 k hk).trans ((congrFun (hsr 3 (by decide)) k).trans (hc k hk).1)
        refine z_ws (st' := []) (ws' := (cW cI a i' r2)) rfl rfl ?_
        refine z_aload_n C (pc := 27) dX3_isAllSo_27 rfl ?_
        refine z_get C (pc := 28) 0 rfl rfl wf_X3 1 (by decide) rfl wl_X3_19 (v := .ref (a 3)) rfl dX3_isAllSo_28 ?_
        refine z_getN C (pc := 31) 3 rfl rfl wf_X1 2 (by decide) rfl wl_X3_132 (v := .ref (a 5)) rfl dX3_isAllSo_31 ?_
        refine z_iload_n C (pc := 34) dX3_isAllSo_34 rfl ?_
        refine z_iconst C (pc := 35) (v := 1) dX3_isAllSo_35 (by decide) ?_
        refine z_isub C (pc := 36) dX3_isAllSo_36 ?_
        refine z_iload_n C (pc := 37) dX3_isAllSo_37 rfl ?_
        refine z_callv C (isC := [5]) rfl (by exact fun _ => rfl) (runS C (wc := [(a 5, .inl (cI, 5, .inl (r2 2)))]) (pc := 38) (rY' := rm 0 0) (nn := 3) (As := [.ref (a 5), .int ((nI q) - 1), .int (nI v)]) (rest := []) (c_put l D cI tt (a 5) 5 (r2 2) ((nI q) - 1) (nI v) (by decide)) rfl rfl ⟨rfl, rfl, ⟨Nat.le_of_ble_eq_true rfl, Nat.le_of_ble_eq_true rfl⟩, Nat.le_of_ble_eq_true rfl, Nat.le_of_ble_eq_true rfl⟩ wl_X3_66 ws_X3_put wi_X3 wc_X3_put (by decide +kernel) rfl rfl (Nat.le_of_ble_eq_true rfl) dX3_isAllSo_38) (fun u_3 h_3 => ?_)
        subst h_3
        refine z_ws (st' := []) (ws' := (cW cI a i' (va_up r2 2 (putv 5 (r2 2) ((nI q) - 1) (nI v))))) rfl rfl ?_
        have hv3 := hv.sp hsp (hsr2.up (v := putv 5 (r2 2) (nI q - 1) (nI v)))
        have hc3 : ∀ k, k < 5 → va_up r2 2 (putv 5 (r2 2) (nI q - 1) (nI v)) 2 k = nI (upN c (q - 1) v k) ∧ upN c (q - 1) v k ≤ 9 := fun k hk => ⟨by rw [vup_s]; exact put_up hq1 hq5 hc2 k hk, upN_le (fun k hk => (hc k hk).2) hv9 k hk⟩
        refine z_aload_n C (pc := 41) dX3_isAllSo_41 rfl ?_
        refine z_get C (pc := 42) 0 rfl rfl wf_X3 2 (by decide) rfl wl_X3_26 (v := .ref (a 6)) rfl dX3_isAllSo_42 ?_
        refine z_getN C (pc := 45) 6 rfl rfl wf_X2 6 (by decide) rfl wl_X3_220 (v := .ref (a 9)) rfl dX3_isAllSo_45 ?_
        refine z_iload_n C (pc := 48) dX3_isAllSo_48 rfl ?_
        refine z_calli C (isC := [9]) rfl (by exact fun _ => rfl) (runS C (wc := [(a 9, .inl (cI, 6, .inl (r2 5)))]) (pc := 49) (rY' := rm 0 0) (nn := 2) (As := [.ref (a 9), .int (nI k)]) (rest := []) (c_at l D cI tt (a 9) 6 (r2 5) (nI k) (by decide)) rfl rfl ⟨rfl, rfl, ⟨Nat.le_of_ble_eq_true rfl, Nat.le_of_ble_eq_true rfl⟩, Nat.le_of_ble_eq_true rfl, Nat.le_of_ble_eq_true rfl⟩ wl_X3_87 ws_X3_at wi_X3 wc_X3_at (by decide +kernel) rfl rfl (Nat.le_of_ble_eq_true rfl) dX3_isAllSo_49) (fun r_4 u_4 h_4 => ?_)
        have h_4 : r_4 = (nI (hs k)) := h_4.trans ((atv_nI (by omega) (by decide)).trans ((congrFun (hsr2 5 (by decide)) k).trans hq0.2.1.1))
        subst h_4
        refine z_ws (st' := [.int (nI (hs k))]) (ws' := (cW cI a i' (va_up r2 2 (putv 5 (r2 2) ((nI q) - 1) (nI v))))) rfl rfl ?_
        refine z_istore C (pc := 52) (lv' := [(0, .ref (a 0)), (1, .int (nI q)), (2, .int (nI v)), (3, .int (nI k)), (4, .int (nI (hs k)))]) dX3_isAllSo_52 (Nat.le_of_ble_eq_true rfl) rfl rfl ?_
        refine z_aload_n C (pc := 54) dX3_isAllSo_54 rfl ?_
        refine z_get C (pc := 55) 0 rfl rfl wf_X3 1 (by decide) rfl wl_X3_19 (v := .ref (a 3)) rfl dX3_isAllSo_55 ?_
        refine z_aload_n C (pc := 58) dX3_isAllSo_58 rfl ?_
        refine z_get C (pc := 59) 0 rfl rfl wf_X3 2 (by decide) rfl wl_X3_26 (v := .ref (a 6)) rfl dX3_isAllSo_59 ?_
        refine z_getN C (pc := 62) 6 rfl rfl wf_X2 5 (by decide) rfl wl_X3_223 (v := .ref (a 8)) rfl dX3_isAllSo_62 ?_
        refine z_iload_n C (pc := 65) dX3_isAllSo_65 rfl ?_
        refine z_calli C (isC := [8]) rfl (by exact fun _ => rfl) (runS C (wc := [(a 8, .inl (cI, 6, .inl (r2 4)))]) (pc := 66) (rY' := rm 0 0) (nn := 2) (As := [.ref (a 8), .int (nI k)]) (rest := [.ref (a 3)]) (c_at l D cI tt (a 8) 6 (r2 4) (nI k) (by decide)) rfl rfl ⟨rfl, rfl, ⟨Nat.le_of_ble_eq_true rfl, Nat.le_of_ble_eq_true rfl⟩, Nat.le_of_ble_eq_true rfl, Nat.le_of_ble_eq_true rfl⟩ wl_X3_87 ws_X3_at wi_X3 wc_X3_at (by decide +kernel) rfl rfl (Nat.le_of_ble_eq_true rfl) dX3_isAllSo_66) (fun r_5 u_5 h_5 => ?_)
        have h_5 : r_5 = (nI (hm k)) := h_5.trans ((atv_nI (by omega) (by decide)).trans ((congrFun (hsr2 4 (by decide)) k).trans hq0.1.1))
        subst h_5
        refine z_ws (st' := [.int (nI (hm k)), .ref (a 3)]) (ws' := (cW cI a i' (va_up r2 2 (putv 5 (r2 2) ((nI q) - 1) (nI v))))) rfl rfl ?_
        refine z_iload C (pc := 69) dX3_isAllSo_69 rfl ?_
        refine z_aload_n C (pc := 71) dX3_isAllSo_71 rfl ?_
        refine z_get C (pc := 72) 0 rfl rfl wf_X3 2 (by decide) rfl wl_X3_26 (v := .ref (a 6)) rfl dX3_isAllSo_72 ?_
        refine z_getN C (pc := 75) 6 rfl rfl wf_X2 7 (by decide) rfl wl_X3_226 (v := .ref (a 10)) rfl dX3_isAllSo_75 ?_
        refine z_iload_n C (pc := 78) dX3_isAllSo_78 rfl ?_
        refine z_calli C (isC := [10]) rfl (by exact fun _ => rfl) (runS C (wc := [(a 10, .inl (cI, 6, .inl (r2 6)))]) (pc := 79) (rY' := rm 0 0) (nn := 2) (As := [.ref (a 10), .int (nI k)]) (rest := [.int (nI (hs k)), .int (nI (hm k)), .ref (a 3)]) (c_at l D cI tt (a 10) 6 (r2 6) (nI k) (by decide)) rfl rfl ⟨rfl, rfl, ⟨Nat.le_of_ble_eq_true rfl, Nat.le_of_ble_eq_true rfl⟩, Nat.le_of_ble_eq_true rfl, Nat.le_of_ble_eq_true rfl⟩ wl_X3_87 ws_X3_at wi_X3 wc_X3_at (by decide +kernel) rfl rfl (Nat.le_of_ble_eq_true rfl) dX3_isAllSo_79) (fun r_6 u_6 h_6 => ?_)
        have h_6 : r_6 = (nI (hf k)) := h_6.trans ((atv_nI (by omega) (by decide)).trans ((congrFun (hsr2 6 (by decide)) k).trans hq0.2.2.1.1))
        subst h_6
        refine z_ws (st' := [.int (nI (hf k)), .int (nI (hs k)), .int (nI (hm k)), .ref (a 3)]) (ws' := (cW cI a i' (va_up r2 2 (putv 5 (r2 2) ((nI q) - 1) (nI v))))) rfl rfl ?_
        refine z_calliF C (by exact fun _ => cW_ad) (runVN C (wc := (cW cI a i' (va_up r2 2 (putv 5 (r2 2) ((nI q) - 1) (nI v))))) (pc := 82) (rY' := rm 3 67) (nn := 3) (As := [.int (nI (hm k)), .int (nI (hs k)), .int (nI (hf k))]) (rest := []) (c_go l D cI tt a i' (va_up r2 2 (putv 5 (r2 2) ((nI q) - 1) (nI v))) kd n (hm k) (hs k) (hf k) hv3 hq0.1.2 hq0.2.1.2 hq0.2.2.1.2 (upN c (q - 1) v) hc3) (full_hC _) (full_nd _) ⟨rfl, rfl, ⟨Nat.le_of_ble_eq_true rfl, Nat.le_of_ble_eq_true rfl⟩, Nat.le_of_ble_eq_true rfl, Nat.le_of_ble_eq_true rfl⟩ wl_X3_128 wm_X1_go we_X1_go wi_X1 wc_X1_go (by decide +kernel) rfl 3 rfl rfl rfl rfl (Nat.le_of_ble_eq_true rfl) dX3_isAllSo_82) (fun q_7 u_7 h_7 => ?_)
        obtain ⟨i7, r7⟩ := u_7
        try dsimp only at h_7
        obtain ⟨k0, k1, k2, -⟩ := h_7
        rw [mar_home] at k0
        subst k0
        refine z_ws (st' := [.int (b2 (homeb kd n (hm k) (hs k) (upN c (q - 1) v) (hf k)))]) (ws' := (cW cI a i7 r7)) rfl rfl ?_
        refine z_istore C (pc := 85) (lv' := [(0, .ref (a 0)), (1, .int (nI q)), (2, .int (nI v)), (3, .int (nI k)), (4, .int (nI (hs k))), (5, .int (b2 (homeb kd n (hm k) (hs k) (upN c (q - 1) v) (hf k))))]) dX3_isAllSo_85 (Nat.le_of_ble_eq_true rfl) rfl rfl ?_
        refine z_iload C (pc := 87) dX3_isAllSo_87 rfl ?_
        refine z_aload_n C (pc := 89) dX3_isAllSo_89 rfl ?_
        refine z_get C (pc := 90) 0 rfl rfl wf_X3 2 (by decide) rfl wl_X3_26 (v := .ref (a 6)) rfl dX3_isAllSo_90 ?_
        refine z_getN C (pc := 93) 6 rfl rfl wf_X2 8 (by decide) rfl wl_X3_229 (v := .ref (a 11)) rfl dX3_isAllSo_93 ?_
        refine z_iload_n C (pc := 96) dX3_isAllSo_96 rfl ?_
        refine z_calli C (isC := [11]) rfl (by exact fun _ => rfl) (runS C (wc := [(a 11, .inl (cI, 6, .inl (r7 7)))]) (pc := 97) (rY' := rm 0 0) (nn := 2) (As := [.ref (a 11), .int (nI k)]) (rest := [.int (b2 (homeb kd n (hm k) (hs k) (upN c (q - 1) v) (hf k)))]) (c_at l D cI tt (a 11) 6 (r7 7) (nI k) (by decide)) rfl rfl ⟨rfl, rfl, ⟨Nat.le_of_ble_eq_true rfl, Nat.le_of_ble_eq_true rfl⟩, Nat.le_of_ble_eq_true rfl, Nat.le_of_ble_eq_true rfl⟩ wl_X3_87 ws_X3_at wi_X3 wc_X3_at (by decide +kernel) rfl rfl (Nat.le_of_ble_eq_true rfl) dX3_isAllSo_97) (fun r_8 u_8 h_8 => ?_)
        have h_8 : r_8 = (nI (hh k)) := h_8.trans ((atv_nI (by omega) (by decide)).trans ((congrFun ((hsr2.up.tr k2) 7 (by decide)) k).trans hq0.2.2.2.1))
        subst h_8
        refine z_ws (st' := [.int (nI (hh k)), .int (b2 (homeb kd n (hm k) (hs k) (upN c (q - 1) v) (hf k)))]) (ws' := (cW cI a i7 r7)) rfl rfl ?_
        refine z_iconst C (pc := 100) (v := 1) dX3_isAllSo_100 (by decide) ?_
        refine z_icmp_ne C (pc := 101) (tgt := 108) dX3_isAllSo_101 (by decide) (fun c_9 => ?_) (fun c_9 => ?_)
        · have hh1 : ¬ hh k = 1 := fun h => c_9 ((nI_eq1 (by have := hq0.2.2.2.2; omega)).mpr h)
          refine z_iconst C (pc := 108) (v := 0) dX3_isAllSo_108 (by decide) ?_
          refine z_icmp_eq C (pc := 109) (tgt := 114) dX3_isAllSo_109 (by decide) (fun c_10 => ?_) (fun c_10 => ?_)
          · have hso : (sob kd n hm hs hf hh (upN c (q - 1) v)) k = true := by
              unfold sob
              rw [decide_eq_false hh1]
              exact by rw [b2_f c_10]; rfl
            refine z_iinc C (pc := 114) (v := ((nI k) + 1)) (lv' := [(0, .ref (a 0)), (1, .int (nI q)), (2, .int (nI v)), (3, .int ((nI k) + 1)), (4, .int (nI (hs k))), (5, .int (b2 (homeb kd n (hm k) (hs k) (upN c (q - 1) v) (hf k))))]) dX3_isAllSo_114 rfl rfl (Nat.le_of_ble_eq_true rfl) rfl rfl ?_
            refine z_goto C (pc := 117) (tgt := 2) dX3_isAllSo_117 (by decide) ?_
            refine z_lv (lv' := [(0, .ref (a 0)), (1, .int (nI q)), (2, .int (nI v)), (3, .int (nI (k + 1)))]) ⟨rfl, rfl, rfl, lki (nI_1 k), trivial⟩ ?_
            exact ih2 (k + 1) i7 r7 (by omega) hk (hsp.tr k1) (hsr2.up.tr k2) (alls_s hal hso)
          · have hso : (sob kd n hm hs hf hh (upN c (q - 1) v)) k = false := by
              unfold sob
              rw [decide_eq_false hh1]
              exact by rw [b2_t c_10]; rfl
            refine z_iconst C (pc := 112) (v := 0) dX3_isAllSo_112 (by decide) ?_
            refine z_zret C (pc := 113) (i7, r7) dX3_isAllSo_113 rfl ?_ rfl
            exact ⟨by rw [alls_n hso hk]; rfl, hsp.tr k1, hsr2.up.tr k2⟩
        · have hh1 : hh k = 1 := (nI_eq1 (by have := hq0.2.2.2.2; omega)).mp c_9
          refine z_iconst C (pc := 104) (v := 1) dX3_isAllSo_104 (by decide) ?_
          refine z_goto C (pc := 105) (tgt := 109) dX3_isAllSo_105 (by decide) ?_
          refine z_icmp_eq C (pc := 109) (tgt := 114) dX3_isAllSo_109 (by decide) (fun c_11 => ?_) (fun c_11 => ?_)
          · have hso : (sob kd n hm hs hf hh (upN c (q - 1) v)) k = true := by
              unfold sob
              rw [decide_eq_true hh1]
              exact by rw [b2_1 c_11]; rfl
            refine z_iinc C (pc := 114) (v := ((nI k) + 1)) (lv' := [(0, .ref (a 0)), (1, .int (nI q)), (2, .int (nI v)), (3, .int ((nI k) + 1)), (4, .int (nI (hs k))), (5, .int (b2 (homeb kd n (hm k) (hs k) (upN c (q - 1) v) (hf k))))]) dX3_isAllSo_114 rfl rfl (Nat.le_of_ble_eq_true rfl) rfl rfl ?_
            refine z_goto C (pc := 117) (tgt := 2) dX3_isAllSo_117 (by decide) ?_
            refine z_lv (lv' := [(0, .ref (a 0)), (1, .int (nI q)), (2, .int (nI v)), (3, .int (nI (k + 1)))]) ⟨rfl, rfl, rfl, lki (nI_1 k), trivial⟩ ?_
            exact ih2 (k + 1) i7 r7 (by omega) hk (hsp.tr k1) (hsr2.up.tr k2) (alls_s hal hso)
          · have hso : (sob kd n hm hs hf hh (upN c (q - 1) v)) k = false := by
              unfold sob
              rw [decide_eq_true hh1]
              exact by rw [b2_n1 c_11]; rfl
            refine z_iconst C (pc := 112) (v := 0) dX3_isAllSo_112 (by decide) ?_
            refine z_zret C (pc := 113) (i7, r7) dX3_isAllSo_113 rfl ?_ rfl
            exact ⟨by rw [alls_n hso hk]; rfl, hsp.tr k1, hsr2.up.tr k2⟩
  refine z_lv (lv' := [(0, .ref (a 0)), (1, .int (nI q)), (2, .int (nI v)), (3, .int (nI 0))]) ⟨rfl, rfl, rfl, rfl, trivial⟩ ?_
  exact key2 (_ + 1) 0 i r (Nat.lt_succ_self _) (Nat.zero_le _) SP.rf SR.rf rfl
end
section
set_option maxHeartbeats 4000000 in
set_option maxRecDepth 100000 in
theorem c_amountsAt (l : Launch) (D : va_G) (cI : ClassId) (tt : Nat × Nat × Nat) (a : Nat → Nat) (i : Nat → Int32) (r : Nat → Nat → Int32) (kd : Nat → Nat) (n : Nat) (hv : PV i r kd n) (c : Nat → Nat) (hc : ∀ k, k < 5 → r 3 k = nI (c k) ∧ c k ≤ 9) (hn : Nat) (hm hs hf hh : Nat → Nat) (hh0 : HV i r n hn hm hs hf hh) (q : Nat) (hq1 : 1 ≤ q) (hq5 : q < 6) : MetI (S := ((Nat → Int32) × (Nat → Nat → Int32))) l yX3_amountsAt cX3_amountsAt 4 (some .int) (rm 5 117) D cI tt [.ref (a 0), .int (nI q)] (cW cI a i r) (fun z u => z = nI (layv kd n c hn hm hs hf hh q) ∧ SP i u.1 ∧ SR r u.2) (fun u => cW cI a u.1 u.2) := by
  have hn6 := hv.2.1
  have hx6 := pow_le6 hn6
  refine met_ofI (by decide) (Nat.le_of_ble_eq_true rfl) ?_
  intro pP eE sS mM aV bB mE cC AA C hin
  refine z_conv (lv' := [(0, .ref (a 0)), (1, .int (nI q))]) ⟨rfl, rfl, trivial⟩ rfl rfl ?_
  refine z_iconst C (pc := 0) (v := 0) dX3_amountsAt_0 (by decide) ?_
  refine z_istore_n C (pc := 1) (lv' := [(0, .ref (a 0)), (1, .int (nI q)), (2, .int 0)]) dX3_amountsAt_1 (Nat.le_of_ble_eq_true rfl) rfl rfl ?_
  refine z_iconst C (pc := 2) (v := 0) dX3_amountsAt_2 (by decide) ?_
  refine z_istore_n C (pc := 3) (lv' := [(0, .ref (a 0)), (1, .int (nI q)), (2, .int 0), (3, .int 0)]) dX3_amountsAt_3 (Nat.le_of_ble_eq_true rfl) rfl rfl ?_
  have key4 : ∀ (fu4 : Nat) (v : Nat) (i' : Nat → Int32) (r' : Nat → Nat → Int32), 10 - v < fu4 → (v ≤ 10) → (SP i i') → (SR r r') → Z pP l eE (rm 5 117) sS mM aV bB mE cC D AA 4 0 0 (MQ bB (va_Qi (S := ((Nat → Int32) × (Nat → Nat → Int32))) (fun z u => z = nI (layv kd n c hn hm hs hf hh q) ∧ SP i u.1 ∧ SR r u.2) (fun u t => va_P D vwCl ((fun u => cW cI a u.1 u.2) u) t.heap) AA) aV sS 0 0 AA) 4 [(0, .ref (a 0)), (1, .int (nI q)), (2, .int (nI (lyv (fun v => alls (sob kd n hm hs hf hh (upN c (q - 1) v)) hn) v))), (3, .int (nI v))] [] (cW cI a i' r') := by
    intro fu4
    induction fu4 with
    | zero => intro v i' r' hfu4; exact absurd hfu4 (Nat.not_lt_zero _)
    | succ fu4 ih4 =>
      intro v i' r' hfu4 hv10 hsp hsr
      refine z_iload_n C (pc := 4) dX3_amountsAt_4 rfl ?_
      refine z_bipush C (pc := 5) (v := 9) dX3_amountsAt_5 (by decide) ?_
      refine z_icmp_gt C (pc := 7) (tgt := 31) dX3_amountsAt_7 (by decide) (fun c_1 => ?_) (fun c_1 => ?_)
      · refine z_iload_n C (pc := 31) dX3_amountsAt_31 rfl ?_
        refine z_iret C (pc := 32) (i', r') dX3_amountsAt_32 ?_ rfl
        have hve : v = 10 := by
          have := Nat.lt_of_not_le (fun h => nI_nlt (a := 9) (b := v) h (by omega) c_1)
          omega
        subst hve
        exact ⟨rfl, hsp, hsr⟩
      · have hv9 : v ≤ 9 := Nat.le_of_not_lt (fun h => c_1 (nI_lt (a := 9) h (by omega)))
        have hc2 : ∀ k, k < 5 → r' 3 k = nI (c k) ∧ c k ≤ 9 := fun k hk => ⟨(congrFun (hsr 3 (by decide)) k).trans (hc k hk).1, (hc k hk).2⟩
        refine z_aload_n C (pc := 10) dX3_amountsAt_10 rfl ?_
        refine z_iload_n C (pc := 11) dX3_amountsAt_11 rfl ?_
        refine z_iload_n C (pc := 12) dX3_amountsAt_12 rfl ?_
        refine z_calliF C (by exact fun _ => cW_ad) (runV C (wc := (cW cI a i' r')) (pc := 13) (rY' := rm 4 92) (nn := 2) (As := [.int (nI q), .int (nI v)]) (rest := []) (c_isAllSo l D cI tt a i' r' kd n (hv.sp hsp hsr) c hc2 hn hm hs hf hh (hh0.sp hsp hsr) q v hq1 hq5 hv9) (full_hC _) (full_nd _) ⟨rfl, rfl, ⟨Nat.le_of_ble_eq_true rfl, Nat.le_of_ble_eq_true rfl⟩, Nat.le_of_ble_eq_true rfl, Nat.le_of_ble_eq_true rfl⟩ wl_X3_217 wm_X3_isAllSo we_X3_isAllSo wi_X3 wc_X3_isAllSo (by decide +kernel) rfl 0 rfl rfl rfl rfl (Nat.le_of_ble_eq_true rfl) dX3_amountsAt_13) (fun z_2 u_2 h_2 => ?_)
        obtain ⟨i2, r2⟩ := u_2
        try dsimp only at h_2
        obtain ⟨k0, k1, k2⟩ := h_2
        refine z_ws (st' := [.int z_2]) (ws' := (cW cI a i2 r2)) rfl rfl ?_
        refine z_if_eq C (pc := 16) (tgt := 25) dX3_amountsAt_16 (by decide) (fun c_3 => ?_) (fun c_3 => ?_)
        · have hP : alls (sob kd n hm hs hf hh (upN c (q - 1) v)) hn = false := b2_f (by rw [← k0]; exact c_3)
          refine z_iinc C (pc := 25) (v := ((nI v) + 1)) (lv' := [(0, .ref (a 0)), (1, .int (nI q)), (2, .int (nI (lyv (fun v => alls (sob kd n hm hs hf hh (upN c (q - 1) v)) hn) v))), (3, .int ((nI v) + 1))]) dX3_amountsAt_25 rfl rfl (Nat.le_of_ble_eq_true rfl) rfl rfl ?_
          refine z_goto C (pc := 28) (tgt := 4) dX3_amountsAt_28 (by decide) ?_
          refine z_lv (lv' := [(0, .ref (a 0)), (1, .int (nI q)), (2, .int (nI (lyv (fun v => alls (sob kd n hm hs hf hh (upN c (q - 1) v)) hn) (v + 1)))), (3, .int (nI (v + 1)))]) ⟨rfl, rfl, lki (by rw [lyv_f (P := (fun v => alls (sob kd n hm hs hf hh (upN c (q - 1) v)) hn)) hP]), lki (nI_1 v), trivial⟩ ?_
          exact ih4 (v + 1) i2 r2 (by omega) (by omega) (hsp.tr k1) (hsr.tr k2)
        · have hP : alls (sob kd n hm hs hf hh (upN c (q - 1) v)) hn = true := b2_t (by rw [← k0]; exact c_3)
          refine z_iload_n C (pc := 19) dX3_amountsAt_19 rfl ?_
          refine z_iconst C (pc := 20) (v := 1) dX3_amountsAt_20 (by decide) ?_
          refine z_iload_n C (pc := 21) dX3_amountsAt_21 rfl ?_
          refine z_ishl C (pc := 22) dX3_amountsAt_22 ?_
          refine z_ior C (pc := 23) dX3_amountsAt_23 ?_
          refine z_istore_n C (pc := 24) (lv' := [(0, .ref (a 0)), (1, .int (nI q)), (2, .int ((nI (lyv (fun v => alls (sob kd n hm hs hf hh (upN c (q - 1) v)) hn) v)) ||| (1 <<< ((nI v) &&& 31)))), (3, .int (nI v))]) dX3_amountsAt_24 (Nat.le_of_ble_eq_true rfl) rfl rfl ?_
          refine z_iinc C (pc := 25) (v := ((nI v) + 1)) (lv' := [(0, .ref (a 0)), (1, .int (nI q)), (2, .int ((nI (lyv (fun v => alls (sob kd n hm hs hf hh (upN c (q - 1) v)) hn) v)) ||| (1 <<< ((nI v) &&& 31)))), (3, .int ((nI v) + 1))]) dX3_amountsAt_25 rfl rfl (Nat.le_of_ble_eq_true rfl) rfl rfl ?_
          refine z_goto C (pc := 28) (tgt := 4) dX3_amountsAt_28 (by decide) ?_
          refine z_lv (lv' := [(0, .ref (a 0)), (1, .int (nI q)), (2, .int (nI (lyv (fun v => alls (sob kd n hm hs hf hh (upN c (q - 1) v)) hn) (v + 1)))), (3, .int (nI (v + 1)))]) ⟨rfl, rfl, lki (by rw [lyv_t (P := (fun v => alls (sob kd n hm hs hf hh (upN c (q - 1) v)) hn)) hP]; exact or_bit v (by omega) _ (lyv_lt _ v)), lki (nI_1 v), trivial⟩ ?_
          exact ih4 (v + 1) i2 r2 (by omega) (by omega) (hsp.tr k1) (hsr.tr k2)
  refine z_lv (lv' := [(0, .ref (a 0)), (1, .int (nI q)), (2, .int (nI (lyv (fun v => alls (sob kd n hm hs hf hh (upN c (q - 1) v)) hn) 0))), (3, .int (nI 0))]) ⟨rfl, rfl, rfl, rfl, trivial⟩ ?_
  exact key4 (_ + 1) 0 i r (Nat.lt_succ_self _) (Nat.zero_le _) SP.rf SR.rf
end
section
set_option maxHeartbeats 4000000 in
set_option maxRecDepth 100000 in
theorem c_leftAtWorst (l : Launch) (D : va_G) (cI : ClassId) (tt : Nat × Nat × Nat) (a : Nat → Nat) (i : Nat → Int32) (r : Nat → Nat → Int32) (kd : Nat → Nat) (n : Nat) (hv : PV i r kd n) (c : Nat → Nat) (hc : ∀ k, k < 5 → r 3 k = nI (c k) ∧ c k ≤ 9) (q b f : Nat) (hq1 : 1 ≤ q) (hq5 : q < 6) (hb10 : b < 1024) (hf : f ≤ 40) : MetI (S := ((Nat → Int32) × (Nat → Nat → Int32))) l yX3_leftAtWorst cX3_leftAtWorst 6 (some .int) (rm 4 92) D cI tt [.ref (a 0), .int (nI q), .int (nI b), .int (nI f)] (cW cI a i r) (fun z u => z = nI (wov kd n c q b f) ∧ SP i u.1 ∧ SR r u.2) (fun u => cW cI a u.1 u.2) := by
  have hn6 := hv.2.1
  have hx6 := pow_le6 hn6
  refine met_ofI (by decide) (Nat.le_of_ble_eq_true rfl) ?_
  intro pP eE sS mM aV bB mE cC AA C hin
  refine z_conv (lv' := [(0, .ref (a 0)), (1, .int (nI q)), (2, .int (nI b)), (3, .int (nI f))]) ⟨rfl, rfl, rfl, rfl, trivial⟩ rfl rfl ?_
  refine z_iconst C (pc := 0) (v := 0) dX3_leftAtWorst_0 (by decide) ?_
  refine z_istore C (pc := 1) (lv' := [(0, .ref (a 0)), (1, .int (nI q)), (2, .int (nI b)), (3, .int (nI f)), (4, .int 0)]) dX3_leftAtWorst_1 (Nat.le_of_ble_eq_true rfl) rfl rfl ?_
  refine z_iconst C (pc := 3) (v := 0) dX3_leftAtWorst_3 (by decide) ?_
  refine z_istore C (pc := 4) (lv' := [(0, .ref (a 0)), (1, .int (nI q)), (2, .int (nI b)), (3, .int (nI f)), (4, .int 0), (5, .int 0)]) dX3_leftAtWorst_4 (Nat.le_of_ble_eq_true rfl) rfl rfl ?_
  have key6 : ∀ (fu6 : Nat) (v : Nat) (i' : Nat → Int32) (r' : Nat → Nat → Int32), 10 - v < fu6 → (v ≤ 10) → (SP i i') → (SR r r') → Z pP l eE (rm 4 92) sS mM aV bB mE cC D AA 6 0 0 (MQ bB (va_Qi (S := ((Nat → Int32) × (Nat → Nat → Int32))) (fun z u => z = nI (wov kd n c q b f) ∧ SP i u.1 ∧ SR r u.2) (fun u t => va_P D vwCl ((fun u => cW cI a u.1 u.2) u) t.heap) AA) aV sS 0 0 AA) 6 [(0, .ref (a 0)), (1, .int (nI q)), (2, .int (nI b)), (3, .int (nI f)), (4, .int (nI (hcv (fun v => homeb kd n (2 ^ n - 1) 6 (upN c (q - 1) v) f) b v))), (5, .int (nI v))] [] (cW cI a i' r') := by
    intro fu6
    induction fu6 with
    | zero => intro v i' r' hfu6; exact absurd hfu6 (Nat.not_lt_zero _)
    | succ fu6 ih6 =>
      intro v i' r' hfu6 hv10 hsp hsr
      refine z_iload C (pc := 6) dX3_leftAtWorst_6 rfl ?_
      refine z_bipush C (pc := 8) (v := 9) dX3_leftAtWorst_8 (by decide) ?_
      refine z_icmp_gt C (pc := 10) (tgt := 88) dX3_leftAtWorst_10 (by decide) (fun c_1 => ?_) (fun c_1 => ?_)
      · have hve : v = 10 := by
          have := Nat.lt_of_not_le (fun h => nI_nlt (a := 9) (b := v) h (by omega) c_1)
          omega
        subst hve
        have hle := hcv_le (fun v => homeb kd n (2 ^ n - 1) 6 (upN c (q - 1) v) f) b 10
        have hpc := pcn_le b
        refine z_iload C (pc := 88) dX3_leftAtWorst_88 rfl ?_
        refine z_iload_n C (pc := 90) dX3_leftAtWorst_90 rfl ?_
        refine z_calli C (isC := []) rfl (by exact fun _ => rfl) (runS C (wc := []) (pc := 91) (rY' := rm 0 0) (nn := 1) (As := [.int (nI b)]) (rest := [.int (nI (hcv (fun v => homeb kd n (2 ^ n - 1) 6 (upN c (q - 1) v) f) b 10))]) (c_bitCount l D cI tt (nI b)) rfl rfl ⟨rfl, rfl, ⟨Nat.le_of_ble_eq_true rfl, Nat.le_of_ble_eq_true rfl⟩, Nat.le_of_ble_eq_true rfl, Nat.le_of_ble_eq_true rfl⟩ wl_X3_187 ws_J6_bitCount_0f7a4 wi_J6 wc_J6_bitCount_0f7a4 (by decide +kernel) rfl rfl (Nat.le_of_ble_eq_true rfl) dX3_leftAtWorst_91) (fun r_2 u_2 h_2 => ?_)
        have h_2 : r_2 = nI (pcn b) := h_2.trans (bc_pcn _ hb10)
        subst h_2
        refine z_ws (st' := [.int (nI (pcn b)), .int (nI (hcv (fun v => homeb kd n (2 ^ n - 1) 6 (upN c (q - 1) v) f) b 10))]) (ws' := (cW cI a i' r')) rfl rfl ?_
        refine z_iload C (pc := 94) dX3_leftAtWorst_94 rfl ?_
        refine z_isub C (pc := 96) dX3_leftAtWorst_96 ?_
        refine z_mmax C (pc := 97) wl_X3_236 (Nat.le_of_ble_eq_true rfl) (Nat.le_of_ble_eq_true rfl) (Nat.zero_le _) (Nat.zero_le _) dX3_leftAtWorst_97 ?_
        refine z_iret C (pc := 100) (i', r') dX3_leftAtWorst_100 ?_ rfl
        refine ⟨?_, hsp, hsr⟩
        have e1 : nI (pcn b) - nI (hcv (fun v => homeb kd n (2 ^ n - 1) 6 (upN c (q - 1) v) f) b 10) = nI (pcn b - hcv (fun v => homeb kd n (2 ^ n - 1) 6 (upN c (q - 1) v) f) b 10) := pk_sub (show hcv (fun v => homeb kd n (2 ^ n - 1) 6 (upN c (q - 1) v) f) b 10 ≤ pcn b from hle)
        rw [e1]
        exact max_nI (by unfold pcn at hpc; omega) (by omega)
      · have hv9 : v ≤ 9 := Nat.le_of_not_lt (fun h => c_1 (nI_lt (a := 9) h (by omega)))
        refine z_iload_n C (pc := 13) dX3_leftAtWorst_13 rfl ?_
        refine z_iload C (pc := 14) dX3_leftAtWorst_14 rfl ?_
        refine z_ishr C (pc := 16) dX3_leftAtWorst_16 ?_
        refine z_iconst C (pc := 17) (v := 1) dX3_leftAtWorst_17 (by decide) ?_
        refine z_iand C (pc := 18) dX3_leftAtWorst_18 ?_
        refine z_iconst C (pc := 19) (v := 1) dX3_leftAtWorst_19 (by decide) ?_
        refine z_icmp_ne C (pc := 20) (tgt := 82) dX3_leftAtWorst_20 (by decide) (fun c_3 => ?_) (fun c_3 => ?_)
        · have hb := bt0 (by omega) (by omega) c_3
          have hno : ¬ (bt b v = 1 ∧ homeb kd n (2 ^ n - 1) 6 (upN c (q - 1) v) f = true) := fun h => by have := h.1; omega
          refine z_iinc C (pc := 82) (v := ((nI v) + 1)) (lv' := [(0, .ref (a 0)), (1, .int (nI q)), (2, .int (nI b)), (3, .int (nI f)), (4, .int (nI (hcv (fun v => homeb kd n (2 ^ n - 1) 6 (upN c (q - 1) v) f) b v))), (5, .int ((nI v) + 1))]) dX3_leftAtWorst_82 rfl rfl (Nat.le_of_ble_eq_true rfl) rfl rfl ?_
          refine z_goto C (pc := 85) (tgt := 6) dX3_leftAtWorst_85 (by decide) ?_
          refine z_lv (lv' := [(0, .ref (a 0)), (1, .int (nI q)), (2, .int (nI b)), (3, .int (nI f)), (4, .int (nI (hcv (fun v => homeb kd n (2 ^ n - 1) 6 (upN c (q - 1) v) f) b (v + 1)))), (5, .int (nI (v + 1)))]) ⟨rfl, rfl, rfl, rfl, lki (by rw [hcv_f (H := (fun v => homeb kd n (2 ^ n - 1) 6 (upN c (q - 1) v) f)) hno]), lki (nI_1 v), trivial⟩ ?_
          exact ih6 (v + 1) i' r' (by omega) (by omega) hsp hsr
        · have hb := bt1 (by omega) (by omega) c_3
          refine z_aload_n C (pc := 23) dX3_leftAtWorst_23 rfl ?_
          refine z_get C (pc := 24) 0 rfl rfl wf_X3 1 (by decide) rfl wl_X3_19 (v := .ref (a 3)) rfl dX3_leftAtWorst_24 ?_
          refine z_aload_n C (pc := 27) dX3_leftAtWorst_27 rfl ?_
          refine z_get C (pc := 28) 0 rfl rfl wf_X3 2 (by decide) rfl wl_X3_26 (v := .ref (a 6)) rfl dX3_leftAtWorst_28 ?_
          refine z_getN C (pc := 31) 6 rfl rfl wf_X2 1 (by decide) rfl wl_X3_77 (v := .ref (a 7)) rfl dX3_leftAtWorst_31 ?_
          refine z_callvF C (by exact fun _ => cW_ad) (runVN C (wc := (cW cI a i' r')) (pc := 34) (rY' := rm 2 44) (nn := 1) (As := [.ref (a 7)]) (rest := []) (c_setCairnsN l D cI tt a i' r') (full_hC _) (full_nd _) ⟨rfl, rfl, ⟨Nat.le_of_ble_eq_true rfl, Nat.le_of_ble_eq_true rfl⟩, Nat.le_of_ble_eq_true rfl, Nat.le_of_ble_eq_true rfl⟩ wl_X3_124 wm_X1_setCairns we_X1_setCairns wi_X1 wc_X1_setCairns (by decide +kernel) rfl 3 rfl rfl rfl rfl (Nat.le_of_ble_eq_true rfl) dX3_leftAtWorst_34) (fun u_4 h_4 => ?_)
          generalize u_4 = r4 at h_4 ⊢
          obtain ⟨g1, g2⟩ := h_4
          have hsr2 := hsr.tr g1
          have hc2 : ∀ k, k < 5 → r4 2 k = nI (c k) := fun k hk => (g2 k hk).trans ((congrFun (hsr 3 (by decide)) k).trans (hc k hk).1)
          refine z_ws (st' := []) (ws' := (cW cI a i' r4)) rfl rfl ?_
          refine z_aload_n C (pc := 37) dX3_leftAtWorst_37 rfl ?_
          refine z_get C (pc := 38) 0 rfl rfl wf_X3 1 (by decide) rfl wl_X3_19 (v := .ref (a 3)) rfl dX3_leftAtWorst_38 ?_
          refine z_getN C (pc := 41) 3 rfl rfl wf_X1 2 (by decide) rfl wl_X3_132 (v := .ref (a 5)) rfl dX3_leftAtWorst_41 ?_
          refine z_iload_n C (pc := 44) dX3_leftAtWorst_44 rfl ?_
          refine z_iconst C (pc := 45) (v := 1) dX3_leftAtWorst_45 (by decide) ?_
          refine z_isub C (pc := 46) dX3_leftAtWorst_46 ?_
          refine z_iload C (pc := 47) dX3_leftAtWorst_47 rfl ?_
          refine z_callv C (isC := [5]) rfl (by exact fun _ => rfl) (runS C (wc := [(a 5, .inl (cI, 5, .inl (r4 2)))]) (pc := 49) (rY' := rm 0 0) (nn := 3) (As := [.ref (a 5), .int ((nI q) - 1), .int (nI v)]) (rest := []) (c_put l D cI tt (a 5) 5 (r4 2) ((nI q) - 1) (nI v) (by decide)) rfl rfl ⟨rfl, rfl, ⟨Nat.le_of_ble_eq_true rfl, Nat.le_of_ble_eq_true rfl⟩, Nat.le_of_ble_eq_true rfl, Nat.le_of_ble_eq_true rfl⟩ wl_X3_66 ws_X3_put wi_X3 wc_X3_put (by decide +kernel) rfl rfl (Nat.le_of_ble_eq_true rfl) dX3_leftAtWorst_49) (fun u_5 h_5 => ?_)
          subst h_5
          refine z_ws (st' := []) (ws' := (cW cI a i' (va_up r4 2 (putv 5 (r4 2) ((nI q) - 1) (nI v))))) rfl rfl ?_
          have hv3 := hv.sp hsp (hsr2.up (v := putv 5 (r4 2) (nI q - 1) (nI v)))
          have hc3 : ∀ k, k < 5 → va_up r4 2 (putv 5 (r4 2) (nI q - 1) (nI v)) 2 k = nI (upN c (q - 1) v k) ∧ upN c (q - 1) v k ≤ 9 := fun k hk => ⟨by rw [vup_s]; exact put_up hq1 hq5 hc2 k hk, upN_le (fun k hk => (hc k hk).2) hv9 k hk⟩
          refine z_iload C (pc := 52) dX3_leftAtWorst_52 rfl ?_
          refine z_aload_n C (pc := 54) dX3_leftAtWorst_54 rfl ?_
          refine z_get C (pc := 55) 0 rfl rfl wf_X3 1 (by decide) rfl wl_X3_19 (v := .ref (a 3)) rfl dX3_leftAtWorst_55 ?_
          refine z_aload_n C (pc := 58) dX3_leftAtWorst_58 rfl ?_
          refine z_get C (pc := 59) 0 rfl rfl wf_X3 1 (by decide) rfl wl_X3_19 (v := .ref (a 3)) rfl dX3_leftAtWorst_59 ?_
          refine z_calliF C (by exact fun _ => cW_ad) (runVN C (wc := (cW cI a i' (va_up r4 2 (putv 5 (r4 2) ((nI q) - 1) (nI v))))) (pc := 62) (rY' := rm 0 0) (nn := 0) (As := []) (rest := [.ref (a 3), .int (nI (hcv (fun v => homeb kd n (2 ^ n - 1) 6 (upN c (q - 1) v) f) b v))]) (c_all l D cI tt a i' (va_up r4 2 (putv 5 (r4 2) ((nI q) - 1) (nI v))) n hv3.1 hn6) (full_hC _) (full_nd _) ⟨rfl, rfl, ⟨Nat.le_of_ble_eq_true rfl, Nat.le_of_ble_eq_true rfl⟩, Nat.le_of_ble_eq_true rfl, Nat.le_of_ble_eq_true rfl⟩ wl_X3_70 wm_X1_all we_X1_all wi_X1 wc_X1_all (by decide +kernel) rfl 3 rfl rfl rfl rfl (Nat.le_of_ble_eq_true rfl) dX3_leftAtWorst_62) (fun q_6 u_6 h_6 => ?_)
          subst h_6
          refine z_ws (st' := [.int (nI (2 ^ n - 1)), .ref (a 3), .int (nI (hcv (fun v => homeb kd n (2 ^ n - 1) 6 (upN c (q - 1) v) f) b v))]) (ws' := (cW cI a i' (va_up r4 2 (putv 5 (r4 2) ((nI q) - 1) (nI v))))) rfl rfl ?_
          refine z_bipush C (pc := 65) (v := 6) dX3_leftAtWorst_65 (by decide) ?_
          refine z_iload_n C (pc := 67) dX3_leftAtWorst_67 rfl ?_
          refine z_calliF C (by exact fun _ => cW_ad) (runVN C (wc := (cW cI a i' (va_up r4 2 (putv 5 (r4 2) ((nI q) - 1) (nI v))))) (pc := 68) (rY' := rm 3 67) (nn := 3) (As := [.int (nI (2 ^ n - 1)), .int 6, .int (nI f)]) (rest := [.int (nI (hcv (fun v => homeb kd n (2 ^ n - 1) 6 (upN c (q - 1) v) f) b v))]) (c_go l D cI tt a i' (va_up r4 2 (putv 5 (r4 2) ((nI q) - 1) (nI v))) kd n (2 ^ n - 1) 6 f hv3 (by have := Nat.pow_pos (n := n) (show 0 < 2 by decide); omega) (by decide) hf (upN c (q - 1) v) hc3) (full_hC _) (full_nd _) ⟨rfl, rfl, ⟨Nat.le_of_ble_eq_true rfl, Nat.le_of_ble_eq_true rfl⟩, Nat.le_of_ble_eq_true rfl, Nat.le_of_ble_eq_true rfl⟩ wl_X3_128 wm_X1_go we_X1_go wi_X1 wc_X1_go (by decide +kernel) rfl 3 rfl rfl rfl rfl (Nat.le_of_ble_eq_true rfl) dX3_leftAtWorst_68) (fun q_7 u_7 h_7 => ?_)
          obtain ⟨i7, r7⟩ := u_7
          try dsimp only at h_7
          obtain ⟨k0, k1, k2, -⟩ := h_7
          rw [mar_home] at k0
          refine z_ws (st' := [.int q_7, .int (nI (hcv (fun v => homeb kd n (2 ^ n - 1) 6 (upN c (q - 1) v) f) b v))]) (ws' := (cW cI a i7 r7)) rfl rfl ?_
          refine z_if_eq C (pc := 71) (tgt := 78) dX3_leftAtWorst_71 (by decide) (fun c_8 => ?_) (fun c_8 => ?_)
          · have hhf : homeb kd n (2 ^ n - 1) 6 (upN c (q - 1) v) f = false := b2_f (by rw [← k0]; exact c_8)
            have hno : ¬ (bt b v = 1 ∧ homeb kd n (2 ^ n - 1) 6 (upN c (q - 1) v) f = true) := fun h => by rw [hhf] at h; exact absurd h.2 (by decide)
            refine z_iconst C (pc := 78) (v := 0) dX3_leftAtWorst_78 (by decide) ?_
            refine z_iadd C (pc := 79) dX3_leftAtWorst_79 ?_
            refine z_istore C (pc := 80) (lv' := [(0, .ref (a 0)), (1, .int (nI q)), (2, .int (nI b)), (3, .int (nI f)), (4, .int ((nI (hcv (fun v => homeb kd n (2 ^ n - 1) 6 (upN c (q - 1) v) f) b v)) + 0)), (5, .int (nI v))]) dX3_leftAtWorst_80 (Nat.le_of_ble_eq_true rfl) rfl rfl ?_
            refine z_iinc C (pc := 82) (v := ((nI v) + 1)) (lv' := [(0, .ref (a 0)), (1, .int (nI q)), (2, .int (nI b)), (3, .int (nI f)), (4, .int ((nI (hcv (fun v => homeb kd n (2 ^ n - 1) 6 (upN c (q - 1) v) f) b v)) + 0)), (5, .int ((nI v) + 1))]) dX3_leftAtWorst_82 rfl rfl (Nat.le_of_ble_eq_true rfl) rfl rfl ?_
            refine z_goto C (pc := 85) (tgt := 6) dX3_leftAtWorst_85 (by decide) ?_
            refine z_lv (lv' := [(0, .ref (a 0)), (1, .int (nI q)), (2, .int (nI b)), (3, .int (nI f)), (4, .int (nI (hcv (fun v => homeb kd n (2 ^ n - 1) 6 (upN c (q - 1) v) f) b (v + 1)))), (5, .int (nI (v + 1)))]) ⟨rfl, rfl, rfl, rfl, lki (by rw [hcv_f (H := (fun v => homeb kd n (2 ^ n - 1) 6 (upN c (q - 1) v) f)) hno]; exact nI_add _ 0), lki (nI_1 v), trivial⟩ ?_
            exact ih6 (v + 1) i7 r7 (by omega) (by omega) (hsp.tr k1) (hsr2.up.tr k2)
          · have hho : homeb kd n (2 ^ n - 1) 6 (upN c (q - 1) v) f = true := b2_t (by rw [← k0]; exact c_8)
            refine z_iconst C (pc := 74) (v := 1) dX3_leftAtWorst_74 (by decide) ?_
            refine z_goto C (pc := 75) (tgt := 79) dX3_leftAtWorst_75 (by decide) ?_
            refine z_iadd C (pc := 79) dX3_leftAtWorst_79 ?_
            refine z_istore C (pc := 80) (lv' := [(0, .ref (a 0)), (1, .int (nI q)), (2, .int (nI b)), (3, .int (nI f)), (4, .int ((nI (hcv (fun v => homeb kd n (2 ^ n - 1) 6 (upN c (q - 1) v) f) b v)) + 1)), (5, .int (nI v))]) dX3_leftAtWorst_80 (Nat.le_of_ble_eq_true rfl) rfl rfl ?_
            refine z_iinc C (pc := 82) (v := ((nI v) + 1)) (lv' := [(0, .ref (a 0)), (1, .int (nI q)), (2, .int (nI b)), (3, .int (nI f)), (4, .int ((nI (hcv (fun v => homeb kd n (2 ^ n - 1) 6 (upN c (q - 1) v) f) b v)) + 1)), (5, .int ((nI v) + 1))]) dX3_leftAtWorst_82 rfl rfl (Nat.le_of_ble_eq_true rfl) rfl rfl ?_
            refine z_goto C (pc := 85) (tgt := 6) dX3_leftAtWorst_85 (by decide) ?_
            refine z_lv (lv' := [(0, .ref (a 0)), (1, .int (nI q)), (2, .int (nI b)), (3, .int (nI f)), (4, .int (nI (hcv (fun v => homeb kd n (2 ^ n - 1) 6 (upN c (q - 1) v) f) b (v + 1)))), (5, .int (nI (v + 1)))]) ⟨rfl, rfl, rfl, rfl, lki (by rw [hcv_t (H := (fun v => homeb kd n (2 ^ n - 1) 6 (upN c (q - 1) v) f)) hb hho]; exact nI_1 _), lki (nI_1 v), trivial⟩ ?_
            exact ih6 (v + 1) i7 r7 (by omega) (by omega) (hsp.tr k1) (hsr2.up.tr k2)
  refine z_lv (lv' := [(0, .ref (a 0)), (1, .int (nI q)), (2, .int (nI b)), (3, .int (nI f)), (4, .int (nI (hcv (fun v => homeb kd n (2 ^ n - 1) 6 (upN c (q - 1) v) f) b 0))), (5, .int (nI 0))]) ⟨rfl, rfl, rfl, rfl, rfl, rfl, trivial⟩ ?_
  exact key6 (_ + 1) 0 i r (Nat.lt_succ_self _) (Nat.zero_le _) SP.rf SR.rf
end
section
def gdb (f : Nat → Int32) (p en : Nat) : Bool := if en ≠ 0 then decide (p < en + 5) && (decide (48 ≤ f p) && decide (f p ≤ 57)) else (decide (f p = 59) && decide (2 ≤ p)) || (decide (p < 6) && decide (kindOfv (f p) ≠ -1))
def gde (f : Nat → Int32) (p en : Nat) : Nat := if en ≠ 0 then en else if f p = 59 ∧ 2 ≤ p then p + 1 else 0
def scv (f : Nat → Int32) : Nat → Nat → Nat → Nat × Nat
  | 0, p, en => (p, en)
  | fu + 1, p, en => if gdb f p en = true then scv f fu (p + 1) (gde f p en) else (p, en)
def SI (f : Nat → Int32) (p en : Nat) : Prop := (∀ j, j < p → (f j = 59 ↔ en = j + 1)) ∧ (en ≠ 0 → 3 ≤ en ∧ en ≤ p ∧ p ≤ en + 5) ∧ (en = 0 → p ≤ 6) ∧ en ≤ 7 ∧ (∀ j, j < p → j + 1 < en ∨ en = 0 → kindOfv (f j) ≠ -1) ∧ (∀ j, j < p → en ≠ 0 → en ≤ j → 48 ≤ f j ∧ f j ≤ 57)
theorem SI_0 {f : Nat → Int32} : SI f 0 0 := ⟨fun j h => absurd h (Nat.not_lt_zero j), fun h => absurd rfl h, fun _ => by omega, by omega, fun j h => absurd h (Nat.not_lt_zero j), fun j h => absurd h (Nat.not_lt_zero j)⟩
theorem SI_s {f : Nat → Int32} {p en : Nat} (h : SI f p en) (g : gdb f p en = true) : SI f (p + 1) (gde f p en) := by
  unfold gdb at g
  unfold gde
  by_cases e : en ≠ 0
  · rw [if_pos e] at g ⊢
    simp only [Bool.and_eq_true, decide_eq_true_eq] at g
    obtain ⟨h1, h2, h3, h4, h5, h6⟩ := h
    refine ⟨fun j hj => ?_, fun _ => ⟨(h2 e).1, by have := (h2 e).2.1; omega, by omega⟩, fun h => absurd h e, h4, fun j hj hd => ?_, fun j hj he hle => ?_⟩
    · by_cases ej : j = p
      · subst ej
        refine ⟨fun h59 => ?_, fun h => by have := (h2 e).2.1; omega⟩
        rw [h59] at g
        exact absurd g.2.2 (by decide)
      · exact h1 j (by omega)
    · exact h5 j (by have := (h2 e).2.1; omega) hd
    · by_cases ej : j = p
      · subst ej; exact ⟨g.2.1, g.2.2⟩
      · exact h6 j (by omega) he hle
  · rw [if_neg e] at g ⊢
    have e0 : en = 0 := Classical.not_not.mp e
    subst e0
    obtain ⟨h1, h2, h3, h4, h5, h6⟩ := h
    have hp6 := h3 rfl
    by_cases hs : f p = 59 ∧ 2 ≤ p
    · rw [if_pos hs]
      refine ⟨fun j hj => ?_, fun _ => ⟨by omega, by omega, by omega⟩, fun h => by omega, by omega, fun j hj hd => h5 j (by omega) (Or.inr rfl), fun j hj he hle => by omega⟩
      by_cases ej : j = p
      · subst ej; exact ⟨fun _ => rfl, fun _ => hs.1⟩
      · have := h1 j (by omega)
        exact ⟨fun h => by have := this.mp h; omega, fun h => by omega⟩
    · rw [if_neg hs]
      have g2 : p < 6 ∧ kindOfv (f p) ≠ -1 := by
        simp only [Bool.or_eq_true, Bool.and_eq_true, decide_eq_true_eq] at g
        rcases g with g | g
        · exact absurd g hs
        · exact g
      refine ⟨fun j hj => ?_, fun h => absurd rfl h, fun _ => by omega, by omega, fun j hj hd => ?_, fun j hj he => absurd rfl he⟩
      · by_cases ej : j = p
        · subst ej
          refine ⟨fun h => ?_, fun h => by omega⟩
          rw [h] at g2
          exact absurd g2.2 (by decide)
        · exact h1 j (by omega)
      · by_cases ej : j = p
        · subst ej; exact g2.2
        · exact h5 j (by omega) (Or.inr rfl)
theorem scv_SI {f : Nat → Int32} : ∀ (fu p en : Nat), SI f p en → SI f (scv f fu p en).1 (scv f fu p en).2
  | 0, _, _, h => h
  | fu + 1, p, en, h => by
    unfold scv
    by_cases g : gdb f p en = true
    · rw [if_pos g]; exact scv_SI fu _ _ (SI_s h g)
    · rw [if_neg g]; exact h
theorem scv_le {f : Nat → Int32} : ∀ (fu p en : Nat), (scv f fu p en).1 ≤ p + fu
  | 0, _, _ => Nat.le_refl _
  | fu + 1, p, en => by
    unfold scv
    by_cases g : gdb f p en = true
    · rw [if_pos g]; have := scv_le (f := f) fu (p + 1) (gde f p en); omega
    · rw [if_neg g]; show p ≤ p + (fu + 1); omega
theorem scv_t {f : Nat → Int32} {fu p en : Nat} (g : gdb f p en = true) : scv f (fu + 1) p en = scv f fu (p + 1) (gde f p en) := by show (if _ then _ else _) = _; rw [if_pos g]
theorem scv_f {f : Nat → Int32} {fu p en : Nat} (g : gdb f p en = false) : scv f (fu + 1) p en = (p, en) := by show (if _ then _ else _) = _; rw [if_neg (by rw [g]; decide)]
theorem scv_congr {f g : Nat → Int32} {L : Nat} (h : ∀ j, j < L → f j = g j) : ∀ (fu p en : Nat), p + fu ≤ L → scv f fu p en = scv g fu p en
  | 0, _, _, _ => rfl
  | fu + 1, p, en, hp => by
    have e := h p (by omega)
    have e1 : gdb f p en = gdb g p en := by unfold gdb; rw [e]
    have e2 : gde f p en = gde g p en := by unfold gde; rw [e]
    unfold scv
    rw [e1, e2, scv_congr h fu (p + 1) (gde g p en) (by omega)]
def krv (p en : Nat) : Nat := if en = 0 then p else en - 1
def drv (p en : Nat) : Int32 := if en = 0 then -1 else nI (p - en)
def campb (f : Nat → Int32) (L : Nat) : Bool := decide ((scv f L 0 0).1 = L) && (decide ((scv f L 0 0).2 ≠ 0) && decide (L = (scv f L 0 0).2 + 5))
theorem drv_ne {p en : Nat} (h : p - en < 2 ^ 31) : drv p en = -1 ↔ en = 0 := by
  unfold drv
  by_cases e : en = 0
  · rw [if_pos e]; simp [e]
  · rw [if_neg e]
    refine ⟨fun h2 => ?_, fun h2 => absurd h2 e⟩
    have h3 := congrArg Int32.toInt h2
    rw [nI_toInt h] at h3
    have : (-1 : Int32).toInt = -1 := rfl
    omega
set_option maxHeartbeats 4000000 in
set_option maxRecDepth 100000 in
theorem c_bestTrial (l : Launch) (D : va_G) (cI : ClassId) (tt : Nat × Nat × Nat) (a : Nat → Nat) (i : Nat → Int32) (r : Nat → Nat → Int32) (kd : Nat → Nat) (n : Nat) (hv : PV i r kd n) (c : Nat → Nat) (hc : ∀ k, k < 5 → r 3 k = nI (c k) ∧ c k ≤ 9) (q b : Nat) (hq1 : 1 ≤ q) (hq5 : q < 6) (hb10 : b < 1024) : MetI (S := ((Nat → Int32) × (Nat → Nat → Int32))) l yX3_bestTrial cX3_bestTrial 8 (some .int) (rm 5 117) D cI tt [.ref (a 0), .int (nI q), .int (nI b)] (cW cI a i r) (fun z u => z = tryv kd n c q b ∧ SP i u.1 ∧ SR r u.2) (fun u => cW cI a u.1 u.2) := by
  have hn6 := hv.2.1
  have hx6 := pow_le6 hn6
  have hp2 := Nat.pow_pos (n := n) (show 0 < 2 by decide)
  refine met_ofI (by decide) (Nat.le_of_ble_eq_true rfl) ?_
  intro pP eE sS mM aV bB mE cC AA C hin
  refine z_conv (lv' := [(0, .ref (a 0)), (1, .int (nI q)), (2, .int (nI b))]) ⟨rfl, rfl, rfl, trivial⟩ rfl rfl ?_
  refine z_iconst C (pc := 0) (v := (-1)) dX3_bestTrial_0 (by decide) ?_
  refine z_istore_n C (pc := 1) (lv' := [(0, .ref (a 0)), (1, .int (nI q)), (2, .int (nI b)), (3, .int (-1))]) dX3_bestTrial_1 (Nat.le_of_ble_eq_true rfl) rfl rfl ?_
  refine z_iload_n C (pc := 2) dX3_bestTrial_2 rfl ?_
  refine z_calli C (isC := []) rfl (by exact fun _ => rfl) (runS C (wc := []) (pc := 3) (rY' := rm 0 0) (nn := 1) (As := [.int (nI b)]) (rest := []) (c_bitCount l D cI tt (nI b)) rfl rfl ⟨rfl, rfl, ⟨Nat.le_of_ble_eq_true rfl, Nat.le_of_ble_eq_true rfl⟩, Nat.le_of_ble_eq_true rfl, Nat.le_of_ble_eq_true rfl⟩ wl_X3_187 ws_J6_bitCount_0f7a4 wi_J6 wc_J6_bitCount_0f7a4 (by decide +kernel) rfl rfl (Nat.le_of_ble_eq_true rfl) dX3_bestTrial_3) (fun r_1 u_1 h_1 => ?_)
  have h_1 : r_1 = nI (pcn b) := h_1.trans (bc_pcn _ hb10)
  subst h_1
  refine z_ws (st' := [.int (nI (pcn b))]) (ws' := (cW cI a i r)) rfl rfl ?_
  refine z_iconst C (pc := 6) (v := 1) dX3_bestTrial_6 (by decide) ?_
  refine z_iadd C (pc := 7) dX3_bestTrial_7 ?_
  refine z_istore C (pc := 8) (lv' := [(0, .ref (a 0)), (1, .int (nI q)), (2, .int (nI b)), (3, .int (-1)), (4, .int ((nI (pcn b)) + 1))]) dX3_bestTrial_8 (Nat.le_of_ble_eq_true rfl) rfl rfl ?_
  refine z_aload_n C (pc := 10) dX3_bestTrial_10 rfl ?_
  refine z_aload_n C (pc := 11) dX3_bestTrial_11 rfl ?_
  refine z_get C (pc := 12) 0 rfl rfl wf_X3 1 (by decide) rfl wl_X3_19 (v := .ref (a 3)) rfl dX3_bestTrial_12 ?_
  refine z_calliF C (by exact fun _ => cW_ad) (runVN C (wc := (cW cI a i r)) (pc := 15) (rY' := rm 0 0) (nn := 0) (As := []) (rest := [.ref (a 0)]) (c_all l D cI tt a i r n hv.1 hn6) (full_hC _) (full_nd _) ⟨rfl, rfl, ⟨Nat.le_of_ble_eq_true rfl, Nat.le_of_ble_eq_true rfl⟩, Nat.le_of_ble_eq_true rfl, Nat.le_of_ble_eq_true rfl⟩ wl_X3_70 wm_X1_all we_X1_all wi_X1 wc_X1_all (by decide +kernel) rfl 3 rfl rfl rfl rfl (Nat.le_of_ble_eq_true rfl) dX3_bestTrial_15) (fun q_2 u_2 h_2 => ?_)
  subst h_2
  refine z_ws (st' := [.int (nI (2 ^ n - 1)), .ref (a 0)]) (ws' := (cW cI a i r)) rfl rfl ?_
  refine z_calliF C (by exact fun _ => cW_ad) (runV C (wc := (cW cI a i r)) (pc := 18) (rY' := rm 2 45) (nn := 1) (As := [.int (nI (2 ^ n - 1))]) (rest := []) (c_mostFoodOf l D cI tt a i r kd n hv (2 ^ n - 1) (by omega)) (full_hC _) (full_nd _) ⟨rfl, rfl, ⟨Nat.le_of_ble_eq_true rfl, Nat.le_of_ble_eq_true rfl⟩, Nat.le_of_ble_eq_true rfl, Nat.le_of_ble_eq_true rfl⟩ wl_X3_214 wm_X3_mostFoodOf we_X3_mostFoodOf wi_X3 wc_X3_mostFoodOf (by decide +kernel) rfl 0 rfl rfl rfl rfl (Nat.le_of_ble_eq_true rfl) dX3_bestTrial_18) (fun q_3 u_3 h_3 => ?_)
  subst h_3
  refine z_ws (st' := [.int (nI (min 40 (sumk pls kd (2 ^ n - 1) n)))]) (ws' := (cW cI a i r)) rfl rfl ?_
  refine z_istore C (pc := 21) (lv' := [(0, .ref (a 0)), (1, .int (nI q)), (2, .int (nI b)), (3, .int (-1)), (4, .int ((nI (pcn b)) + 1)), (5, .int (nI (min 40 (sumk pls kd (2 ^ n - 1) n))))]) dX3_bestTrial_21 (Nat.le_of_ble_eq_true rfl) rfl rfl ?_
  refine z_iconst C (pc := 23) (v := 0) dX3_bestTrial_23 (by decide) ?_
  refine z_istore C (pc := 24) (lv' := [(0, .ref (a 0)), (1, .int (nI q)), (2, .int (nI b)), (3, .int (-1)), (4, .int ((nI (pcn b)) + 1)), (5, .int (nI (min 40 (sumk pls kd (2 ^ n - 1) n)))), (6, .int 0)]) dX3_bestTrial_24 (Nat.le_of_ble_eq_true rfl) rfl rfl ?_
  have key26 : ∀ (fu26 : Nat) (f : Nat) (i' : Nat → Int32) (r' : Nat → Nat → Int32), (min 40 (sumk pls kd (2 ^ n - 1) n)) + 1 - f < fu26 → (f ≤ (min 40 (sumk pls kd (2 ^ n - 1) n)) + 1) → (b = 0 → f = 0) → (SP i i') → (SR r r') → Z pP l eE (rm 5 117) sS mM aV bB mE cC D AA 8 0 0 (MQ bB (va_Qi (S := ((Nat → Int32) × (Nat → Nat → Int32))) (fun z u => z = tryv kd n c q b ∧ SP i u.1 ∧ SR r u.2) (fun u t => va_P D vwCl ((fun u => cW cI a u.1 u.2) u) t.heap) AA) aV sS 0 0 AA) 26 [(0, .ref (a 0)), (1, .int (nI q)), (2, .int (nI b)), (3, .int ((trv (wov kd n c q b) (pcn b + 1) f).1)), (4, .int (nI (trv (wov kd n c q b) (pcn b + 1) f).2)), (5, .int (nI (min 40 (sumk pls kd (2 ^ n - 1) n)))), (6, .int (nI f))] [] (cW cI a i' r') := by
    intro fu26
    induction fu26 with
    | zero => intro f i' r' hfu26; exact absurd hfu26 (Nat.not_lt_zero _)
    | succ fu26 ih26 =>
      intro f i' r' hfu26 hfm hb0 hsp hsr
      refine z_iload_n C (pc := 26) dX3_bestTrial_26 rfl ?_
      refine z_if_eq C (pc := 27) (tgt := 67) dX3_bestTrial_27 (by decide) (fun c_4 => ?_) (fun c_4 => ?_)
      · refine z_iload_n C (pc := 67) dX3_bestTrial_67 rfl ?_
        refine z_iret C (pc := 68) (i', r') dX3_bestTrial_68 ?_ rfl
        have hbz : b = 0 := nI_z (by omega) c_4
        have hfz := hb0 hbz
        subst hfz
        exact ⟨by unfold tryv; rw [if_pos hbz]; rfl, hsp, hsr⟩
      · have hbn : b ≠ 0 := nI_nz c_4
        refine z_iload C (pc := 30) dX3_bestTrial_30 rfl ?_
        refine z_iload C (pc := 32) dX3_bestTrial_32 rfl ?_
        refine z_icmp_gt C (pc := 34) (tgt := 67) dX3_bestTrial_34 (by decide) (fun c_5 => ?_) (fun c_5 => ?_)
        · refine z_iload_n C (pc := 67) dX3_bestTrial_67 rfl ?_
          refine z_iret C (pc := 68) (i', r') dX3_bestTrial_68 ?_ rfl
          have hfe : f = (min 40 (sumk pls kd (2 ^ n - 1) n)) + 1 := by
            have := Nat.lt_of_not_le (fun h => nI_nlt (a := (min 40 (sumk pls kd (2 ^ n - 1) n))) (b := f) h (by omega) c_5)
            omega
          refine ⟨?_, hsp, hsr⟩
          unfold tryv
          rw [if_neg hbn, hfe]
          exact try_cap
        · have hfl : f ≤ (min 40 (sumk pls kd (2 ^ n - 1) n)) := Nat.le_of_not_lt (fun h => c_5 (nI_lt h (by omega)))
          have hc2 : ∀ k, k < 5 → r' 3 k = nI (c k) ∧ c k ≤ 9 := fun k hk => ⟨(congrFun (hsr 3 (by decide)) k).trans (hc k hk).1, (hc k hk).2⟩
          have hwl : ∀ f, (wov kd n c q b) f ≤ pcn b + 1 := fun f => Nat.le_succ_of_le wov_le
          have htl := trv_b (w := (wov kd n c q b)) (l := (pcn b + 1)) (B := pcn b + 1) (Nat.le_refl _) hwl f
          have hpc := pcn_le b
          have hwf := hwl f
          refine z_aload_n C (pc := 37) dX3_bestTrial_37 rfl ?_
          refine z_iload_n C (pc := 38) dX3_bestTrial_38 rfl ?_
          refine z_iload_n C (pc := 39) dX3_bestTrial_39 rfl ?_
          refine z_iload C (pc := 40) dX3_bestTrial_40 rfl ?_
          refine z_calliF C (by exact fun _ => cW_ad) (runV C (wc := (cW cI a i' r')) (pc := 42) (rY' := rm 4 92) (nn := 3) (As := [.int (nI q), .int (nI b), .int (nI f)]) (rest := []) (c_leftAtWorst l D cI tt a i' r' kd n (hv.sp hsp hsr) c hc2 q b f hq1 hq5 hb10 (by omega)) (full_hC _) (full_nd _) ⟨rfl, rfl, ⟨Nat.le_of_ble_eq_true rfl, Nat.le_of_ble_eq_true rfl⟩, Nat.le_of_ble_eq_true rfl, Nat.le_of_ble_eq_true rfl⟩ wl_X3_232 wm_X3_leftAtWorst we_X3_leftAtWorst wi_X3 wc_X3_leftAtWorst (by decide +kernel) rfl 0 rfl rfl rfl rfl (Nat.le_of_ble_eq_true rfl) dX3_bestTrial_42) (fun z_6 u_6 h_6 => ?_)
          obtain ⟨i6, r6⟩ := u_6
          try dsimp only at h_6
          obtain ⟨k0, k1, k2⟩ := h_6
          subst k0
          refine z_ws (st' := [.int (nI ((wov kd n c q b) f))]) (ws' := (cW cI a i6 r6)) rfl rfl ?_
          refine z_istore C (pc := 45) (lv' := [(0, .ref (a 0)), (1, .int (nI q)), (2, .int (nI b)), (3, .int ((trv (wov kd n c q b) (pcn b + 1) f).1)), (4, .int (nI (trv (wov kd n c q b) (pcn b + 1) f).2)), (5, .int (nI (min 40 (sumk pls kd (2 ^ n - 1) n)))), (6, .int (nI f)), (7, .int (nI ((wov kd n c q b) f)))]) dX3_bestTrial_45 (Nat.le_of_ble_eq_true rfl) rfl rfl ?_
          refine z_iload C (pc := 47) dX3_bestTrial_47 rfl ?_
          refine z_iload C (pc := 49) dX3_bestTrial_49 rfl ?_
          refine z_icmp_ge C (pc := 51) (tgt := 61) dX3_bestTrial_51 (by decide) (fun c_7 => ?_) (fun c_7 => ?_)
          · have hno : ¬ (wov kd n c q b) f < (trv (wov kd n c q b) (pcn b + 1) f).2 := fun h => nI_ge h (by omega) c_7
            refine z_iinc C (pc := 61) (v := ((nI f) + 1)) (lv' := [(0, .ref (a 0)), (1, .int (nI q)), (2, .int (nI b)), (3, .int ((trv (wov kd n c q b) (pcn b + 1) f).1)), (4, .int (nI (trv (wov kd n c q b) (pcn b + 1) f).2)), (5, .int (nI (min 40 (sumk pls kd (2 ^ n - 1) n)))), (6, .int ((nI f) + 1)), (7, .int (nI ((wov kd n c q b) f)))]) dX3_bestTrial_61 rfl rfl (Nat.le_of_ble_eq_true rfl) rfl rfl ?_
            refine z_goto C (pc := 64) (tgt := 26) dX3_bestTrial_64 (by decide) ?_
            refine z_lv (lv' := [(0, .ref (a 0)), (1, .int (nI q)), (2, .int (nI b)), (3, .int ((trv (wov kd n c q b) (pcn b + 1) (f + 1)).1)), (4, .int (nI (trv (wov kd n c q b) (pcn b + 1) (f + 1)).2)), (5, .int (nI (min 40 (sumk pls kd (2 ^ n - 1) n)))), (6, .int (nI (f + 1)))]) ⟨rfl, rfl, rfl, lki (by rw [trv_n hno]), lki (by rw [trv_n hno]), rfl, lki (nI_1 f), trivial⟩ ?_
            exact ih26 (f + 1) i6 r6 (by omega) (by omega) (fun h => absurd h hbn) (hsp.tr k1) (hsr.tr k2)
          · have hlt : (wov kd n c q b) f < (trv (wov kd n c q b) (pcn b + 1) f).2 := lt_of_nI c_7 (by omega)
            refine z_iload C (pc := 54) dX3_bestTrial_54 rfl ?_
            refine z_istore_n C (pc := 56) (lv' := [(0, .ref (a 0)), (1, .int (nI q)), (2, .int (nI b)), (3, .int (nI f)), (4, .int (nI (trv (wov kd n c q b) (pcn b + 1) f).2)), (5, .int (nI (min 40 (sumk pls kd (2 ^ n - 1) n)))), (6, .int (nI f)), (7, .int (nI ((wov kd n c q b) f)))]) dX3_bestTrial_56 (Nat.le_of_ble_eq_true rfl) rfl rfl ?_
            refine z_iload C (pc := 57) dX3_bestTrial_57 rfl ?_
            refine z_istore C (pc := 59) (lv' := [(0, .ref (a 0)), (1, .int (nI q)), (2, .int (nI b)), (3, .int (nI f)), (4, .int (nI ((wov kd n c q b) f))), (5, .int (nI (min 40 (sumk pls kd (2 ^ n - 1) n)))), (6, .int (nI f)), (7, .int (nI ((wov kd n c q b) f)))]) dX3_bestTrial_59 (Nat.le_of_ble_eq_true rfl) rfl rfl ?_
            refine z_iinc C (pc := 61) (v := ((nI f) + 1)) (lv' := [(0, .ref (a 0)), (1, .int (nI q)), (2, .int (nI b)), (3, .int (nI f)), (4, .int (nI ((wov kd n c q b) f))), (5, .int (nI (min 40 (sumk pls kd (2 ^ n - 1) n)))), (6, .int ((nI f) + 1)), (7, .int (nI ((wov kd n c q b) f)))]) dX3_bestTrial_61 rfl rfl (Nat.le_of_ble_eq_true rfl) rfl rfl ?_
            refine z_goto C (pc := 64) (tgt := 26) dX3_bestTrial_64 (by decide) ?_
            refine z_lv (lv' := [(0, .ref (a 0)), (1, .int (nI q)), (2, .int (nI b)), (3, .int ((trv (wov kd n c q b) (pcn b + 1) (f + 1)).1)), (4, .int (nI (trv (wov kd n c q b) (pcn b + 1) (f + 1)).2)), (5, .int (nI (min 40 (sumk pls kd (2 ^ n - 1) n)))), (6, .int (nI (f + 1)))]) ⟨rfl, rfl, rfl, lki (by rw [trv_s hlt]), lki (by rw [trv_s hlt]), rfl, lki (nI_1 f), trivial⟩ ?_
            exact ih26 (f + 1) i6 r6 (by omega) (by omega) (fun h => absurd h hbn) (hsp.tr k1) (hsr.tr k2)
  refine z_lv (lv' := [(0, .ref (a 0)), (1, .int (nI q)), (2, .int (nI b)), (3, .int ((trv (wov kd n c q b) (pcn b + 1) 0).1)), (4, .int (nI (trv (wov kd n c q b) (pcn b + 1) 0).2)), (5, .int (nI (min 40 (sumk pls kd (2 ^ n - 1) n)))), (6, .int (nI 0))]) ⟨rfl, rfl, rfl, rfl, lki (nI_1 _), rfl, rfl, trivial⟩ ?_
  exact key26 (_ + 1) 0 i r (Nat.lt_succ_self _) (Nat.zero_le _) (fun _ => rfl) SP.rf SR.rf

set_option maxHeartbeats 4000000 in
set_option maxRecDepth 100000 in
theorem c_sum (l : Launch) (D : va_G) (cI : ClassId) (tt : Nat × Nat × Nat) (b N : Nat) (f : Nat → Int32) (hN : N < 2 ^ 31) : MetI (S := Unit) l yX3_sum cX3_sum 3 (some .int) (rm 0 0) D cI tt [.ref b] [(b, .inl (cI, N, .inl f))] (fun q _ => q = sumv f N) (fun _ => [(b, .inl (cI, N, .inl f))]) := by
  refine met_ofI (by decide) (Nat.le_of_ble_eq_true rfl) ?_
  intro pP eE sS mM aV bB mE cC AA C hin
  refine z_conv (lv' := [(0, .ref b)]) ⟨rfl, trivial⟩ rfl rfl ?_
  refine z_iconst C (pc := 0) (v := 0) dX3_sum_0 (by decide) ?_
  refine z_istore_n C (pc := 1) (lv' := [(0, .ref b), (1, .int 0)]) dX3_sum_1 (Nat.le_of_ble_eq_true rfl) rfl rfl ?_
  refine z_iconst C (pc := 2) (v := 0) dX3_sum_2 (by decide) ?_
  refine z_istore_n C (pc := 3) (lv' := [(0, .ref b), (1, .int 0), (2, .int 0)]) dX3_sum_3 (Nat.le_of_ble_eq_true rfl) rfl rfl ?_
  have key4 : ∀ (fu4 : Nat) (k : Nat), N - k < fu4 → (k ≤ N) → Z pP l eE (rm 0 0) sS mM aV bB mE cC D AA 3 0 0 (MQ bB (va_Qi (S := Unit) (fun q _ => q = sumv f N) (fun u t => va_P D vwCl ((fun _ => [(b, .inl (cI, N, .inl f))]) u) t.heap) AA) aV sS 0 0 AA) 4 [(0, .ref b), (1, .int (sumv f k)), (2, .int (nI k))] [] [(b, .inl (cI, N, .inl f))] := by
    intro fu4
    induction fu4 with
    | zero => intro k hfu4; exact absurd hfu4 (Nat.not_lt_zero _)
    | succ fu4 ih4 =>
      intro k hfu4 hkn
      refine z_aload_n C (pc := 4) dX3_sum_4 rfl ?_
      refine z_ifnull C (pc := 5) dX3_sum_5 ?_
      refine z_iload_n C (pc := 8) dX3_sum_8 rfl ?_
      refine z_aload_n C (pc := 9) dX3_sum_9 rfl ?_
      refine z_alen C (pc := 10) 0 rfl (v := (nI N)) rfl dX3_sum_10 ?_
      refine z_icmp_ge C (pc := 11) (tgt := 26) dX3_sum_11 (by decide) (fun c_1 => ?_) (fun c_1 => ?_)
      · refine z_iload_n C (pc := 26) dX3_sum_26 rfl ?_
        refine z_iret C (pc := 27) () dX3_sum_27 ?_ rfl
        have hke : k = N := by
          have := ge_of_nI c_1 hN
          omega
        rw [hke]
      · have hk : k < N := lt_of_nI c_1 (by omega)
        refine z_iload_n C (pc := 14) dX3_sum_14 rfl ?_
        refine z_aload_n C (pc := 15) dX3_sum_15 rfl ?_
        refine z_iload_n C (pc := 16) dX3_sum_16 rfl ?_
        have h_2 : vp_in (nI k) N := by exact vp_in_nI hk hN
        refine z_iald C (pc := 17) 0 rfl h_2 dX3_sum_17 ?_
        refine z_seti (y := f k) (by rw [nI_clamp (by omega)]) ?_
        refine z_iadd C (pc := 18) dX3_sum_18 ?_
        refine z_istore_n C (pc := 19) (lv' := [(0, .ref b), (1, .int ((sumv f k) + (f k))), (2, .int (nI k))]) dX3_sum_19 (Nat.le_of_ble_eq_true rfl) rfl rfl ?_
        refine z_iinc C (pc := 20) (v := ((nI k) + 1)) (lv' := [(0, .ref b), (1, .int ((sumv f k) + (f k))), (2, .int ((nI k) + 1))]) dX3_sum_20 rfl rfl (Nat.le_of_ble_eq_true rfl) rfl rfl ?_
        refine z_goto C (pc := 23) (tgt := 4) dX3_sum_23 (by decide) ?_
        refine z_lv (lv' := [(0, .ref b), (1, .int (sumv f (k + 1))), (2, .int (nI (k + 1)))]) ⟨rfl, rfl, lki (nI_1 k), trivial⟩ ?_
        exact ih4 (k + 1) (by omega) hk
  refine z_lv (lv' := [(0, .ref b), (1, .int (sumv f 0)), (2, .int (nI 0))]) ⟨rfl, rfl, rfl, trivial⟩ ?_
  exact key4 (_ + 1) 0 (Nat.lt_succ_self _) (Nat.zero_le _)

set_option maxHeartbeats 4000000 in
set_option maxRecDepth 100000 in
theorem c_add (l : Launch) (D : va_G) (cI : ClassId) (tt : Nat × Nat × Nat) (a : Nat → Nat) (i : Nat → Int32) (r : Nat → Nat → Int32) (x : Int32) : MetI (S := ((Nat → Int32) × (Nat → Nat → Int32))) l yX0_add cX0_add 2 (some .boolean) (rm 1 22) D cI tt [.ref (a 1), .int x] (cW cI a i r) (fun q u => (nI 15 ≤ i 3 ∧ q = 0 ∧ u = (i, r)) ∨ (¬ nI 15 ≤ i 3 ∧ q = 1 ∧ u = (upd i 3 (i 3 + 1), va_up r 0 (putv 15 (r 0) (i 3) x)))) (fun u => cW cI a u.1 u.2) := by
  refine met_ofI (by decide) (Nat.le_of_ble_eq_true rfl) ?_
  intro pP eE sS mM aV bB mE cC AA C hin
  refine z_conv (lv' := [(0, .ref (a 1)), (1, .int x)]) ⟨rfl, rfl, trivial⟩ rfl rfl ?_
  refine z_aload_n C (pc := 0) dX0_add_0 rfl ?_
  refine z_get C (pc := 1) 1 rfl rfl wf_X0 1 (by decide) rfl wl_X0_15 (v := .int (i 3)) rfl dX0_add_1 ?_
  refine z_bipush C (pc := 4) (v := 15) dX0_add_4 (by decide) ?_
  refine z_icmp_lt C (pc := 6) (tgt := 11) dX0_add_6 (by decide) (fun c_1 => ?_) (fun c_1 => ?_)
  · refine z_aload_n C (pc := 11) dX0_add_11 rfl ?_
    refine z_get C (pc := 12) 1 rfl rfl wf_X0 0 (by decide) rfl wl_X0_9 (v := .ref (a 2)) rfl dX0_add_12 ?_
    refine z_aload_n C (pc := 15) dX0_add_15 rfl ?_
    refine z_get C (pc := 16) 1 rfl rfl wf_X0 1 (by decide) rfl wl_X0_15 (v := .int (i 3)) rfl dX0_add_16 ?_
    refine z_iload_n C (pc := 19) dX0_add_19 rfl ?_
    refine z_callv C (isC := [2]) rfl (by exact fun _ => rfl) (runSN C (wc := [(a 2, .inl (cI, 15, .inl (r 0)))]) (pc := 20) (rY' := rm 0 0) (nn := 3) (As := [.ref (a 2), .int (i 3), .int x]) (rest := []) (c_put l D cI tt (a 2) 15 (r 0) (i 3) x (by decide)) rfl rfl ⟨rfl, rfl, ⟨Nat.le_of_ble_eq_true rfl, Nat.le_of_ble_eq_true rfl⟩, Nat.le_of_ble_eq_true rfl, Nat.le_of_ble_eq_true rfl⟩ wl_X0_19 ws_X3_put wi_X3 wc_X3_put (by decide +kernel) rfl rfl (Nat.le_of_ble_eq_true rfl) dX0_add_20) (fun u_2 h_2 => ?_)
    subst h_2
    refine z_ws (st' := []) (ws' := (cW cI a i (va_up r 0 (putv 15 (r 0) (i 3) x)))) rfl rfl ?_
    refine z_aload_n C (pc := 23) dX0_add_23 rfl ?_
    refine z_dup C (pc := 24) dX0_add_24 rfl ?_
    refine z_get C (pc := 25) 1 rfl rfl wf_X0 1 (by decide) rfl wl_X0_15 (v := .int (i 3)) rfl dX0_add_25 ?_
    refine z_iconst C (pc := 28) (v := 1) dX0_add_28 (by decide) ?_
    refine z_iadd C (pc := 29) dX0_add_29 ?_
    refine z_put C (pc := 30) 1 rfl rfl wf_X0 1 (by decide) rfl tyX0 tyX0_ok nmX0 rfl rfl rfl (Nat.le_of_ble_eq_true rfl) (ws' := (cW cI a (upd i 3 ((i 3) + 1)) (va_up r 0 (putv 15 (r 0) (i 3) x)))) rfl wl_X0_15 dX0_add_30 ?_
    refine z_iconst C (pc := 33) (v := 1) dX0_add_33 (by decide) ?_
    refine z_zret C (pc := 34) ((upd i 3 ((i 3) + 1)), (va_up r 0 (putv 15 (r 0) (i 3) x))) dX0_add_34 rfl ?_ rfl
    first | exact Or.inl ⟨i_nlt.mp c_1, rfl, rfl⟩ | exact Or.inr ⟨i_nle.mpr c_1, rfl, rfl⟩
  · refine z_iconst C (pc := 9) (v := 0) dX0_add_9 (by decide) ?_
    refine z_zret C (pc := 10) (i, r) dX0_add_10 rfl ?_ rfl
    first | exact Or.inl ⟨i_nlt.mp c_1, rfl, rfl⟩ | exact Or.inr ⟨i_nle.mpr c_1, rfl, rfl⟩

set_option maxHeartbeats 4000000 in
set_option maxRecDepth 100000 in
theorem c_codeAt (l : Launch) (D : va_G) (cI : ClassId) (tt : Nat × Nat × Nat) (a : Nat → Nat) (i : Nat → Int32) (r : Nat → Nat → Int32) (x : Int32) : MetI (S := Unit) l yX0_codeAt cX0_codeAt 2 (some .int) (rm 1 21) D cI tt [.ref (a 1), .int x] (cW cI a i r) (fun q _ => q = atv 15 (r 0) x) (fun _ => cW cI a i r) := by
  refine met_ofI (by decide) (Nat.le_of_ble_eq_true rfl) ?_
  intro pP eE sS mM aV bB mE cC AA C hin
  refine z_conv (lv' := [(0, .ref (a 1)), (1, .int x)]) ⟨rfl, rfl, trivial⟩ rfl rfl ?_
  refine z_aload_n C (pc := 0) dX0_codeAt_0 rfl ?_
  refine z_get C (pc := 1) 1 rfl rfl wf_X0 0 (by decide) rfl wl_X0_9 (v := .ref (a 2)) rfl dX0_codeAt_1 ?_
  refine z_iload_n C (pc := 4) dX0_codeAt_4 rfl ?_
  refine z_calli C (isC := [2]) rfl (by exact fun _ => rfl) (runSN C (wc := [(a 2, .inl (cI, 15, .inl (r 0)))]) (pc := 5) (rY' := rm 0 0) (nn := 2) (As := [.ref (a 2), .int x]) (rest := []) (c_at l D cI tt (a 2) 15 (r 0) x (by decide)) rfl rfl ⟨rfl, rfl, ⟨Nat.le_of_ble_eq_true rfl, Nat.le_of_ble_eq_true rfl⟩, Nat.le_of_ble_eq_true rfl, Nat.le_of_ble_eq_true rfl⟩ wl_X0_23 ws_X3_at wi_X3 wc_X3_at (by decide +kernel) rfl rfl (Nat.le_of_ble_eq_true rfl) dX0_codeAt_5) (fun r_1 u_1 h_1 => ?_)
  subst h_1
  refine z_ws (st' := [.int (atv 15 (r 0) x)]) (ws' := (cW cI a i r)) rfl rfl ?_
  refine z_iret C (pc := 8) () dX0_codeAt_8 ?_ rfl
  rfl

set_option maxHeartbeats 4000000 in
set_option maxRecDepth 100000 in
theorem c_firstWrong (l : Launch) (D : va_G) (cI : ClassId) (tt : Nat × Nat × Nat) (a : Nat → Nat) (i : Nat → Int32) (r : Nat → Nat → Int32) (L : Nat) (hl : i 3 = nI L) (hL : L ≤ 15) : MetI (S := Unit) l yX0_firstWrong cX0_firstWrong 5 (some .int) (rm 2 42) D cI tt [.ref (a 1)] (cW cI a i r) (fun q _ => q = nI (scv (r 0) L 0 0).1) (fun _ => cW cI a i r) := by
  refine met_ofI (by decide) (Nat.le_of_ble_eq_true rfl) ?_
  intro pP eE sS mM aV bB mE cC AA C hin
  refine z_conv (lv' := [(0, .ref (a 1))]) ⟨rfl, trivial⟩ rfl rfl ?_
  refine z_iconst C (pc := 0) (v := 0) dX0_firstWrong_0 (by decide) ?_
  refine z_istore_n C (pc := 1) (lv' := [(0, .ref (a 1)), (1, .int 0)]) dX0_firstWrong_1 (Nat.le_of_ble_eq_true rfl) rfl rfl ?_
  refine z_iconst C (pc := 2) (v := (-1)) dX0_firstWrong_2 (by decide) ?_
  refine z_istore_n C (pc := 3) (lv' := [(0, .ref (a 1)), (1, .int 0), (2, .int (-1))]) dX0_firstWrong_3 (Nat.le_of_ble_eq_true rfl) rfl rfl ?_
  refine z_iconst C (pc := 4) (v := 0) dX0_firstWrong_4 (by decide) ?_
  refine z_istore_n C (pc := 5) (lv' := [(0, .ref (a 1)), (1, .int 0), (2, .int (-1)), (3, .int 0)]) dX0_firstWrong_5 (Nat.le_of_ble_eq_true rfl) rfl rfl ?_
  have key6 : ∀ (fu6 : Nat) (p en : Nat), L - p < fu6 → (p ≤ L) → (SI (r 0) p en) → (scv (r 0) (L - p) p en = scv (r 0) L 0 0) → Z pP l eE (rm 2 42) sS mM aV bB mE cC D AA 5 0 0 (MQ bB (va_Qi (S := Unit) (fun q _ => q = nI (scv (r 0) L 0 0).1) (fun u t => va_P D vwCl ((fun _ => cW cI a i r) u) t.heap) AA) aV sS 0 0 AA) 6 [(0, .ref (a 1)), (1, .int (nI (krv p en))), (2, .int (drv p en)), (3, .int (nI p))] [] (cW cI a i r) := by
    intro fu6
    induction fu6 with
    | zero => intro p en hfu6; exact absurd hfu6 (Nat.not_lt_zero _)
    | succ fu6 ih6 =>
      intro p en hfu6 hpl hsi heq
      refine z_iload_n C (pc := 6) dX0_firstWrong_6 rfl ?_
      refine z_aload_n C (pc := 7) dX0_firstWrong_7 rfl ?_
      refine z_get C (pc := 8) 1 rfl rfl wf_X0 1 (by decide) rfl wl_X0_15 (v := .int (i 3)) rfl dX0_firstWrong_8 ?_
      refine z_icmp_ge C (pc := 11) (tgt := 99) dX0_firstWrong_11 (by decide) (fun c_1 => ?_) (fun c_1 => ?_)
      · refine z_aload_n C (pc := 99) dX0_firstWrong_99 rfl ?_
        refine z_get C (pc := 100) 1 rfl rfl wf_X0 1 (by decide) rfl wl_X0_15 (v := .int (i 3)) rfl dX0_firstWrong_100 ?_
        refine z_iret C (pc := 103) () dX0_firstWrong_103 ?_ rfl
        rw [hl] at c_1
        have hpe : p = L := by
          have := ge_of_nI c_1 (by omega)
          omega
        rw [hl, ← heq, hpe, Nat.sub_self]
        rfl
      · rw [hl] at c_1
        have hp : p < L := lt_of_nI c_1 (by omega)
        have hsc : scv (r 0) ((L - (p + 1)) + 1) p en = scv (r 0) L 0 0 := by rw [← heq, show L - p = (L - (p + 1)) + 1 by omega]
        refine z_aload_n C (pc := 14) dX0_firstWrong_14 rfl ?_
        refine z_iload_n C (pc := 15) dX0_firstWrong_15 rfl ?_
        refine z_calliF C (by exact fun _ => cW_ad) (runV C (wc := (cW cI a i r)) (pc := 16) (rY' := rm 1 21) (nn := 1) (As := [.int (nI p)]) (rest := []) (c_codeAt l D cI tt a i r (nI p)) (full_hC _) (full_nd _) ⟨rfl, rfl, ⟨Nat.le_of_ble_eq_true rfl, Nat.le_of_ble_eq_true rfl⟩, Nat.le_of_ble_eq_true rfl, Nat.le_of_ble_eq_true rfl⟩ wl_X0_27 wm_X0_codeAt we_X0_codeAt wi_X0 wc_X0_codeAt (by decide +kernel) rfl 1 rfl rfl rfl rfl (Nat.le_of_ble_eq_true rfl) dX0_firstWrong_16) (fun q_2 u_2 h_2 => ?_)
        have h_2 : q_2 = r 0 p := h_2.trans (atv_nI (by omega) (by decide))
        subst h_2
        refine z_ws (st' := [.int (r 0 p)]) (ws' := (cW cI a i r)) rfl rfl ?_
        refine z_istore C (pc := 19) (lv' := [(0, .ref (a 1)), (1, .int (nI (krv p en))), (2, .int (drv p en)), (3, .int (nI p)), (4, .int (r 0 p))]) dX0_firstWrong_19 (Nat.le_of_ble_eq_true rfl) rfl rfl ?_
        refine z_iload_n C (pc := 21) dX0_firstWrong_21 rfl ?_
        refine z_iconst C (pc := 22) (v := (-1)) dX0_firstWrong_22 (by decide) ?_
        refine z_icmp_eq C (pc := 23) (tgt := 53) dX0_firstWrong_23 (by decide) (fun c_3 => ?_) (fun c_3 => ?_)
        · have he0 : en = 0 := (drv_ne (by omega)).mp c_3
          subst he0
          refine z_iload C (pc := 53) dX0_firstWrong_53 rfl ?_
          refine z_bipush C (pc := 55) (v := 59) dX0_firstWrong_55 (by decide) ?_
          refine z_icmp_ne C (pc := 57) (tgt := 70) dX0_firstWrong_57 (by decide) (fun c_4 => ?_) (fun c_4 => ?_)
          · have hns : ¬ (r 0 p = 59 ∧ 2 ≤ p) := fun h => c_4 h.1
            refine z_iload C (pc := 70) dX0_firstWrong_70 rfl ?_
            refine z_calli C (isC := []) rfl (by exact fun _ => rfl) (runSN C (wc := []) (pc := 72) (rY' := rm 0 0) (nn := 1) (As := [.int (r 0 p)]) (rest := []) (c_kindOf l D cI tt (r 0 p)) rfl rfl ⟨rfl, rfl, ⟨Nat.le_of_ble_eq_true rfl, Nat.le_of_ble_eq_true rfl⟩, Nat.le_of_ble_eq_true rfl, Nat.le_of_ble_eq_true rfl⟩ wl_X0_31 ws_X3_kindOf wi_X3 wc_X3_kindOf (by decide +kernel) rfl rfl (Nat.le_of_ble_eq_true rfl) dX0_firstWrong_72) (fun r_5 u_5 h_5 => ?_)
            subst h_5
            refine z_ws (st' := [.int (kindOfv (r 0 p))]) (ws' := (cW cI a i r)) rfl rfl ?_
            refine z_iconst C (pc := 75) (v := (-1)) dX0_firstWrong_75 (by decide) ?_
            refine z_icmp_eq C (pc := 76) (tgt := 91) dX0_firstWrong_76 (by decide) (fun c_6 => ?_) (fun c_6 => ?_)
            · have hbad : gdb (r 0) p 0 = false := by
                unfold gdb
                have h59' : ¬ r 0 p = 59 ∨ ¬ 2 ≤ p := by
                  rcases Classical.em (r 0 p = 59) with h | h
                  · exact Or.inr (fun h2 => hns ⟨h, h2⟩)
                  · exact Or.inl h
                rcases h59' with h | h <;> simp [h, c_6]
              refine z_iload_n C (pc := 91) dX0_firstWrong_91 rfl ?_
              refine z_iret C (pc := 92) () dX0_firstWrong_92 ?_ rfl
              rw [← hsc, scv_f hbad]
            · have hkn : kindOfv (r 0 p) ≠ -1 := c_6
              refine z_iload_n C (pc := 79) dX0_firstWrong_79 rfl ?_
              refine z_bipush C (pc := 80) (v := 6) dX0_firstWrong_80 (by decide) ?_
              refine z_icmp_ge C (pc := 82) (tgt := 91) dX0_firstWrong_82 (by decide) (fun c_7 => ?_) (fun c_7 => ?_)
              · have hp6 : ¬ p < 6 := fun h => nI_ge (a := p) (b := 6) h (by decide) c_7
                have hbad : gdb (r 0) p 0 = false := by
                  unfold gdb
                  have h59' : ¬ r 0 p = 59 ∨ ¬ 2 ≤ p := by
                    rcases Classical.em (r 0 p = 59) with h | h
                    · exact Or.inr (fun h2 => hns ⟨h, h2⟩)
                    · exact Or.inl h
                  rcases h59' with h | h <;> simp [h, hp6]
                refine z_iload_n C (pc := 91) dX0_firstWrong_91 rfl ?_
                refine z_iret C (pc := 92) () dX0_firstWrong_92 ?_ rfl
                rw [← hsc, scv_f hbad]
              · have hp6 : p < 6 := lt_of_nI c_7 (by omega)
                have hgo : gdb (r 0) p 0 = true := by unfold gdb; simp [hp6, hkn]
                have hge : gde (r 0) p 0 = 0 := by unfold gde; rw [if_neg (by simp), if_neg hns]
                refine z_iinc C (pc := 85) (v := ((nI (krv p 0)) + 1)) (lv' := [(0, .ref (a 1)), (1, .int ((nI (krv p 0)) + 1)), (2, .int (drv p 0)), (3, .int (nI p)), (4, .int (r 0 p))]) dX0_firstWrong_85 rfl rfl (Nat.le_of_ble_eq_true rfl) rfl rfl ?_
                refine z_goto C (pc := 88) (tgt := 93) dX0_firstWrong_88 (by decide) ?_
                refine z_iinc C (pc := 93) (v := ((nI p) + 1)) (lv' := [(0, .ref (a 1)), (1, .int ((nI (krv p 0)) + 1)), (2, .int (drv p 0)), (3, .int ((nI p) + 1)), (4, .int (r 0 p))]) dX0_firstWrong_93 rfl rfl (Nat.le_of_ble_eq_true rfl) rfl rfl ?_
                refine z_goto C (pc := 96) (tgt := 6) dX0_firstWrong_96 (by decide) ?_
                refine z_lv (lv' := [(0, .ref (a 1)), (1, .int (nI (krv (p + 1) 0))), (2, .int (drv (p + 1) 0)), (3, .int (nI (p + 1)))]) ⟨rfl, lki (by unfold krv; rw [if_pos rfl, if_pos rfl]; exact nI_1 p), rfl, lki (nI_1 p), trivial⟩ ?_
                exact ih6 (p + 1) 0 (by omega) hp (by have := SI_s hsi hgo; rw [hge] at this; exact this) (by rw [scv_t hgo, hge] at hsc; exact hsc)
          · have h59 : r 0 p = 59 := c_4
            refine z_iload_n C (pc := 60) dX0_firstWrong_60 rfl ?_
            refine z_iconst C (pc := 61) (v := 2) dX0_firstWrong_61 (by decide) ?_
            refine z_icmp_lt C (pc := 62) (tgt := 70) dX0_firstWrong_62 (by decide) (fun c_8 => ?_) (fun c_8 => ?_)
            · have hns : ¬ (r 0 p = 59 ∧ 2 ≤ p) := fun h => nI_nlt (a := p) (b := 2) h.2 (by omega) c_8
              refine z_iload C (pc := 70) dX0_firstWrong_70 rfl ?_
              refine z_calli C (isC := []) rfl (by exact fun _ => rfl) (runSN C (wc := []) (pc := 72) (rY' := rm 0 0) (nn := 1) (As := [.int (r 0 p)]) (rest := []) (c_kindOf l D cI tt (r 0 p)) rfl rfl ⟨rfl, rfl, ⟨Nat.le_of_ble_eq_true rfl, Nat.le_of_ble_eq_true rfl⟩, Nat.le_of_ble_eq_true rfl, Nat.le_of_ble_eq_true rfl⟩ wl_X0_31 ws_X3_kindOf wi_X3 wc_X3_kindOf (by decide +kernel) rfl rfl (Nat.le_of_ble_eq_true rfl) dX0_firstWrong_72) (fun r_9 u_9 h_9 => ?_)
              subst h_9
              refine z_ws (st' := [.int (kindOfv (r 0 p))]) (ws' := (cW cI a i r)) rfl rfl ?_
              refine z_iconst C (pc := 75) (v := (-1)) dX0_firstWrong_75 (by decide) ?_
              refine z_icmp_eq C (pc := 76) (tgt := 91) dX0_firstWrong_76 (by decide) (fun c_10 => ?_) (fun c_10 => ?_)
              · have hbad : gdb (r 0) p 0 = false := by
                  unfold gdb
                  have h59' : ¬ r 0 p = 59 ∨ ¬ 2 ≤ p := by
                    rcases Classical.em (r 0 p = 59) with h | h
                    · exact Or.inr (fun h2 => hns ⟨h, h2⟩)
                    · exact Or.inl h
                  rcases h59' with h | h <;> simp [h, c_10]
                refine z_iload_n C (pc := 91) dX0_firstWrong_91 rfl ?_
                refine z_iret C (pc := 92) () dX0_firstWrong_92 ?_ rfl
                rw [← hsc, scv_f hbad]
              · have hkn : kindOfv (r 0 p) ≠ -1 := c_10
                refine z_iload_n C (pc := 79) dX0_firstWrong_79 rfl ?_
                refine z_bipush C (pc := 80) (v := 6) dX0_firstWrong_80 (by decide) ?_
                refine z_icmp_ge C (pc := 82) (tgt := 91) dX0_firstWrong_82 (by decide) (fun c_11 => ?_) (fun c_11 => ?_)
                · have hp6 : ¬ p < 6 := fun h => nI_ge (a := p) (b := 6) h (by decide) c_11
                  have hbad : gdb (r 0) p 0 = false := by
                    unfold gdb
                    have h59' : ¬ r 0 p = 59 ∨ ¬ 2 ≤ p := by
                      rcases Classical.em (r 0 p = 59) with h | h
                      · exact Or.inr (fun h2 => hns ⟨h, h2⟩)
                      · exact Or.inl h
                    rcases h59' with h | h <;> simp [h, hp6]
                  refine z_iload_n C (pc := 91) dX0_firstWrong_91 rfl ?_
                  refine z_iret C (pc := 92) () dX0_firstWrong_92 ?_ rfl
                  rw [← hsc, scv_f hbad]
                · have hp6 : p < 6 := lt_of_nI c_11 (by omega)
                  have hgo : gdb (r 0) p 0 = true := by unfold gdb; simp [hp6, hkn]
                  have hge : gde (r 0) p 0 = 0 := by unfold gde; rw [if_neg (by simp), if_neg hns]
                  refine z_iinc C (pc := 85) (v := ((nI (krv p 0)) + 1)) (lv' := [(0, .ref (a 1)), (1, .int ((nI (krv p 0)) + 1)), (2, .int (drv p 0)), (3, .int (nI p)), (4, .int (r 0 p))]) dX0_firstWrong_85 rfl rfl (Nat.le_of_ble_eq_true rfl) rfl rfl ?_
                  refine z_goto C (pc := 88) (tgt := 93) dX0_firstWrong_88 (by decide) ?_
                  refine z_iinc C (pc := 93) (v := ((nI p) + 1)) (lv' := [(0, .ref (a 1)), (1, .int ((nI (krv p 0)) + 1)), (2, .int (drv p 0)), (3, .int ((nI p) + 1)), (4, .int (r 0 p))]) dX0_firstWrong_93 rfl rfl (Nat.le_of_ble_eq_true rfl) rfl rfl ?_
                  refine z_goto C (pc := 96) (tgt := 6) dX0_firstWrong_96 (by decide) ?_
                  refine z_lv (lv' := [(0, .ref (a 1)), (1, .int (nI (krv (p + 1) 0))), (2, .int (drv (p + 1) 0)), (3, .int (nI (p + 1)))]) ⟨rfl, lki (by unfold krv; rw [if_pos rfl, if_pos rfl]; exact nI_1 p), rfl, lki (nI_1 p), trivial⟩ ?_
                  exact ih6 (p + 1) 0 (by omega) hp (by have := SI_s hsi hgo; rw [hge] at this; exact this) (by rw [scv_t hgo, hge] at hsc; exact hsc)
            · have h2p : 2 ≤ p := Nat.le_of_not_lt (fun h => c_8 (nI_lt h (by decide)))
              have hgo : gdb (r 0) p 0 = true := by unfold gdb; simp [h59, h2p]
              have hge : gde (r 0) p 0 = p + 1 := by unfold gde; simp [h59, h2p]
              refine z_iconst C (pc := 65) (v := 0) dX0_firstWrong_65 (by decide) ?_
              refine z_istore_n C (pc := 66) (lv' := [(0, .ref (a 1)), (1, .int (nI (krv p 0))), (2, .int 0), (3, .int (nI p)), (4, .int (r 0 p))]) dX0_firstWrong_66 (Nat.le_of_ble_eq_true rfl) rfl rfl ?_
              refine z_goto C (pc := 67) (tgt := 93) dX0_firstWrong_67 (by decide) ?_
              refine z_iinc C (pc := 93) (v := ((nI p) + 1)) (lv' := [(0, .ref (a 1)), (1, .int (nI (krv p 0))), (2, .int 0), (3, .int ((nI p) + 1)), (4, .int (r 0 p))]) dX0_firstWrong_93 rfl rfl (Nat.le_of_ble_eq_true rfl) rfl rfl ?_
              refine z_goto C (pc := 96) (tgt := 6) dX0_firstWrong_96 (by decide) ?_
              refine z_lv (lv' := [(0, .ref (a 1)), (1, .int (nI (krv (p + 1) (p + 1)))), (2, .int (drv (p + 1) (p + 1))), (3, .int (nI (p + 1)))]) ⟨rfl, lki (by unfold krv; rw [if_pos rfl, if_neg (by omega)]; rfl), lki (by unfold drv; rw [if_neg (by omega), Nat.sub_self]; rfl), lki (nI_1 p), trivial⟩ ?_
              exact ih6 (p + 1) (p + 1) (by omega) hp (by have := SI_s hsi hgo; rw [hge] at this; exact this) (by rw [scv_t hgo, hge] at hsc; exact hsc)
        · have he1 : en ≠ 0 := fun h => c_3 ((drv_ne (by omega)).mpr h)
          have hs2 := hsi.2.1 he1
          have hdr : drv p en = nI (p - en) := if_neg he1
          refine z_iload_n C (pc := 26) dX0_firstWrong_26 rfl ?_
          refine z_iconst C (pc := 27) (v := 5) dX0_firstWrong_27 (by decide) ?_
          refine z_icmp_eq C (pc := 28) (tgt := 45) dX0_firstWrong_28 (by decide) (fun c_12 => ?_) (fun c_12 => ?_)
          · have h5 : p - en = 5 := by rw [hdr] at c_12; exact (nI_eq (b := 5) (by omega) (by decide)).mp c_12
            have hbad : gdb (r 0) p en = false := by
              unfold gdb
              rw [if_pos he1]
              simp [show ¬ p < en + 5 by omega]
            refine z_iload_n C (pc := 45) dX0_firstWrong_45 rfl ?_
            refine z_iret C (pc := 46) () dX0_firstWrong_46 ?_ rfl
            rw [← hsc, scv_f hbad]
          · have h5 : p < en + 5 := by
              have : p - en ≠ 5 := fun h => c_12 (by rw [hdr, h]; rfl)
              omega
            refine z_iload C (pc := 31) dX0_firstWrong_31 rfl ?_
            refine z_bipush C (pc := 33) (v := 48) dX0_firstWrong_33 (by decide) ?_
            refine z_icmp_lt C (pc := 35) (tgt := 45) dX0_firstWrong_35 (by decide) (fun c_13 => ?_) (fun c_13 => ?_)
            · have hbad : gdb (r 0) p en = false := by
                unfold gdb
                rw [if_pos he1]
                simp [i_nle.mpr c_13]
              refine z_iload_n C (pc := 45) dX0_firstWrong_45 rfl ?_
              refine z_iret C (pc := 46) () dX0_firstWrong_46 ?_ rfl
              rw [← hsc, scv_f hbad]
            · have h48 := i_nlt.mp c_13
              refine z_iload C (pc := 38) dX0_firstWrong_38 rfl ?_
              refine z_bipush C (pc := 40) (v := 57) dX0_firstWrong_40 (by decide) ?_
              refine z_icmp_le C (pc := 42) (tgt := 47) dX0_firstWrong_42 (by decide) (fun c_14 => ?_) (fun c_14 => ?_)
              · have hgo : gdb (r 0) p en = true := by
                  unfold gdb
                  rw [if_pos he1]
                  simp [h5, h48, c_14]
                have hge : gde (r 0) p en = en := if_pos he1
                refine z_iinc C (pc := 47) (v := ((drv p en) + 1)) (lv' := [(0, .ref (a 1)), (1, .int (nI (krv p en))), (2, .int ((drv p en) + 1)), (3, .int (nI p)), (4, .int (r 0 p))]) dX0_firstWrong_47 rfl rfl (Nat.le_of_ble_eq_true rfl) rfl rfl ?_
                refine z_goto C (pc := 50) (tgt := 93) dX0_firstWrong_50 (by decide) ?_
                refine z_iinc C (pc := 93) (v := ((nI p) + 1)) (lv' := [(0, .ref (a 1)), (1, .int (nI (krv p en))), (2, .int ((drv p en) + 1)), (3, .int ((nI p) + 1)), (4, .int (r 0 p))]) dX0_firstWrong_93 rfl rfl (Nat.le_of_ble_eq_true rfl) rfl rfl ?_
                refine z_goto C (pc := 96) (tgt := 6) dX0_firstWrong_96 (by decide) ?_
                refine z_lv (lv' := [(0, .ref (a 1)), (1, .int (nI (krv (p + 1) en))), (2, .int (drv (p + 1) en)), (3, .int (nI (p + 1)))]) ⟨rfl, lki (by unfold krv; rw [if_neg he1, if_neg he1]), lki (by rw [hdr, nI_1]; unfold drv; rw [if_neg he1, show p + 1 - en = p - en + 1 by omega]), lki (nI_1 p), trivial⟩ ?_
                exact ih6 (p + 1) en (by omega) hp (by have := SI_s hsi hgo; rw [hge] at this; exact this) (by rw [scv_t hgo, hge] at hsc; exact hsc)
              · have hbad : gdb (r 0) p en = false := by
                  unfold gdb
                  rw [if_pos he1]
                  simp [c_14]
                refine z_iload_n C (pc := 45) dX0_firstWrong_45 rfl ?_
                refine z_iret C (pc := 46) () dX0_firstWrong_46 ?_ rfl
                rw [← hsc, scv_f hbad]
  refine z_lv (lv' := [(0, .ref (a 1)), (1, .int (nI (krv 0 0))), (2, .int (drv 0 0)), (3, .int (nI 0))]) ⟨rfl, rfl, rfl, rfl, trivial⟩ ?_
  exact key6 (_ + 1) 0 0 (Nat.lt_succ_self _) (Nat.zero_le _) SI_0 rfl
end
section
theorem camp_at {f : Nat → Int32} {L : Nat} (hL : L ≤ 15) (h : (scv f L 0 0).1 = L) : atv 15 f (nI L - 5 - 1) = 59 ↔ ((scv f L 0 0).2 ≠ 0 ∧ L = (scv f L 0 0).2 + 5) := by
  have hs := scv_SI (f := f) L 0 0 SI_0
  rw [h] at hs
  obtain ⟨h1, h2, h3, -⟩ := hs
  by_cases h6 : 6 ≤ L
  · have e : nI L - 5 - 1 = nI (L - 6) := by
      rw [show (5 : Int32) = nI 5 from rfl, pk_sub (by omega), show (1 : Int32) = nI 1 from rfl, pk_sub (by omega)]
      rfl
    rw [e, atv_nI (by omega) (by decide), h1 (L - 6) (by omega)]
    omega
  · have hneg : (nI L - 5 - 1) < 0 := (show ∀ L, L < 6 → nI L - 5 - 1 < 0 by decide +kernel) L (by omega)
    have e : atv 15 f (nI L - 5 - 1) = 0 := by unfold atv; rw [if_pos hneg]
    rw [e]
    refine ⟨fun h => absurd h (by decide), fun h => ?_⟩
    have := h2 h.1
    omega
theorem crn_eq {t : Nat} (h : t < 2147483648) : nI t >>> ((16 : Int32) &&& 31) - nI t >>> ((16 : Int32) &&& 31) / 3 * 3 = nI (crn t) := by
  have e : nI t >>> ((16 : Int32) &&& 31) = nI (t / 2 ^ 16) := pk_shrN h _ 16 (by decide)
  rw [e]
  have e2 := pk_rem (a := t / 2 ^ 16) (d := 3) (by omega) (by decide) (by decide)
  have e3 : (3 : Int32) = nI 3 := rfl
  rw [e3, e2]
  unfold crn
  rw [show (2 : Nat) ^ 16 = 65536 from rfl]
theorem crw_s (j : Nat) (z : Nat × (Nat → Nat)) : crw (j + 1) z = crp 5 (crw j z) := rfl
theorem crp_1 (k : Nat) (z : Nat × (Nat → Nat)) : (crp (k + 1) z).1 = nxt (crp k z).1 := rfl
theorem crp_2 (k : Nat) (z : Nat × (Nat → Nat)) : (crp (k + 1) z).2 = upN (crp k z).2 k ((crp k z).2 k - crn (nxt (crp k z).1)) := rfl
def CRO (z : Nat × (Nat → Nat)) : Prop := z.1 < 2147483648 ∧ ∀ k, k < 5 → z.2 k ≤ 9
theorem crp_ok {z : Nat × (Nat → Nat)} (h : CRO z) : ∀ k, CRO (crp k z)
  | 0 => h
  | k + 1 => by
    have h1 := crp_ok h k
    refine ⟨nxt_lt _, fun q hq => ?_⟩
    show upN _ k _ q ≤ 9
    unfold upN
    by_cases e : q = k
    · rw [if_pos e]; exact Nat.le_trans (Nat.sub_le _ _) (h1.2 k (by omega))
    · rw [if_neg e]; exact h1.2 q hq
theorem crw_ok {t : Nat} {c : Nat → Nat} (ht : t < 2147483648) (hc : ∀ k, k < 5 → c k ≤ 9) : ∀ j, CRO (crw j (t, c))
  | 0 => ⟨ht, hc⟩
  | j + 1 => crp_ok (crw_ok ht hc j) 5
set_option maxHeartbeats 4000000 in
set_option maxRecDepth 100000 in
theorem c_begin (l : Launch) (D : va_G) (cI : ClassId) (tt : Nat × Nat × Nat) (a : Nat → Nat) (i : Nat → Int32) (r : Nat → Nat → Int32) (x : Int32) : MetV (S := ((Nat → Int32) × (Nat → Nat → Int32))) l yX2_begin cX2_begin 2 none (rm 0 0) D cI tt [.ref (a 6), .int x] (cW cI a i r) (fun u => u = ((upd (upd (upd (upd i 10 x) 11 0) 12 0) 13 0), r)) (fun u => cW cI a u.1 u.2) := by
  refine met_ofV (by decide) (Nat.le_of_ble_eq_true rfl) ?_
  intro pP eE sS mM aV bB mE cC AA C hin
  refine z_conv (lv' := [(0, .ref (a 6)), (1, .int x)]) ⟨rfl, rfl, trivial⟩ rfl rfl ?_
  refine z_aload_n C (pc := 0) dX2_begin_0 rfl ?_
  refine z_iload_n C (pc := 1) dX2_begin_1 rfl ?_
  refine z_put C (pc := 2) 6 rfl rfl wf_X2 0 (by decide) rfl tyX2 tyX2_ok nmX2 rfl rfl rfl (Nat.le_of_ble_eq_true rfl) (ws' := (cW cI a (upd i 10 x) r)) rfl wl_X2_27 dX2_begin_2 ?_
  refine z_aload_n C (pc := 5) dX2_begin_5 rfl ?_
  refine z_iconst C (pc := 6) (v := 0) dX2_begin_6 (by decide) ?_
  refine z_put C (pc := 7) 6 rfl rfl wf_X2 2 (by decide) rfl tyX2 tyX2_ok nmX2 rfl rfl rfl (Nat.le_of_ble_eq_true rfl) (ws' := (cW cI a (upd (upd i 10 x) 11 0) r)) rfl wl_X2_31 dX2_begin_7 ?_
  refine z_aload_n C (pc := 10) dX2_begin_10 rfl ?_
  refine z_iconst C (pc := 11) (v := 0) dX2_begin_11 (by decide) ?_
  refine z_put C (pc := 12) 6 rfl rfl wf_X2 3 (by decide) rfl tyX2 tyX2_ok nmX2 rfl rfl rfl (Nat.le_of_ble_eq_true rfl) (ws' := (cW cI a (upd (upd (upd i 10 x) 11 0) 12 0) r)) rfl wl_X2_34 dX2_begin_12 ?_
  refine z_aload_n C (pc := 15) dX2_begin_15 rfl ?_
  refine z_iconst C (pc := 16) (v := 0) dX2_begin_16 (by decide) ?_
  refine z_put C (pc := 17) 6 rfl rfl wf_X2 4 (by decide) rfl tyX2 tyX2_ok nmX2 rfl rfl rfl (Nat.le_of_ble_eq_true rfl) (ws' := (cW cI a (upd (upd (upd (upd i 10 x) 11 0) 12 0) 13 0) r)) rfl wl_X2_37 dX2_begin_17 ?_
  refine z_vret C (pc := 20) ((upd (upd (upd (upd i 10 x) 11 0) 12 0) 13 0), r) dX2_begin_20 ?_ rfl
  rfl




set_option maxHeartbeats 4000000 in
set_option maxRecDepth 100000 in
theorem c_isCamp (l : Launch) (D : va_G) (cI : ClassId) (tt : Nat × Nat × Nat) (a : Nat → Nat) (i : Nat → Int32) (r : Nat → Nat → Int32) (L : Nat) (hl : i 3 = nI L) (hL : L ≤ 15) : MetI (S := Unit) l yX0_isCamp cX0_isCamp 1 (some .boolean) (rm 3 66) D cI tt [.ref (a 1)] (cW cI a i r) (fun q _ => q = b2 (campb (r 0) L)) (fun _ => cW cI a i r) := by
  refine met_ofI (by decide) (Nat.le_of_ble_eq_true rfl) ?_
  intro pP eE sS mM aV bB mE cC AA C hin
  refine z_conv (lv' := [(0, .ref (a 1))]) ⟨rfl, trivial⟩ rfl rfl ?_
  refine z_aload_n C (pc := 0) dX0_isCamp_0 rfl ?_
  refine z_calliF C (by exact fun _ => cW_ad) (runV C (wc := (cW cI a i r)) (pc := 1) (rY' := rm 2 42) (nn := 0) (As := []) (rest := []) (c_firstWrong l D cI tt a i r L hl hL) (full_hC _) (full_nd _) ⟨rfl, rfl, ⟨Nat.le_of_ble_eq_true rfl, Nat.le_of_ble_eq_true rfl⟩, Nat.le_of_ble_eq_true rfl, Nat.le_of_ble_eq_true rfl⟩ wl_X0_34 wm_X0_firstWrong we_X0_firstWrong wi_X0 wc_X0_firstWrong (by decide +kernel) rfl 1 rfl rfl rfl rfl (Nat.le_of_ble_eq_true rfl) dX0_isCamp_1) (fun q_1 u_1 h_1 => ?_)
  subst h_1
  refine z_ws (st' := [.int (nI (scv (r 0) L 0 0).1)]) (ws' := (cW cI a i r)) rfl rfl ?_
  refine z_aload_n C (pc := 4) dX0_isCamp_4 rfl ?_
  refine z_get C (pc := 5) 1 rfl rfl wf_X0 1 (by decide) rfl wl_X0_15 (v := .int (i 3)) rfl dX0_isCamp_5 ?_
  refine z_icmp_ne C (pc := 8) (tgt := 32) dX0_isCamp_8 (by decide) (fun c_2 => ?_) (fun c_2 => ?_)
  · rw [hl] at c_2
    have hsl := scv_le (f := r 0) L 0 0
    have hx : ¬ (scv (r 0) L 0 0).1 = L := fun h => c_2 (by rw [h])
    refine z_iconst C (pc := 32) (v := 0) dX0_isCamp_32 (by decide) ?_
    refine z_zret C (pc := 33) () dX0_isCamp_33 rfl ?_ rfl
    unfold campb b2
    rw [decide_eq_false hx]
    rfl
  · rw [hl] at c_2
    have hsl := scv_le (f := r 0) L 0 0
    have hx : (scv (r 0) L 0 0).1 = L := (nI_eq (by omega) (by omega)).mp c_2
    refine z_aload_n C (pc := 11) dX0_isCamp_11 rfl ?_
    refine z_aload_n C (pc := 12) dX0_isCamp_12 rfl ?_
    refine z_get C (pc := 13) 1 rfl rfl wf_X0 1 (by decide) rfl wl_X0_15 (v := .int (i 3)) rfl dX0_isCamp_13 ?_
    refine z_iconst C (pc := 16) (v := 5) dX0_isCamp_16 (by decide) ?_
    refine z_isub C (pc := 17) dX0_isCamp_17 ?_
    refine z_iconst C (pc := 18) (v := 1) dX0_isCamp_18 (by decide) ?_
    refine z_isub C (pc := 19) dX0_isCamp_19 ?_
    refine z_calliF C (by exact fun _ => cW_ad) (runV C (wc := (cW cI a i r)) (pc := 20) (rY' := rm 1 21) (nn := 1) (As := [.int (((i 3) - 5) - 1)]) (rest := []) (c_codeAt l D cI tt a i r (((i 3) - 5) - 1)) (full_hC _) (full_nd _) ⟨rfl, rfl, ⟨Nat.le_of_ble_eq_true rfl, Nat.le_of_ble_eq_true rfl⟩, Nat.le_of_ble_eq_true rfl, Nat.le_of_ble_eq_true rfl⟩ wl_X0_27 wm_X0_codeAt we_X0_codeAt wi_X0 wc_X0_codeAt (by decide +kernel) rfl 1 rfl rfl rfl rfl (Nat.le_of_ble_eq_true rfl) dX0_isCamp_20) (fun q_3 u_3 h_3 => ?_)
    subst h_3
    refine z_ws (st' := [.int (atv 15 (r 0) (((i 3) - 5) - 1))]) (ws' := (cW cI a i r)) rfl rfl ?_
    refine z_bipush C (pc := 23) (v := 59) dX0_isCamp_23 (by decide) ?_
    refine z_icmp_ne C (pc := 25) (tgt := 32) dX0_isCamp_25 (by decide) (fun c_4 => ?_) (fun c_4 => ?_)
    · refine z_iconst C (pc := 32) (v := 0) dX0_isCamp_32 (by decide) ?_
      refine z_zret C (pc := 33) () dX0_isCamp_33 rfl ?_ rfl
      rw [hl] at c_4
      have hy : ¬ ((scv (r 0) L 0 0).2 ≠ 0 ∧ L = (scv (r 0) L 0 0).2 + 5) := fun h => c_4 ((camp_at hL hx).mpr h)
      unfold campb b2
      rw [decide_eq_true hx, Bool.true_and, ← Bool.decide_and, decide_eq_false hy]
      rfl
    · refine z_iconst C (pc := 28) (v := 1) dX0_isCamp_28 (by decide) ?_
      refine z_goto C (pc := 29) (tgt := 33) dX0_isCamp_29 (by decide) ?_
      refine z_zret C (pc := 33) () dX0_isCamp_33 rfl ?_ rfl
      rw [hl] at c_4
      have hy := (camp_at hL hx).mp c_4
      unfold campb b2
      rw [decide_eq_true hx, decide_eq_true hy.1, decide_eq_true hy.2]
      rfl
end
section
set_option maxHeartbeats 4000000 in
set_option maxRecDepth 100000 in
theorem c_letCreep (l : Launch) (D : va_G) (cI : ClassId) (tt : Nat × Nat × Nat) (a : Nat → Nat) (i : Nat → Int32) (r : Nat → Nat → Int32) (c : Nat → Nat) (hc : ∀ k, k < 5 → r 3 k = nI (c k) ∧ c k ≤ 9) (mn t : Nat) (hmn : mn ≤ 20) (ht : t < 2147483648) : MetI (S := (Nat → Nat → Int32)) l yX3_letCreep cX3_letCreep 7 (some .int) (rm 2 44) D cI tt [.ref (a 0), .int (nI mn), .int (nI t)] (cW cI a i r) (fun q r' => q = nI (crw mn (t, c)).1 ∧ (∀ q, q ≠ 13 → r' q = r q) ∧ ∀ q, q < 5 → r' 13 q = nI ((crw mn (t, c)).2 q)) (fun r' => cW cI a i r') := by
  have hcc : ∀ k, k < 5 → c k ≤ 9 := fun k hk => (hc k hk).2
  refine met_ofI (by decide) (Nat.le_of_ble_eq_true rfl) ?_
  intro pP eE sS mM aV bB mE cC AA C hin
  refine z_conv (lv' := [(0, .ref (a 0)), (1, .int (nI mn)), (2, .int (nI t))]) ⟨rfl, rfl, rfl, trivial⟩ rfl rfl ?_
  refine z_aload_n C (pc := 0) dX3_letCreep_0 rfl ?_
  refine z_get C (pc := 1) 0 rfl rfl wf_X3 2 (by decide) rfl wl_X3_26 (v := .ref (a 6)) rfl dX3_letCreep_1 ?_
  refine z_getN C (pc := 4) 6 rfl rfl wf_X2 1 (by decide) rfl wl_X3_77 (v := .ref (a 7)) rfl dX3_letCreep_4 ?_
  refine z_aload_n C (pc := 7) dX3_letCreep_7 rfl ?_
  refine z_get C (pc := 8) 0 rfl rfl wf_X3 4 (by decide) rfl wl_X3_33 (v := .ref (a 18)) rfl dX3_letCreep_8 ?_
  refine z_callv C (isC := [7, 18]) rfl (by exact fun _ => rfl) (runS C (wc := [(a 7, .inl (cI, 5, .inl (r 3))), (a 18, .inl (cI, 5, .inl (r 13)))]) (pc := 11) (rY' := rm 1 22) (nn := 2) (As := [.ref (a 7), .ref (a 18)]) (rest := []) (c_copy l D cI tt (a 7) 5 (a 18) 5 (r 3) (r 13) (by decide) (by decide)) rfl rfl ⟨rfl, rfl, ⟨Nat.le_of_ble_eq_true rfl, Nat.le_of_ble_eq_true rfl⟩, Nat.le_of_ble_eq_true rfl, Nat.le_of_ble_eq_true rfl⟩ wl_X3_133 ws_X3_copy wi_X3 wc_X3_copy (by decide +kernel) rfl rfl (Nat.le_of_ble_eq_true rfl) dX3_letCreep_11) (fun u_1 h_1 => ?_)
  subst h_1
  refine z_ws (st' := []) (ws' := (cW cI a i (va_up r 13 (cpv 5 (r 3) 5 (r 13) 5)))) rfl rfl ?_
  refine z_iload_n C (pc := 14) dX3_letCreep_14 rfl ?_
  refine z_istore_n C (pc := 15) (lv' := [(0, .ref (a 0)), (1, .int (nI mn)), (2, .int (nI t)), (3, .int (nI t))]) dX3_letCreep_15 (Nat.le_of_ble_eq_true rfl) rfl rfl ?_
  refine z_iconst C (pc := 16) (v := 0) dX3_letCreep_16 (by decide) ?_
  refine z_istore C (pc := 17) (lv' := [(0, .ref (a 0)), (1, .int (nI mn)), (2, .int (nI t)), (3, .int (nI t)), (4, .int 0)]) dX3_letCreep_17 (Nat.le_of_ble_eq_true rfl) rfl rfl ?_
  have key19 : ∀ (fu19 : Nat) (j : Nat) (r' : Nat → Nat → Int32), mn - j < fu19 → (j ≤ mn) → (∀ q, q ≠ 13 → r' q = r q) → (∀ q, q < 5 → r' 13 q = nI ((crw j (t, c)).2 q)) → Z pP l eE (rm 2 44) sS mM aV bB mE cC D AA 7 0 0 (MQ bB (va_Qi (S := (Nat → Nat → Int32)) (fun q r' => q = nI (crw mn (t, c)).1 ∧ (∀ q, q ≠ 13 → r' q = r q) ∧ ∀ q, q < 5 → r' 13 q = nI ((crw mn (t, c)).2 q)) (fun u t => va_P D vwCl ((fun r' => cW cI a i r') u) t.heap) AA) aV sS 0 0 AA) 19 [(0, .ref (a 0)), (1, .int (nI mn)), (2, .int (nI t)), (3, .int (nI (crw j (t, c)).1)), (4, .int (nI j))] [] (cW cI a i r') := by
    intro fu19
    induction fu19 with
    | zero => intro j r' hfu19; exact absurd hfu19 (Nat.not_lt_zero _)
    | succ fu19 ih19 =>
      intro j r' hfu19 hjm hr' hw'
      refine z_iload C (pc := 19) dX3_letCreep_19 rfl ?_
      refine z_iload_n C (pc := 21) dX3_letCreep_21 rfl ?_
      refine z_icmp_ge C (pc := 22) (tgt := 84) dX3_letCreep_22 (by decide) (fun c_2 => ?_) (fun c_2 => ?_)
      · refine z_iload_n C (pc := 84) dX3_letCreep_84 rfl ?_
        refine z_iret C (pc := 85) r' dX3_letCreep_85 ?_ rfl
        have hje : j = mn := by
          have := ge_of_nI c_2 (by omega)
          omega
        subst hje
        exact ⟨rfl, hr', hw'⟩
      · have hj : j < mn := lt_of_nI c_2 (by omega)
        have hokj := crw_ok ht hcc j
        refine z_iconst C (pc := 25) (v := 0) dX3_letCreep_25 (by decide) ?_
        refine z_istore C (pc := 26) (lv' := [(0, .ref (a 0)), (1, .int (nI mn)), (2, .int (nI t)), (3, .int (nI (crw j (t, c)).1)), (4, .int (nI j)), (5, .int 0)]) dX3_letCreep_26 (Nat.le_of_ble_eq_true rfl) rfl rfl ?_
        have key28 : ∀ (fu28 : Nat) (k : Nat) (r2 : Nat → Nat → Int32), 5 - k < fu28 → (k ≤ 5) → (∀ q, q ≠ 13 → r2 q = r q) → (∀ q, q < 5 → r2 13 q = nI ((crp k (crw j (t, c))).2 q)) → Z pP l eE (rm 2 44) sS mM aV bB mE cC D AA 7 0 0 (MQ bB (va_Qi (S := (Nat → Nat → Int32)) (fun q r' => q = nI (crw mn (t, c)).1 ∧ (∀ q, q ≠ 13 → r' q = r q) ∧ ∀ q, q < 5 → r' 13 q = nI ((crw mn (t, c)).2 q)) (fun u t => va_P D vwCl ((fun r' => cW cI a i r') u) t.heap) AA) aV sS 0 0 AA) 28 [(0, .ref (a 0)), (1, .int (nI mn)), (2, .int (nI t)), (3, .int (nI (crp k (crw j (t, c))).1)), (4, .int (nI j)), (5, .int (nI k))] [] (cW cI a i r2) := by
          intro fu28
          induction fu28 with
          | zero => intro k r2 hfu28; exact absurd hfu28 (Nat.not_lt_zero _)
          | succ fu28 ih28 =>
            intro k r2 hfu28 hk5 hr2 hw2
            refine z_iload C (pc := 28) dX3_letCreep_28 rfl ?_
            refine z_iconst C (pc := 30) (v := 5) dX3_letCreep_30 (by decide) ?_
            refine z_icmp_ge C (pc := 31) (tgt := 78) dX3_letCreep_31 (by decide) (fun c_3 => ?_) (fun c_3 => ?_)
            · have hk5e : k = 5 := by
                have := ge_of_nI (n := 5) c_3 (by decide)
                omega
              subst hk5e
              refine z_iinc C (pc := 78) (v := ((nI j) + 1)) (lv' := [(0, .ref (a 0)), (1, .int (nI mn)), (2, .int (nI t)), (3, .int (nI (crp 5 (crw j (t, c))).1)), (4, .int ((nI j) + 1)), (5, .int (nI 5))]) dX3_letCreep_78 rfl rfl (Nat.le_of_ble_eq_true rfl) rfl rfl ?_
              refine z_goto C (pc := 81) (tgt := 19) dX3_letCreep_81 (by decide) ?_
              refine z_lv (lv' := [(0, .ref (a 0)), (1, .int (nI mn)), (2, .int (nI t)), (3, .int (nI (crw (j + 1) (t, c)).1)), (4, .int (nI (j + 1)))]) ⟨rfl, rfl, rfl, lki (by rw [crw_s]), lki (nI_1 j), trivial⟩ ?_
              exact ih19 (j + 1) r2 (by omega) hj hr2 (by rw [crw_s]; exact hw2)
            · have hk : k < 5 := lt_of_nI (n := 5) c_3 (by omega)
              have hok := crp_ok hokj k
              refine z_iload_n C (pc := 34) dX3_letCreep_34 rfl ?_
              refine z_calli C (isC := []) rfl (by exact fun _ => rfl) (runS C (wc := []) (pc := 35) (rY' := rm 0 0) (nn := 1) (As := [.int (nI (crp k (crw j (t, c))).1)]) (rest := []) (c_nextSeed l D cI tt (nI (crp k (crw j (t, c))).1)) rfl rfl ⟨rfl, rfl, ⟨Nat.le_of_ble_eq_true rfl, Nat.le_of_ble_eq_true rfl⟩, Nat.le_of_ble_eq_true rfl, Nat.le_of_ble_eq_true rfl⟩ wl_X3_239 ws_X3_nextSeed wi_X3 wc_X3_nextSeed (by decide +kernel) rfl rfl (Nat.le_of_ble_eq_true rfl) dX3_letCreep_35) (fun r_4 u_4 h_4 => ?_)
              have h_4 : r_4 = nI (nxt (crp k (crw j (t, c))).1) := h_4.trans (nextSeed_nI hok.1)
              subst h_4
              refine z_ws (st' := [.int (nI (nxt (crp k (crw j (t, c))).1))]) (ws' := (cW cI a i r2)) rfl rfl ?_
              refine z_istore_n C (pc := 38) (lv' := [(0, .ref (a 0)), (1, .int (nI mn)), (2, .int (nI t)), (3, .int (nI (nxt (crp k (crw j (t, c))).1))), (4, .int (nI j)), (5, .int (nI k))]) dX3_letCreep_38 (Nat.le_of_ble_eq_true rfl) rfl rfl ?_
              refine z_iload_n C (pc := 39) dX3_letCreep_39 rfl ?_
              refine z_bipush C (pc := 40) (v := 16) dX3_letCreep_40 (by decide) ?_
              refine z_ishr C (pc := 42) dX3_letCreep_42 ?_
              refine z_iconst C (pc := 43) (v := 3) dX3_letCreep_43 (by decide) ?_
              refine z_irem C (pc := 44) dX3_letCreep_44 (by decide) ?_
              refine z_seti (y := nI (crn (nxt (crp k (crw j (t, c))).1))) (crn_eq (nxt_lt _)) ?_
              refine z_istore C (pc := 45) (lv' := [(0, .ref (a 0)), (1, .int (nI mn)), (2, .int (nI t)), (3, .int (nI (nxt (crp k (crw j (t, c))).1))), (4, .int (nI j)), (5, .int (nI k)), (6, .int (nI (crn (nxt (crp k (crw j (t, c))).1))))]) dX3_letCreep_45 (Nat.le_of_ble_eq_true rfl) rfl rfl ?_
              refine z_aload_n C (pc := 47) dX3_letCreep_47 rfl ?_
              refine z_get C (pc := 48) 0 rfl rfl wf_X3 4 (by decide) rfl wl_X3_33 (v := .ref (a 18)) rfl dX3_letCreep_48 ?_
              refine z_iload C (pc := 51) dX3_letCreep_51 rfl ?_
              refine z_iconst C (pc := 53) (v := 0) dX3_letCreep_53 (by decide) ?_
              refine z_aload_n C (pc := 54) dX3_letCreep_54 rfl ?_
              refine z_get C (pc := 55) 0 rfl rfl wf_X3 4 (by decide) rfl wl_X3_33 (v := .ref (a 18)) rfl dX3_letCreep_55 ?_
              refine z_iload C (pc := 58) dX3_letCreep_58 rfl ?_
              refine z_calli C (isC := [18]) rfl (by exact fun _ => rfl) (runS C (wc := [(a 18, .inl (cI, 5, .inl (r2 13)))]) (pc := 60) (rY' := rm 0 0) (nn := 2) (As := [.ref (a 18), .int (nI k)]) (rest := [.int 0, .int (nI k), .ref (a 18)]) (c_at l D cI tt (a 18) 5 (r2 13) (nI k) (by decide)) rfl rfl ⟨rfl, rfl, ⟨Nat.le_of_ble_eq_true rfl, Nat.le_of_ble_eq_true rfl⟩, Nat.le_of_ble_eq_true rfl, Nat.le_of_ble_eq_true rfl⟩ wl_X3_87 ws_X3_at wi_X3 wc_X3_at (by decide +kernel) rfl rfl (Nat.le_of_ble_eq_true rfl) dX3_letCreep_60) (fun r_5 u_5 h_5 => ?_)
              have h_5 : r_5 = (nI ((crp k (crw j (t, c))).2 k)) := h_5.trans ((atv_nI (by omega) (by decide)).trans (hw2 k (by omega)))
              subst h_5
              refine z_ws (st' := [.int (nI ((crp k (crw j (t, c))).2 k)), .int 0, .int (nI k), .ref (a 18)]) (ws' := (cW cI a i r2)) rfl rfl ?_
              refine z_iload C (pc := 63) dX3_letCreep_63 rfl ?_
              refine z_isub C (pc := 65) dX3_letCreep_65 ?_
              refine z_mmax C (pc := 66) wl_X3_236 (Nat.le_of_ble_eq_true rfl) (Nat.le_of_ble_eq_true rfl) (Nat.zero_le _) (Nat.zero_le _) dX3_letCreep_66 ?_
              refine z_seti (y := nI ((crp k (crw j (t, c))).2 k - crn (nxt (crp k (crw j (t, c))).1))) (max_sub _ (by have := hok.2 k (by omega); omega) _ (crn_lt _)) ?_
              refine z_callv C (isC := [18]) rfl (by exact fun _ => rfl) (runS C (wc := [(a 18, .inl (cI, 5, .inl (r2 13)))]) (pc := 69) (rY' := rm 0 0) (nn := 3) (As := [.ref (a 18), .int (nI k), .int (nI ((crp k (crw j (t, c))).2 k - crn (nxt (crp k (crw j (t, c))).1)))]) (rest := []) (c_put l D cI tt (a 18) 5 (r2 13) (nI k) (nI ((crp k (crw j (t, c))).2 k - crn (nxt (crp k (crw j (t, c))).1))) (by decide)) rfl rfl ⟨rfl, rfl, ⟨Nat.le_of_ble_eq_true rfl, Nat.le_of_ble_eq_true rfl⟩, Nat.le_of_ble_eq_true rfl, Nat.le_of_ble_eq_true rfl⟩ wl_X3_66 ws_X3_put wi_X3 wc_X3_put (by decide +kernel) rfl rfl (Nat.le_of_ble_eq_true rfl) dX3_letCreep_69) (fun u_6 h_6 => ?_)
              subst h_6
              refine z_ws (st' := []) (ws' := (cW cI a i (va_up r2 13 (putv 5 (r2 13) (nI k) (nI ((crp k (crw j (t, c))).2 k - crn (nxt (crp k (crw j (t, c))).1))))))) rfl rfl ?_
              refine z_iinc C (pc := 72) (v := ((nI k) + 1)) (lv' := [(0, .ref (a 0)), (1, .int (nI mn)), (2, .int (nI t)), (3, .int (nI (nxt (crp k (crw j (t, c))).1))), (4, .int (nI j)), (5, .int ((nI k) + 1)), (6, .int (nI (crn (nxt (crp k (crw j (t, c))).1))))]) dX3_letCreep_72 rfl rfl (Nat.le_of_ble_eq_true rfl) rfl rfl ?_
              refine z_goto C (pc := 75) (tgt := 28) dX3_letCreep_75 (by decide) ?_
              refine z_lv (lv' := [(0, .ref (a 0)), (1, .int (nI mn)), (2, .int (nI t)), (3, .int (nI (crp (k + 1) (crw j (t, c))).1)), (4, .int (nI j)), (5, .int (nI (k + 1)))]) ⟨rfl, rfl, rfl, lki (by rw [crp_1]), rfl, lki (nI_1 k), trivial⟩ ?_
              exact ih28 (k + 1) (va_up r2 13 (putv 5 (r2 13) (nI k) (nI ((crp k (crw j (t, c))).2 k - crn (nxt (crp k (crw j (t, c))).1))))) (by omega) hk (fun q hq => (vup_n (by omega)).trans (hr2 q hq)) (fun q hq => by rw [vup_s, putv_nI hk (by decide), crp_2]; unfold upd upN; by_cases e : q = k <;> simp [e, hw2 q hq])
        refine z_lv (lv' := [(0, .ref (a 0)), (1, .int (nI mn)), (2, .int (nI t)), (3, .int (nI (crp 0 (crw j (t, c))).1)), (4, .int (nI j)), (5, .int (nI 0))]) ⟨rfl, rfl, rfl, rfl, rfl, rfl, trivial⟩ ?_
        exact key28 (_ + 1) 0 r' (Nat.lt_succ_self _) (Nat.zero_le _) hr' hw'
  refine z_lv (lv' := [(0, .ref (a 0)), (1, .int (nI mn)), (2, .int (nI t)), (3, .int (nI (crw 0 (t, c)).1)), (4, .int (nI 0))]) ⟨rfl, rfl, rfl, rfl, rfl, trivial⟩ ?_
  exact key19 (_ + 1) 0 (va_up r 13 (cpv 5 (r 3) 5 (r 13) 5)) (Nat.lt_succ_self _) (Nat.zero_le _) (fun q hq => vup_n hq) (fun q hq => by rw [vup_s, cpv_at (by decide) (by decide) 5 (by decide) (by decide), if_pos hq]; exact (hc q hq).1)
end
section
/-! the state that calls show: numbers g, rows w, the page pg.
g: 0 an image is kept, 1 camps read, 2 teams done, 3 letters, 4 members, 5 alive, 6 marches, 7 of which home, 8 heard, 9 to 12 the image's 5 to 8, 13 when the image was kept (camps read and 1)
w: 1 kinds, 2 cairns, 3 to 6 heard, 7 to 11 the image's 2 to 6 -/
abbrev SG : Type := (Nat → Nat) × (Nat → Nat → Nat) × (Nat → Int32)
def HB (n hn : Nat) (hm hs hf hh : Nat → Nat) : Prop := ∀ k, k < hn → hm k < 2 ^ n ∧ hs k ≤ 6 ∧ hf k ≤ 40 ∧ hh k ≤ 1 ∧ 1 ≤ hs k
/-- what holds of every state that is reached -/
def VS (z : SG) : Prop := z.1 0 ≤ 1 ∧ z.1 2 ≤ 20 ∧ z.1 3 ≤ 15 ∧ z.1 4 ≤ 6 ∧ z.1 5 < 2 ^ z.1 4 ∧ z.1 8 ≤ 6 ∧ (∀ k, k < z.1 4 → z.2.1 1 k ≤ 4) ∧ (∀ k, k < 5 → z.2.1 2 k ≤ 9) ∧ HB (z.1 4) (z.1 8) (z.2.1 3) (z.2.1 4) (z.2.1 5) (z.2.1 6) ∧
  (z.1 0 = 1 → z.1 9 < 2 ^ z.1 4 ∧ z.1 12 ≤ 6 ∧ (∀ k, k < 5 → z.2.1 7 k ≤ 9) ∧ HB (z.1 4) (z.1 12) (z.2.1 8) (z.2.1 9) (z.2.1 10) (z.2.1 11)) ∧ z.1 13 ≤ z.1 1 + 1 ∧ (z.1 0 = 1 ↔ z.1 13 = z.1 1 + 1)
def CN (g : Nat → Nat) (i : Nat → Int32) : Prop := i 0 = nI (g 0) ∧ i 1 = nI (g 1) ∧ i 2 = nI (g 2) ∧ i 3 = nI (g 3) ∧ i 4 = nI (g 4) ∧ i 10 = nI (g 5) ∧ i 11 = nI (g 6) ∧ i 12 = nI (g 7) ∧ i 13 = nI (g 8)
def CR (z : SG) (r : Nat → Nat → Int32) : Prop := (∀ k, k < z.1 3 → r 0 k = z.2.2 k) ∧ (∀ k, k < z.1 4 → r 1 k = nI (z.2.1 1 k)) ∧ (∀ k, k < 5 → r 3 k = nI (z.2.1 2 k)) ∧ (∀ k, k < z.1 8 → r 4 k = nI (z.2.1 3 k) ∧ r 5 k = nI (z.2.1 4 k) ∧ r 6 k = nI (z.2.1 5 k) ∧ r 7 k = nI (z.2.1 6 k))
def CK (z : SG) (i : Nat → Int32) (r : Nat → Nat → Int32) : Prop := z.1 0 = 1 → (i 14 = nI (z.1 9) ∧ i 15 = nI (z.1 10) ∧ i 16 = nI (z.1 11) ∧ i 17 = nI (z.1 12)) ∧ (∀ k, k < 5 → r 8 k = nI (z.2.1 7 k)) ∧ (∀ k, k < z.1 12 → r 9 k = nI (z.2.1 8 k) ∧ r 10 k = nI (z.2.1 9 k) ∧ r 11 k = nI (z.2.1 10 k) ∧ r 12 k = nI (z.2.1 11 k))
/-- the class's object holds the state -/
def Cls (z : SG) (i : Nat → Int32) (r : Nat → Nat → Int32) : Prop := CN z.1 i ∧ CR z r ∧ CK z i r
theorem Cls.sp {z : SG} {i i' : Nat → Int32} {r r' : Nat → Nat → Int32} (h : Cls z i r) (hi : SP i i') (hr : SR r r') : Cls z i' r' := by
  obtain ⟨⟨h0, h1, h2, h3, h4, h5, h6, h7, h8⟩, ⟨p0, p1, p2, p3⟩, hk⟩ := h
  refine ⟨⟨?_, ?_, ?_, ?_, ?_, ?_, ?_, ?_, ?_⟩, ⟨?_, ?_, ?_, ?_⟩, ?_⟩
  · rw [hi 0 (by omega)]; exact h0
  · rw [hi 1 (by omega)]; exact h1
  · rw [hi 2 (by omega)]; exact h2
  · rw [hi 3 (by omega)]; exact h3
  · rw [hi 4 (by omega)]; exact h4
  · rw [hi 10 (by omega)]; exact h5
  · rw [hi 11 (by omega)]; exact h6
  · rw [hi 12 (by omega)]; exact h7
  · rw [hi 13 (by omega)]; exact h8
  · rw [hr 0 (by decide)]; exact p0
  · rw [hr 1 (by decide)]; exact p1
  · rw [hr 3 (by decide)]; exact p2
  · rw [hr 4 (by decide), hr 5 (by decide), hr 6 (by decide), hr 7 (by decide)]; exact p3
  · intro g
    rw [hi 14 (by omega), hi 15 (by omega), hi 16 (by omega), hi 17 (by omega), hr 8 (by decide), hr 9 (by decide), hr 10 (by decide), hr 11 (by decide), hr 12 (by decide)]
    exact hk g
theorem Cls.pv {z : SG} {i : Nat → Int32} {r : Nat → Nat → Int32} (h : Cls z i r) (v : VS z) : PV i r (z.2.1 1) (z.1 4) := ⟨h.1.2.2.2.2.1, v.2.2.2.1, fun k hk => ⟨h.2.1.2.1 k hk, v.2.2.2.2.2.2.1 k hk⟩⟩
theorem Cls.c {z : SG} {i : Nat → Int32} {r : Nat → Nat → Int32} (h : Cls z i r) (v : VS z) : ∀ k, k < 5 → r 3 k = nI (z.2.1 2 k) ∧ z.2.1 2 k ≤ 9 := fun k hk => ⟨h.2.1.2.2.1 k hk, v.2.2.2.2.2.2.2.1 k hk⟩
theorem Cls.hv {z : SG} {i : Nat → Int32} {r : Nat → Nat → Int32} (h : Cls z i r) (v : VS z) : HV i r (z.1 4) (z.1 8) (z.2.1 3) (z.2.1 4) (z.2.1 5) (z.2.1 6) := ⟨h.1.2.2.2.2.2.2.2.2, v.2.2.2.2.2.1, fun k hk => by
  obtain ⟨a1, a2, a3, a4⟩ := h.2.1.2.2.2 k hk
  obtain ⟨b1, b2, b3, b4⟩ := v.2.2.2.2.2.2.2.2.1 k hk
  exact ⟨⟨a1, b1⟩, ⟨a2, b2⟩, ⟨a3, b3⟩, a4, b4.1⟩⟩
/-! what each call answers, and the state behind it -/
def upG (f : Nat → Nat) (k x : Nat) : Nat → Nat := fun j => if j = k then x else f j
def tn (x : Int32) : Nat := x.toNatClampNeg
def letterF (z : SG) (x : Int32) : Int32 × SG := if x < 1 ∨ ¬ x ≤ 126 then (-102, z) else if 15 ≤ z.1 3 then (-104, z) else (nI (z.1 3 + 1), (upG z.1 3 (z.1 3 + 1), z.2.1, upd z.2.2 (z.1 3) x))
def blankF (z : SG) : Int32 × SG := (nI (z.1 3), (upG z.1 3 0, z.2))
def faultF (z : SG) : Int32 := nI (scv z.2.2 (z.1 3) 0 0).1
def kdn (x : Int32) : Nat := tn (kindOfv x)
def fdn (x : Int32) : Nat := tn (x - 48)
def campG (z : SG) : Nat → Nat := fun k => match k with
  | 0 => 0
  | 1 => z.1 1 + 1
  | 3 => 0
  | 4 => z.1 3 - 6
  | 5 => 2 ^ (z.1 3 - 6) - 1
  | 6 => 0
  | 7 => 0
  | 8 => 0
  | k => z.1 k
def campF (z : SG) : Int32 × SG := if campb z.2.2 (z.1 3) = true then (nI (z.1 3 - 6), (campG z, va_up (va_up z.2.1 1 (fun k => kdn (z.2.2 k))) 2 (fun k => fdn (z.2.2 (z.1 3 - 5 + k))), z.2.2)) else (-103, z)
def tellF (z : SG) (k : Nat) (what : Int32) : Int32 := if what = 0 then nI (z.2.1 1 k) else if what = 1 then nI (pls (z.2.1 1 k)) else if what = 2 then nI (ets (z.2.1 1 k)) else if what = 3 then nI (fds (z.2.1 1 k)) else if what = 4 then nI (bt (z.1 5) k) else -102
def noMember (z : SG) (m : Int32) : Bool := decide (m < 0) || !decide (m < nI (z.1 4))
def memberF (z : SG) (m what : Int32) : Int32 := if noMember z m = true then -101 else tellF z (tn m) what
def asF (z : SG) (m kind : Int32) : Int32 := if noMember z m = true then -101 else if kind < 0 ∨ ¬ kind < 5 then -102 else if isOfv (nI (z.2.1 1 (tn m))) kind = 0 then -1 else m
def layS (z : SG) (q : Nat) : Nat := layv (z.2.1 1) (z.1 4) (z.2.1 2) (z.1 8) (z.2.1 3) (z.2.1 4) (z.2.1 5) (z.2.1 6) q
def tryS (z : SG) (q : Nat) : Int32 := tryv (z.2.1 1) (z.1 4) (z.2.1 2) q (layS z q)
def cairnF (z : SG) (x what : Int32) : Int32 := if noCairn (z.1 4) x = true then -101 else if what = 0 then nI (z.2.1 2 (tn x - 1)) else if what = 1 then nI (layS z (tn x)) else if what = 2 then tryS z (tn x) else -102
def layF (z : SG) (x f : Int32) : Int32 × SG := if noCairn (z.1 4) x = true then (-101, z) else if f < 0 ∨ ¬ f ≤ 9 then (-102, z) else (nI (z.2.1 2 (tn x - 1)), (z.1, va_up z.2.1 2 (upN (z.2.1 2) (tn x - 1) (tn f)), z.2.2))
def marS (z : SG) (x y f : Nat) : MS := marv (z.2.1 1) (z.1 4) x y f (z.2.1 2)
def alv (al x b : Nat) : Nat := (al - (al &&& x)) ||| b
def marchF (z : SG) (x y f : Int32) : Int32 × SG := if noMarch (z.1 4) x y f = true then (-102, z) else if deadv x (nI (z.1 5)) ≠ 0 then (-103, z) else
  (nI (marS z (tn x) (tn y) (tn f)).1, (upG (upG (upG z.1 5 (alv (z.1 5) (tn x) (marS z (tn x) (tn y) (tn f)).1)) 6 (z.1 6 + 1)) 7 (z.1 7 + (if (marS z (tn x) (tn y) (tn f)).1 = 0 then 0 else 1)), va_up z.2.1 2 (marS z (tn x) (tn y) (tn f)).2.2.1, z.2.2))
def sumN (c : Nat → Nat) : Nat := c 0 + c 1 + c 2 + c 3 + c 4
def tellM (m : MS) (what : Int32) : Int32 := if what = 0 then nI m.1 else if what = 1 then nI m.2.1 else if what = 2 then nI (sumN m.2.2.1) else nI m.2.2.2
def wouldF (z : SG) (x y f what : Int32) : Int32 := if noMarch (z.1 4) x y f = true ∨ what < 0 ∨ ¬ what ≤ 3 then -102 else if deadv x (nI (z.1 5)) ≠ 0 then -103 else tellM (marS z (tn x) (tn y) (tn f)) what
def needF (z : SG) (x y : Int32) : Int32 := if noPeople (z.1 4) x = true ∨ noStage y = true then -102 else if deadv x (nI (z.1 5)) ≠ 0 then -103 else needv (z.2.1 1) (z.1 4) (tn x) (tn y) (z.2.1 2)
def farF (z : SG) (x : Int32) : Int32 := if noPeople (z.1 4) x = true then -102 else if deadv x (nI (z.1 5)) ≠ 0 then -103 else nI (farv (z.2.1 1) (z.1 4) (tn x) (z.2.1 2))
def teamF (z : SG) (y : Int32) : Int32 × SG := if noStage y = true then (-102, z) else if z.1 4 = 0 ∨ 20 ≤ z.1 2 then (-103, z) else (teamv (z.2.1 1) (z.1 4) (z.1 5) (tn y) (z.2.1 2), (upG z.1 2 (z.1 2 + 1), z.2))
def hearW (z : SG) (x y f h : Nat) : Nat → Nat → Nat := va_up (va_up (va_up (va_up z.2.1 3 (upN (z.2.1 3) (z.1 8) x)) 4 (upN (z.2.1 4) (z.1 8) y)) 5 (upN (z.2.1 5) (z.1 8) f)) 6 (upN (z.2.1 6) (z.1 8) h)
def hearF (z : SG) (x y f h : Int32) : Int32 × SG := if noMarch (z.1 4) x y f = true then (-102, z) else if 6 ≤ z.1 8 then (-104, z) else (nI (z.1 8 + 1), (upG z.1 8 (z.1 8 + 1), hearW z (tn x) (tn y) (tn f) (if h = 0 then 0 else 1), z.2.2))
def forgetF (z : SG) : Int32 × SG := (nI (z.1 8), (upG z.1 8 0, z.2))
def winS (z : SG) (mn sd : Nat) : Nat × (Nat → Nat) := crw mn (sd, z.2.1 2)
def wintersF (z : SG) (m sd what : Int32) : Int32 := if m < 1 ∨ ¬ m ≤ 20 ∨ sd < 0 ∨ what < 0 ∨ ¬ what ≤ 2 then -102 else if z.1 4 = 0 then -103 else if what = 2 then nI (winS z (tn m) (tn sd)).1 else if what = 0 then nI (sumN (winS z (tn m) (tn sd)).2) else nI (farv (z.2.1 1) (z.1 4) (z.1 5) (winS z (tn m) (tn sd)).2)
def imageG (z : SG) : Nat → Nat := fun k => match k with
  | 0 => 1
  | 9 => z.1 5
  | 10 => z.1 6
  | 11 => z.1 7
  | 12 => z.1 8
  | 13 => z.1 1 + 1
  | k => z.1 k
def imageW (z : SG) : Nat → Nat → Nat := fun k => match k with
  | 7 => z.2.1 2
  | 8 => z.2.1 3
  | 9 => z.2.1 4
  | 10 => z.2.1 5
  | 11 => z.2.1 6
  | k => z.2.1 k
def imageF (z : SG) : Int32 × SG := if z.1 4 = 0 then (-103, z) else (nI (z.1 6), (imageG z, imageW z, z.2.2))
def restoreG (z : SG) : Nat → Nat := fun k => match k with
  | 5 => z.1 9
  | 6 => z.1 10
  | 7 => z.1 11
  | 8 => z.1 12
  | k => z.1 k
def restoreW (z : SG) : Nat → Nat → Nat := fun k => match k with
  | 2 => z.2.1 7
  | 3 => z.2.1 8
  | 4 => z.2.1 9
  | 5 => z.2.1 10
  | 6 => z.2.1 11
  | k => z.2.1 k
def restoreF (z : SG) : Int32 × SG := if z.1 0 = 1 then (nI (z.1 10), (restoreG z, restoreW z, z.2.2)) else (-103, z)
def countN (z : SG) (k : Nat) : Nat := match k with
  | 0 => z.1 4
  | 1 => pcn (z.1 5)
  | 2 => sumN (z.2.1 2)
  | 3 => z.1 6
  | 4 => z.1 7
  | 5 => sumk pls (z.2.1 1) (z.1 5) (z.1 4)
  | 6 => sumk ets (z.2.1 1) (z.1 5) (z.1 4)
  | 7 => z.1 8
  | 8 => z.1 3
  | 9 => z.1 1
  | _ => z.1 2
def countF (z : SG) (what : Int32) : Int32 := if what < 0 ∨ ¬ what ≤ 10 then -102 else nI (countN z (tn what))
def sayv (h : Int64) (v : Int32) : Int64 := 31 * h + v.toInt64
def sayM (z : SG) (m : Nat) (h : Int64) : Nat → Int64
  | 0 => h
  | k + 1 => sayv (sayM z m h k) (tellF z m (nI k))
def sayMs (z : SG) (h : Int64) : Nat → Int64
  | 0 => h
  | m + 1 => sayM z m (sayMs z h m) 5
def sayC (z : SG) (h : Int64) : Nat → Int64
  | 0 => h
  | q + 1 => sayv (sayv (sayC z h q) (nI (z.2.1 2 q))) (nI (layS z (q + 1)))
def sayW (z : SG) (h : Int64) : Nat → Int64
  | 0 => h
  | k + 1 => sayv (sayW z h k) (tellM (marS z (z.1 5) 5 12) (nI k))
def sayP (z : SG) (h : Int64) : Nat → Int64
  | 0 => h
  | k + 1 => sayv (sayP z h k) (z.2.2 k)
def sayN (z : SG) (h : Int64) : Nat → Int64
  | 0 => h
  | k + 1 => sayv (sayN z h k) (nI (countN z k))
def sayCs (z : SG) (h : Int64) : Int64 := if z.1 4 = 0 then h else sayv (sayC z h 5) (tryS z 3)
def sayL (z : SG) (h : Int64) : Int64 := if z.1 5 = 0 then h else sayW z (sayv (sayv (sayv h (nI (farv (z.2.1 1) (z.1 4) (z.1 5) (z.2.1 2)))) (needv (z.2.1 1) (z.1 4) (z.1 5) 1 (z.2.1 2))) (needv (z.2.1 1) (z.1 4) (z.1 5) 4 (z.2.1 2))) 4
def digestF (z : SG) : Int64 := sayN z (sayP z (sayL z (sayCs z (sayMs z 1051 (z.1 4)))) (z.1 3)) 11
/-! arguments read as whole numbers -/
theorem tn_nI {k : Nat} (h : k < 2 ^ 31) : tn (nI k) = k := nI_clamp h
theorem tn_of {x : Int32} {M : Nat} (hM : M < 2 ^ 31) (h : ¬ x < 0) (h2 : x ≤ nI M) : ∃ k, k ≤ M ∧ x = nI k ∧ tn x = k := by
  obtain ⟨j, hj, e⟩ := nI_of2 (nI_toInt hM) h h2
  exact ⟨j, hj, e, by rw [e]; exact tn_nI (by omega)⟩
theorem neg_1 {x : Int32} (h : ¬ x < 1) : ¬ x < 0 := by
  simp only [Int32.lt_iff_toInt_lt] at h ⊢
  have h1 : (1 : Int32).toInt = 1 := rfl
  have h0 : (0 : Int32).toInt = 0 := rfl
  omega
theorem ge_1 {k : Nat} (hk : k < 2 ^ 31) (h : ¬ nI k < 1) : 1 ≤ k := by
  rcases Nat.eq_zero_or_pos k with e | e
  · subst e; exact absurd (by decide) h
  · exact e
theorem people_of {n : Nat} {x : Int32} (hn : n ≤ 6) (h : noPeople n x = false) : ∃ k, 1 ≤ k ∧ k < 2 ^ n ∧ x = nI k ∧ tn x = k := by
  unfold noPeople at h
  simp only [Bool.or_eq_false_iff, Bool.not_eq_false', decide_eq_false_iff_not, decide_eq_true_eq] at h
  have hp := pow_le6 hn
  have hp1 := Nat.pow_pos (n := n) (show 0 < 2 by decide)
  obtain ⟨k, h1, h2, h3⟩ := tn_of (by omega) (neg_1 h.1) h.2
  refine ⟨k, ge_1 (by omega) (h2 ▸ h.1), by omega, h2, h3⟩
theorem stage_of {y : Int32} (h : noStage y = false) : ∃ k, 1 ≤ k ∧ k ≤ 6 ∧ y = nI k ∧ tn y = k := by
  unfold noStage at h
  simp only [Bool.or_eq_false_iff, Bool.not_eq_false', decide_eq_false_iff_not, decide_eq_true_eq] at h
  obtain ⟨k, h1, h2, h3⟩ := tn_of (M := 6) (by decide) (neg_1 h.1) h.2
  exact ⟨k, ge_1 (by omega) (h2 ▸ h.1), h1, h2, h3⟩
theorem food_of {f : Int32} (h : noFood f = false) : ∃ k, k ≤ 40 ∧ f = nI k ∧ tn f = k := by
  unfold noFood at h
  simp only [Bool.or_eq_false_iff, Bool.not_eq_false', decide_eq_false_iff_not, decide_eq_true_eq] at h
  exact tn_of (M := 40) (by decide) h.1 h.2
theorem march_of {n : Nat} {x y f : Int32} (h : noMarch n x y f = false) : noPeople n x = false ∧ noStage y = false ∧ noFood f = false := by
  unfold noMarch at h
  simpa only [Bool.or_eq_false_iff] using h
theorem cairn_of {n : Nat} {x : Int32} (h : noCairn n x = false) : n ≠ 0 ∧ ∃ k, 1 ≤ k ∧ k < 6 ∧ x = nI k ∧ tn x = k := by
  unfold noCairn at h
  simp only [Bool.or_eq_false_iff, Bool.not_eq_false', decide_eq_false_iff_not, decide_eq_true_eq] at h
  obtain ⟨k, h1, h2, h3⟩ := tn_of (M := 5) (by decide) (neg_1 h.1) h.2.1
  exact ⟨h.2.2, k, ge_1 (by omega) (h2 ▸ h.1), by omega, h2, h3⟩
theorem member_of {z : SG} {m : Int32} (v : VS z) (h : noMember z m = false) : ∃ k, k < z.1 4 ∧ m = nI k ∧ tn m = k := by
  unfold noMember at h
  simp only [Bool.or_eq_false_iff, Bool.not_eq_false', decide_eq_false_iff_not, decide_eq_true_eq] at h
  have hn := v.2.2.2.1
  obtain ⟨k, h1, h2, h3⟩ := tn_of (M := z.1 4) (by omega) h.1 (by
    have := h.2
    simp only [Int32.lt_iff_toInt_lt, Int32.le_iff_toInt_le] at this ⊢
    omega)
  refine ⟨k, ?_, h2, h3⟩
  have h4 := h.2
  rw [h2] at h4
  exact (nI_ltI (by omega) (by omega)).mp h4
end
section
theorem and_not2 : ∀ x, x < 64 → ∀ y, y < 64 → nI x &&& (nI y ^^^ (-1)) = nI (x - (x &&& y)) := by decide +kernel
theorem or_nI : ∀ x, x < 64 → ∀ y, y < 64 → nI x ||| nI y = nI (x ||| y) := by decide +kernel
theorem alv_lt {x y b n : Nat} (hx : x < 2 ^ n) (hb : b < 2 ^ n) : alv x y b < 2 ^ n := Nat.or_lt_two_pow (Nat.lt_of_le_of_lt (Nat.sub_le _ _) hx) hb
theorem march_al {x y b n : Nat} (hn : n ≤ 6) (hx : x < 2 ^ n) (hy : y < 2 ^ n) (hb : b < 2 ^ n) : (nI x &&& (nI y ^^^ (-1))) ||| nI b = nI (alv x y b) := by
  have := pow_le6 hn
  rw [and_not2 x (by omega) y (by omega), or_nI _ (by omega) _ (by omega)]
  rfl
theorem mar_ok {kd : Nat → Nat} {n x st f : Nat} {c : Nat → Nat} (hn : n ≤ 6) (hx : x < 2 ^ n) (hc : ∀ k, k < 5 → c k ≤ 9) : MOK kd n (marv kd n x st f c) := runv_ok hn _ _ (mok0 hx hc)
theorem kind_ok {x : Int32} (h : kindOfv x ≠ -1) : kindOfv x = nI (kdn x) ∧ kdn x ≤ 4 := by
  have key : kindOfv x = nI 0 ∨ kindOfv x = nI 1 ∨ kindOfv x = nI 2 ∨ kindOfv x = nI 3 ∨ kindOfv x = nI 4 := by
    unfold kindOfv at h ⊢
    by_cases e1 : x = 109
    · rw [if_pos e1]; exact Or.inl rfl
    rw [if_neg e1] at h ⊢
    by_cases e2 : x = 112
    · rw [if_pos e2]; exact Or.inr (Or.inl rfl)
    rw [if_neg e2] at h ⊢
    by_cases e3 : x = 100
    · rw [if_pos e3]; exact Or.inr (Or.inr (Or.inl rfl))
    rw [if_neg e3] at h ⊢
    by_cases e4 : x = 98
    · rw [if_pos e4]; exact Or.inr (Or.inr (Or.inr (Or.inl rfl)))
    rw [if_neg e4] at h ⊢
    by_cases e5 : x = 104
    · rw [if_pos e5]; exact Or.inr (Or.inr (Or.inr (Or.inr rfl)))
    rw [if_neg e5] at h
    exact absurd rfl h
  unfold kdn
  rcases key with e | e | e | e | e <;> rw [e] <;> exact ⟨rfl, by decide⟩
theorem digit_ok {x : Int32} (h1 : 48 ≤ x) (h2 : x ≤ 57) : x - 48 = nI (fdn x) ∧ fdn x ≤ 9 := by
  have h0 : ¬ x < 0 := by
    simp only [Int32.lt_iff_toInt_lt, Int32.le_iff_toInt_le] at h1 ⊢
    have a1 : (48 : Int32).toInt = 48 := rfl
    have a0 : (0 : Int32).toInt = 0 := rfl
    omega
  obtain ⟨k, hk, e, -⟩ := tn_of (M := 57) (by decide) h0 h2
  subst e
  have h3 : 48 ≤ k := (nI_leI (a := 48) (by decide) (by omega)).mp h1
  have e2 : nI k - 48 = nI (k - 48) := pk_sub (b := 48) h3
  unfold fdn
  rw [e2, tn_nI (by omega)]
  exact ⟨rfl, by omega⟩
/-- what a camp of the page is -/
theorem camp_facts {f : Nat → Int32} {L : Nat} (h : campb f L = true) : 8 ≤ L ∧ L ≤ 12 ∧ (∀ k, k < L - 6 → kindOfv (f k) = nI (kdn (f k)) ∧ kdn (f k) ≤ 4) ∧ (∀ k, k < 5 → f (L - 5 + k) - 48 = nI (fdn (f (L - 5 + k))) ∧ fdn (f (L - 5 + k)) ≤ 9) := by
  unfold campb at h
  simp only [Bool.and_eq_true, decide_eq_true_eq] at h
  have hs := scv_SI (f := f) L 0 0 SI_0
  obtain ⟨e1, e2, e3⟩ := h
  rw [e1] at hs
  obtain ⟨h1, h2, h3, h4, h5, h6⟩ := hs
  have h2' := h2 e2
  refine ⟨by omega, by omega, fun k hk => kind_ok (h5 k (by omega) (Or.inl (by omega))), fun k hk => ?_⟩
  obtain ⟨d1, d2⟩ := h6 (L - 5 + k) (by omega) e2 (by omega)
  exact digit_ok d1 d2
theorem campb_congr {f g : Nat → Int32} {L : Nat} (h : ∀ j, j < L → f j = g j) : campb f L = campb g L := by
  unfold campb
  rw [scv_congr h L 0 0 (by omega)]
/-! VS stays -/
theorem vs_letter {z : SG} (v : VS z) (x : Int32) : VS (letterF z x).2 := by
  unfold letterF
  split
  · exact v
  · split
    · exact v
    · rename_i h1 h2
      obtain ⟨v0, v2, v3, v4, v5, v8, vk, vc, vh, vi, v13, vb⟩ := v
      exact ⟨v0, v2, show z.1 3 + 1 ≤ 15 by omega, v4, v5, v8, vk, vc, vh, vi, v13, vb⟩
theorem vs_blank {z : SG} (v : VS z) : VS (blankF z).2 := by
  obtain ⟨v0, v2, v3, v4, v5, v8, vk, vc, vh, vi, v13, vb⟩ := v
  exact ⟨v0, v2, Nat.zero_le _, v4, v5, v8, vk, vc, vh, vi, v13, vb⟩
theorem vs_forget {z : SG} (v : VS z) : VS (forgetF z).2 := by
  obtain ⟨v0, v2, v3, v4, v5, v8, vk, vc, vh, vi, v13, vb⟩ := v
  exact ⟨v0, v2, v3, v4, v5, Nat.zero_le _, vk, vc, fun k hk => absurd hk (Nat.not_lt_zero k), vi, v13, vb⟩
theorem vs_camp {z : SG} (v : VS z) : VS (campF z).2 := by
  unfold campF
  split
  · rename_i h
    obtain ⟨f1, f2, f3, f4⟩ := camp_facts h
    obtain ⟨v0, v2, v3, v4, v5, v8, vk, vc, vh, vi, v13, vb⟩ := v
    have hp := Nat.pow_pos (n := z.1 3 - 6) (show 0 < 2 by decide)
    refine ⟨Nat.zero_le _, v2, Nat.zero_le _, show z.1 3 - 6 ≤ 6 by omega, show 2 ^ (z.1 3 - 6) - 1 < 2 ^ (z.1 3 - 6) by omega, Nat.zero_le _, fun k hk => (f3 k hk).2, fun k hk => (f4 k hk).2, fun k hk => absurd hk (Nat.not_lt_zero k), fun h => absurd h (show ¬ (0 : Nat) = 1 by decide), show z.1 13 ≤ z.1 1 + 1 + 1 by omega, ?_⟩
    show (0 : Nat) = 1 ↔ z.1 13 = z.1 1 + 1 + 1
    omega
  · exact v
theorem vs_lay {z : SG} (v : VS z) (x f : Int32) : VS (layF z x f).2 := by
  unfold layF
  split
  · exact v
  · split
    · exact v
    · rename_i h1 h2
      obtain ⟨v0, v2, v3, v4, v5, v8, vk, vc, vh, vi, v13, vb⟩ := v
      obtain ⟨k, hk, -, e⟩ := tn_of (x := f) (M := 9) (by decide) (fun h => h2 (Or.inl h)) (Classical.not_not.mp (fun h => h2 (Or.inr h)))
      refine ⟨v0, v2, v3, v4, v5, v8, vk, ?_, vh, vi, v13, vb⟩
      rw [e]
      exact upN_le vc hk
theorem vs_march {z : SG} (v : VS z) (x y f : Int32) : VS (marchF z x y f).2 := by
  unfold marchF
  split
  · exact v
  · split
    · exact v
    · rename_i h1 h2
      obtain ⟨v0, v2, v3, v4, v5, v8, vk, vc, vh, vi, v13, vb⟩ := v
      have h3 := march_of (by simpa using h1)
      obtain ⟨k, k1, k2, -, e⟩ := people_of v4 h3.1
      have hm : MOK (z.2.1 1) (z.1 4) (marS z (tn x) (tn y) (tn f)) := mar_ok v4 (by rw [e]; exact k2) vc
      exact ⟨v0, v2, v3, v4, alv_lt v5 hm.1.1, v8, vk, hm.2.1, vh, vi, v13, vb⟩
theorem vs_team {z : SG} (v : VS z) (y : Int32) : VS (teamF z y).2 := by
  unfold teamF
  split
  · exact v
  · split
    · exact v
    · rename_i h1 h2
      obtain ⟨v0, v2, v3, v4, v5, v8, vk, vc, vh, vi, v13, vb⟩ := v
      exact ⟨v0, show z.1 2 + 1 ≤ 20 by omega, v3, v4, v5, v8, vk, vc, vh, vi, v13, vb⟩
theorem vs_hear {z : SG} (v : VS z) (x y f h : Int32) : VS (hearF z x y f h).2 := by
  unfold hearF
  split
  · exact v
  · split
    · exact v
    · rename_i h1 h2
      obtain ⟨v0, v2, v3, v4, v5, v8, vk, vc, vh, vi, v13, vb⟩ := v
      have h3 := march_of (by simpa using h1)
      obtain ⟨a, a1, a2, -, ea⟩ := people_of v4 h3.1
      obtain ⟨b, b1, b2, -, eb⟩ := stage_of h3.2.1
      obtain ⟨d, d1, -, ed⟩ := food_of h3.2.2
      refine ⟨v0, v2, v3, v4, v5, show z.1 8 + 1 ≤ 6 by omega, vk, vc, fun k hk => ?_, vi, v13, vb⟩
      show upN (z.2.1 3) (z.1 8) (tn x) k < 2 ^ z.1 4 ∧ upN (z.2.1 4) (z.1 8) (tn y) k ≤ 6 ∧ upN (z.2.1 5) (z.1 8) (tn f) k ≤ 40 ∧ upN (z.2.1 6) (z.1 8) (if h = 0 then 0 else 1) k ≤ 1 ∧ 1 ≤ upN (z.2.1 4) (z.1 8) (tn y) k
      unfold upN
      by_cases e : k = z.1 8
      · simp only [if_pos e]
        refine ⟨by omega, by omega, by omega, ?_, by omega⟩
        split <;> omega
      · simp only [if_neg e]
        exact vh k (by have hk' : k < z.1 8 + 1 := hk; omega)
theorem vs_image {z : SG} (v : VS z) : VS (imageF z).2 := by
  unfold imageF
  split
  · exact v
  · obtain ⟨v0, v2, v3, v4, v5, v8, vk, vc, vh, vi, v13, vb⟩ := v
    exact ⟨Nat.le_refl _, v2, v3, v4, v5, v8, vk, vc, vh, fun _ => ⟨v5, v8, vc, vh⟩, Nat.le_refl _, ⟨fun _ => rfl, fun _ => rfl⟩⟩
theorem vs_restore {z : SG} (v : VS z) : VS (restoreF z).2 := by
  unfold restoreF
  split
  · rename_i h
    obtain ⟨v0, v2, v3, v4, v5, v8, vk, vc, vh, vi, v13, vb⟩ := v
    obtain ⟨w1, w2, w3, w4⟩ := vi h
    exact ⟨v0, v2, v3, v4, w1, w2, vk, w3, w4, vi, v13, vb⟩
  · exact v
/-! the class's object behind each change -/
theorem cl_letter {z : SG} {i : Nat → Int32} {r : Nat → Nat → Int32} {x : Int32} (h : Cls z i r) (h15 : z.1 3 < 15) : Cls (upG z.1 3 (z.1 3 + 1), z.2.1, upd z.2.2 (z.1 3) x) (upd i 3 (i 3 + 1)) (va_up r 0 (putv 15 (r 0) (i 3) x)) := by
  obtain ⟨⟨h0, h1, h2, h3, h4, h5, h6, h7, h8⟩, ⟨p0, p1, p2, p3⟩, hk⟩ := h
  refine ⟨⟨h0, h1, h2, ?_, h4, h5, h6, h7, h8⟩, ⟨fun k hk => ?_, p1, p2, p3⟩, hk⟩
  · show i 3 + 1 = nI (z.1 3 + 1)
    rw [h3, nI_1]
  · show putv 15 (r 0) (i 3) x k = upd z.2.2 (z.1 3) x k
    rw [h3, putv_nI h15 (by decide)]
    unfold upd
    by_cases e : k = z.1 3
    · rw [if_pos e, if_pos e]
    · rw [if_neg e, if_neg e]; exact p0 k (by have hk' : k < z.1 3 + 1 := hk; omega)
theorem cl_blank {z : SG} {i : Nat → Int32} {r : Nat → Nat → Int32} (h : Cls z i r) : Cls (blankF z).2 (upd i 3 0) r := by
  obtain ⟨⟨h0, h1, h2, h3, h4, h5, h6, h7, h8⟩, ⟨p0, p1, p2, p3⟩, hk⟩ := h
  exact ⟨⟨h0, h1, h2, rfl, h4, h5, h6, h7, h8⟩, ⟨fun k hk => absurd hk (Nat.not_lt_zero k), p1, p2, p3⟩, hk⟩
theorem cl_forget {z : SG} {i : Nat → Int32} {r : Nat → Nat → Int32} (h : Cls z i r) : Cls (forgetF z).2 (upd i 13 0) r := by
  obtain ⟨⟨h0, h1, h2, h3, h4, h5, h6, h7, h8⟩, ⟨p0, p1, p2, p3⟩, hk⟩ := h
  exact ⟨⟨h0, h1, h2, h3, h4, h5, h6, h7, rfl⟩, ⟨p0, p1, p2, fun k hk => absurd hk (Nat.not_lt_zero k)⟩, hk⟩
theorem cl_lay {z : SG} {i : Nat → Int32} {r : Nat → Nat → Int32} {q f : Nat} (h : Cls z i r) (h1 : 1 ≤ q) (h6 : q < 6) : Cls (z.1, va_up z.2.1 2 (upN (z.2.1 2) (q - 1) f), z.2.2) i (va_up r 3 (putv 5 (r 3) (nI q - 1) (nI f))) := by
  obtain ⟨hn, ⟨p0, p1, p2, p3⟩, hk⟩ := h
  exact ⟨hn, ⟨p0, p1, put_up h1 h6 p2, p3⟩, hk⟩
theorem cl_team {z : SG} {i : Nat → Int32} {r : Nat → Nat → Int32} (h : Cls z i r) : Cls (upG z.1 2 (z.1 2 + 1), z.2) (upd i 2 (i 2 + 1)) r := by
  obtain ⟨⟨h0, h1, h2, h3, h4, h5, h6, h7, h8⟩, ⟨p0, p1, p2, p3⟩, hk⟩ := h
  refine ⟨⟨h0, h1, ?_, h3, h4, h5, h6, h7, h8⟩, ⟨p0, p1, p2, p3⟩, hk⟩
  show i 2 + 1 = nI (z.1 2 + 1)
  rw [h2, nI_1]
theorem cl_march {z : SG} {i : Nat → Int32} {r : Nat → Nat → Int32} {x b a7 : Nat} {c : Nat → Nat} {v10 v12 : Int32} (h : Cls z i r) (h10 : v10 = nI (alv (z.1 5) x b)) (h12 : v12 = nI (z.1 7 + a7)) {r3 : Nat → Int32} (hc : ∀ k, k < 5 → r3 k = nI (c k)) :
    Cls (upG (upG (upG z.1 5 (alv (z.1 5) x b)) 6 (z.1 6 + 1)) 7 (z.1 7 + a7), va_up z.2.1 2 c, z.2.2) (upd (upd (upd i 10 v10) 11 (i 11 + 1)) 12 v12) (va_up r 3 r3) := by
  obtain ⟨⟨h0, h1, h2, h3, h4, h5, h6, h7, h8⟩, ⟨p0, p1, p2, p3⟩, hk⟩ := h
  refine ⟨⟨h0, h1, h2, h3, h4, h10, ?_, h12, h8⟩, ⟨p0, p1, hc, p3⟩, hk⟩
  show i 11 + 1 = nI (z.1 6 + 1)
  rw [h6, nI_1]
theorem cl_hear {z : SG} {i : Nat → Int32} {r : Nat → Nat → Int32} {x y f : Nat} {h' : Int32} (h : Cls z i r) (h6' : z.1 8 < 6) :
    Cls (upG z.1 8 (z.1 8 + 1), hearW z x y f (if h' = 0 then 0 else 1), z.2.2) (upd i 13 (i 13 + 1)) (va_up (va_up (va_up (va_up r 4 (putv 6 (r 4) (i 13) (nI x))) 5 (putv 6 (r 5) (i 13) (nI y))) 6 (putv 6 (r 6) (i 13) (nI f))) 7 (putv 6 (r 7) (i 13) (if h' = 0 then 0 else 1))) := by
  obtain ⟨⟨h0, h1, h2, h3, h4, h5, h6, h7, h8⟩, ⟨p0, p1, p2, p3⟩, hk⟩ := h
  refine ⟨⟨h0, h1, h2, h3, h4, h5, h6, h7, ?_⟩, ⟨p0, p1, p2, fun k hk => ?_⟩, hk⟩
  · show i 13 + 1 = nI (z.1 8 + 1)
    rw [h8, nI_1]
  · show putv 6 (r 4) (i 13) (nI x) k = nI (upN (z.2.1 3) (z.1 8) x k) ∧ putv 6 (r 5) (i 13) (nI y) k = nI (upN (z.2.1 4) (z.1 8) y k) ∧ putv 6 (r 6) (i 13) (nI f) k = nI (upN (z.2.1 5) (z.1 8) f k) ∧ putv 6 (r 7) (i 13) (if h' = 0 then 0 else 1) k = nI (upN (z.2.1 6) (z.1 8) (if h' = 0 then 0 else 1) k)
    rw [h8, putv_nI h6' (by decide), putv_nI h6' (by decide), putv_nI h6' (by decide), putv_nI h6' (by decide)]
    unfold upd upN
    by_cases e : k = z.1 8
    · simp only [if_pos e]
      refine ⟨trivial, trivial, trivial, ?_⟩
      by_cases e2 : h' = 0
      · rw [if_pos e2, if_pos e2]; rfl
      · rw [if_neg e2, if_neg e2]; rfl
    · simp only [if_neg e]
      exact p3 k (by have hk' : k < z.1 8 + 1 := hk; omega)
theorem cpv_k {n : Nat} {f g : Nat → Int32} {k : Nat} (hn : n < 2 ^ 31) (hk : k < n) : cpv n f n g n k = f k := by
  rw [cpv_at hn hn n (Nat.le_refl _) (Nat.le_refl _), if_pos hk]
theorem cl_image {z : SG} {i : Nat → Int32} {r : Nat → Nat → Int32} (v : VS z) (h : Cls z i r) : Cls (imageG z, imageW z, z.2.2) (upd (upd (upd (upd (upd i 14 (i 10)) 15 (i 11)) 16 (i 12)) 17 (i 13)) 0 1) (va_up (va_up (va_up (va_up (va_up r 8 (cpv 5 (r 3) 5 (r 8) 5)) 9 (cpv 6 (r 4) 6 (r 9) 6)) 10 (cpv 6 (r 5) 6 (r 10) 6)) 11 (cpv 6 (r 6) 6 (r 11) 6)) 12 (cpv 6 (r 7) 6 (r 12) 6)) := by
  obtain ⟨⟨h0, h1, h2, h3, h4, h5, h6, h7, h8⟩, ⟨p0, p1, p2, p3⟩, hk⟩ := h
  have v8 := v.2.2.2.2.2.1
  refine ⟨⟨rfl, h1, h2, h3, h4, h5, h6, h7, h8⟩, ⟨p0, p1, p2, p3⟩, fun _ => ⟨⟨h5, h6, h7, h8⟩, fun k hk => ?_, fun k hk => ?_⟩⟩
  · show cpv 5 (r 3) 5 (r 8) 5 k = _
    rw [cpv_k (by decide) hk]; exact p2 k hk
  · have hk' : k < z.1 8 := hk
    show cpv 6 (r 4) 6 (r 9) 6 k = _ ∧ cpv 6 (r 5) 6 (r 10) 6 k = _ ∧ cpv 6 (r 6) 6 (r 11) 6 k = _ ∧ cpv 6 (r 7) 6 (r 12) 6 k = _
    rw [cpv_k (by decide) (by omega), cpv_k (by decide) (by omega), cpv_k (by decide) (by omega), cpv_k (by decide) (by omega)]
    exact p3 k hk'
theorem cl_restore {z : SG} {i : Nat → Int32} {r : Nat → Nat → Int32} (v : VS z) (h : Cls z i r) (hi : z.1 0 = 1) : Cls (restoreG z, restoreW z, z.2.2) (upd (upd (upd (upd i 10 (i 14)) 11 (i 15)) 12 (i 16)) 13 (i 17)) (va_up (va_up (va_up (va_up (va_up r 3 (cpv 5 (r 8) 5 (r 3) 5)) 4 (cpv 6 (r 9) 6 (r 4) 6)) 5 (cpv 6 (r 10) 6 (r 5) 6)) 6 (cpv 6 (r 11) 6 (r 6) 6)) 7 (cpv 6 (r 12) 6 (r 7) 6)) := by
  obtain ⟨⟨h0, h1, h2, h3, h4, h5, h6, h7, h8⟩, ⟨p0, p1, p2, p3⟩, hk⟩ := h
  obtain ⟨⟨k1, k2, k3, k4⟩, k5, k6⟩ := hk hi
  have v12 := (v.2.2.2.2.2.2.2.2.2.1 hi).2.1
  refine ⟨⟨h0, h1, h2, h3, h4, k1, k2, k3, k4⟩, ⟨p0, p1, fun k hk => ?_, fun k hk => ?_⟩, fun _ => ⟨⟨k1, k2, k3, k4⟩, k5, k6⟩⟩
  · show cpv 5 (r 8) 5 (r 3) 5 k = _
    rw [cpv_k (by decide) hk]; exact k5 k hk
  · have hk' : k < z.1 12 := hk
    show cpv 6 (r 9) 6 (r 4) 6 k = _ ∧ cpv 6 (r 10) 6 (r 5) 6 k = _ ∧ cpv 6 (r 11) 6 (r 6) 6 k = _ ∧ cpv 6 (r 12) 6 (r 7) 6 k = _
    rw [cpv_k (by decide) (by omega), cpv_k (by decide) (by omega), cpv_k (by decide) (by omega), cpv_k (by decide) (by omega)]
    exact k6 k hk'
theorem lay_lt {z : SG} {q : Nat} : layS z q < 1024 := lyv_lt _ 10
theorem sum_nI {f : Nat → Int32} {c : Nat → Nat} (h : ∀ k, k < 5 → f k = nI (c k)) : sumv f 5 = nI (sumN c) := by
  show (((((0 + f 0) + f 1) + f 2) + f 3) + f 4) = _
  rw [h 0 (by decide), h 1 (by decide), h 2 (by decide), h 3 (by decide), h 4 (by decide), show (0 : Int32) = nI 0 from rfl, nI_add, nI_add, nI_add, nI_add, nI_add]
  unfold sumN
  rw [Nat.zero_add]
end
section
set_option maxHeartbeats 4000000 in
set_option maxRecDepth 100000 in
theorem c_letter (l : Launch) (D : va_G) (cI : ClassId) (tt : Nat × Nat × Nat) (a : Nat → Nat) (i : Nat → Int32) (r : Nat → Nat → Int32) (x : Int32) (z : SG) (hz : Cls z i r) (vz : VS z) : MetI (S := ((Nat → Int32) × (Nat → Nat → Int32))) l yX3_letter cX3_letter 2 (some .int) (rm 2 43) D cI tt [.ref (a 0), .int x] (cW cI a i r) (fun q u => q = (letterF z x).1 ∧ Cls (letterF z x).2 u.1 u.2) (fun u => cW cI a u.1 u.2) := by
  refine met_ofI (by decide) (Nat.le_of_ble_eq_true rfl) ?_
  intro pP eE sS mM aV bB mE cC AA C hin
  refine z_conv (lv' := [(0, .ref (a 0)), (1, .int x)]) ⟨rfl, rfl, trivial⟩ rfl rfl ?_
  refine z_iload_n C (pc := 0) dX3_letter_0 rfl ?_
  refine z_iconst C (pc := 1) (v := 1) dX3_letter_1 (by decide) ?_
  refine z_icmp_lt C (pc := 2) (tgt := 11) dX3_letter_2 (by decide) (fun c_1 => ?_) (fun c_1 => ?_)
  · refine z_bipush C (pc := 11) (v := (-102)) dX3_letter_11 (by decide) ?_
    refine z_iret C (pc := 13) (i, r) dX3_letter_13 ?_ rfl
    rw [show letterF z x = (-102, z) from if_pos (Or.inl c_1)]
    exact ⟨rfl, hz⟩
  · refine z_iload_n C (pc := 5) dX3_letter_5 rfl ?_
    refine z_bipush C (pc := 6) (v := 126) dX3_letter_6 (by decide) ?_
    refine z_icmp_le C (pc := 8) (tgt := 14) dX3_letter_8 (by decide) (fun c_2 => ?_) (fun c_2 => ?_)
    · refine z_aload_n C (pc := 14) dX3_letter_14 rfl ?_
      refine z_get C (pc := 15) 0 rfl rfl wf_X3 0 (by decide) rfl wl_X3_10 (v := .ref (a 1)) rfl dX3_letter_15 ?_
      refine z_iload_n C (pc := 18) dX3_letter_18 rfl ?_
      refine z_calliF C (by exact fun _ => cW_ad) (runVN C (wc := (cW cI a i r)) (pc := 19) (rY' := rm 1 22) (nn := 1) (As := [.int x]) (rest := []) (c_add l D cI tt a i r x) (full_hC _) (full_nd _) ⟨rfl, rfl, ⟨Nat.le_of_ble_eq_true rfl, Nat.le_of_ble_eq_true rfl⟩, Nat.le_of_ble_eq_true rfl, Nat.le_of_ble_eq_true rfl⟩ wl_X3_37 wm_X0_add we_X0_add wi_X0 wc_X0_add (by decide +kernel) rfl 1 rfl rfl rfl rfl (Nat.le_of_ble_eq_true rfl) dX3_letter_19) (fun q_3 u_3 h_3 => ?_)
      obtain ⟨i3, r3⟩ := u_3
      try dsimp only at h_3
      refine z_ws (st' := [.int q_3]) (ws' := (cW cI a i3 r3)) rfl rfl ?_
      refine z_if_eq C (pc := 22) (tgt := 35) dX3_letter_22 (by decide) (fun c_4 => ?_) (fun c_4 => ?_)
      · have hA : nI 15 ≤ i 3 ∧ (i3, r3) = (i, r) := by
          rcases h_3 with ⟨h1, h2, h3⟩ | ⟨h1, h2, h3⟩
          · exact ⟨h1, h3⟩
          · exact absurd (h2 ▸ c_4) (by decide)
        obtain ⟨hA1, hA2⟩ := hA
        obtain ⟨e1, e2⟩ := Prod.mk.inj hA2
        rw [hz.1.2.2.2.1] at hA1
        have hF := ge_of_nI hA1 (by decide)
        refine z_bipush C (pc := 35) (v := (-104)) dX3_letter_35 (by decide) ?_
        refine z_iret C (pc := 37) (i3, r3) dX3_letter_37 ?_ rfl
        rw [show letterF z x = (-104, z) from (if_neg (fun h => h.elim (fun h => c_1 h) (fun h => h c_2))).trans (if_pos hF), e1, e2]
        exact ⟨rfl, hz⟩
      · have hA : ¬ nI 15 ≤ i 3 ∧ (i3, r3) = (upd i 3 (i 3 + 1), va_up r 0 (putv 15 (r 0) (i 3) x)) := by
          rcases h_3 with ⟨h1, h2, h3⟩ | ⟨h1, h2, h3⟩
          · exact absurd h2 c_4
          · exact ⟨h1, h3⟩
        obtain ⟨hA1, hA2⟩ := hA
        obtain ⟨e1, e2⟩ := Prod.mk.inj hA2
        rw [hz.1.2.2.2.1] at hA1
        have hF : z.1 3 < 15 := lt_of_nI hA1 (by have := vz.2.2.1; omega)
        refine z_aload_n C (pc := 25) dX3_letter_25 rfl ?_
        refine z_get C (pc := 26) 0 rfl rfl wf_X3 0 (by decide) rfl wl_X3_10 (v := .ref (a 1)) rfl dX3_letter_26 ?_
        refine z_getN C (pc := 29) 1 rfl rfl wf_X0 1 (by decide) rfl wl_X3_41 (v := .int (i3 3)) rfl dX3_letter_29 ?_
        refine z_goto C (pc := 32) (tgt := 37) dX3_letter_32 (by decide) ?_
        refine z_iret C (pc := 37) (i3, r3) dX3_letter_37 ?_ rfl
        rw [show letterF z x = (nI (z.1 3 + 1), (upG z.1 3 (z.1 3 + 1), z.2.1, upd z.2.2 (z.1 3) x)) from (if_neg (fun h => h.elim (fun h => c_1 h) (fun h => h c_2))).trans (if_neg (by omega)), e1, e2]
        exact ⟨by rw [upd_s, hz.1.2.2.2.1, nI_1], cl_letter hz hF⟩
    · refine z_bipush C (pc := 11) (v := (-102)) dX3_letter_11 (by decide) ?_
      refine z_iret C (pc := 13) (i, r) dX3_letter_13 ?_ rfl
      rw [show letterF z x = (-102, z) from if_pos (Or.inr c_2)]
      exact ⟨rfl, hz⟩


set_option maxHeartbeats 4000000 in
set_option maxRecDepth 100000 in
theorem c_fault (l : Launch) (D : va_G) (cI : ClassId) (tt : Nat × Nat × Nat) (a : Nat → Nat) (i : Nat → Int32) (r : Nat → Nat → Int32) (z : SG) (hz : Cls z i r) (vz : VS z) : MetI (S := ((Nat → Int32) × (Nat → Nat → Int32))) l yX3_fault cX3_fault 1 (some .int) (rm 3 66) D cI tt [.ref (a 0)] (cW cI a i r) (fun q u => q = faultF z ∧ Cls z u.1 u.2) (fun u => cW cI a u.1 u.2) := by
  refine met_ofI (by decide) (Nat.le_of_ble_eq_true rfl) ?_
  intro pP eE sS mM aV bB mE cC AA C hin
  refine z_conv (lv' := [(0, .ref (a 0))]) ⟨rfl, trivial⟩ rfl rfl ?_
  refine z_aload_n C (pc := 0) dX3_fault_0 rfl ?_
  refine z_get C (pc := 1) 0 rfl rfl wf_X3 0 (by decide) rfl wl_X3_10 (v := .ref (a 1)) rfl dX3_fault_1 ?_
  refine z_calliF C (by exact fun _ => cW_ad) (runVN C (wc := (cW cI a i r)) (pc := 4) (rY' := rm 2 42) (nn := 0) (As := []) (rest := []) (c_firstWrong l D cI tt a i r (z.1 3) hz.1.2.2.2.1 vz.2.2.1) (full_hC _) (full_nd _) ⟨rfl, rfl, ⟨Nat.le_of_ble_eq_true rfl, Nat.le_of_ble_eq_true rfl⟩, Nat.le_of_ble_eq_true rfl, Nat.le_of_ble_eq_true rfl⟩ wl_X3_45 wm_X0_firstWrong we_X0_firstWrong wi_X0 wc_X0_firstWrong (by decide +kernel) rfl 1 rfl rfl rfl rfl (Nat.le_of_ble_eq_true rfl) dX3_fault_4) (fun q_1 u_1 h_1 => ?_)
  subst h_1
  refine z_ws (st' := [.int (nI (scv (r 0) (z.1 3) 0 0).1)]) (ws' := (cW cI a i r)) rfl rfl ?_
  refine z_iret C (pc := 7) (i, r) dX3_fault_7 ?_ rfl
  exact ⟨by unfold faultF; rw [scv_congr hz.2.1.1 _ 0 0 (by omega)], hz⟩


set_option maxHeartbeats 4000000 in
set_option maxRecDepth 100000 in
theorem c_member (l : Launch) (D : va_G) (cI : ClassId) (tt : Nat × Nat × Nat) (a : Nat → Nat) (i : Nat → Int32) (r : Nat → Nat → Int32) (m what : Int32) (z : SG) (hz : Cls z i r) (vz : VS z) : MetI (S := ((Nat → Int32) × (Nat → Nat → Int32))) l yX3_member cX3_member 4 (some .int) (rm 1 21) D cI tt [.ref (a 0), .int m, .int what] (cW cI a i r) (fun q u => q = memberF z m what ∧ Cls z u.1 u.2) (fun u => cW cI a u.1 u.2) := by
  have hv := hz.pv vz
  have hc := hz.c vz
  have hh := hz.hv vz
  have hn6 := vz.2.2.2.1
  have hx6 := pow_le6 hn6
  refine met_ofI (by decide) (Nat.le_of_ble_eq_true rfl) ?_
  intro pP eE sS mM aV bB mE cC AA C hin
  refine z_conv (lv' := [(0, .ref (a 0)), (1, .int m), (2, .int what)]) ⟨rfl, rfl, rfl, trivial⟩ rfl rfl ?_
  refine z_iload_n C (pc := 0) dX3_member_0 rfl ?_
  refine z_if_lt C (pc := 1) (tgt := 15) dX3_member_1 (by decide) (fun c_1 => ?_) (fun c_1 => ?_)
  · refine z_bipush C (pc := 15) (v := (-101)) dX3_member_15 (by decide) ?_
    refine z_iret C (pc := 17) (i, r) dX3_member_17 ?_ rfl
    rw [show memberF z m what = -101 from if_pos (by unfold noMember; simp [c_1])]
    exact ⟨rfl, hz⟩
  · refine z_iload_n C (pc := 4) dX3_member_4 rfl ?_
    refine z_aload_n C (pc := 5) dX3_member_5 rfl ?_
    refine z_get C (pc := 6) 0 rfl rfl wf_X3 1 (by decide) rfl wl_X3_19 (v := .ref (a 3)) rfl dX3_member_6 ?_
    refine z_getN C (pc := 9) 3 rfl rfl wf_X1 1 (by decide) rfl wl_X3_53 (v := .int (i 4)) rfl dX3_member_9 ?_
    refine z_icmp_lt C (pc := 12) (tgt := 18) dX3_member_12 (by decide) (fun c_2 => ?_) (fun c_2 => ?_)
    · rw [hz.1.2.2.2.2.1] at c_2
      have hm : noMember z m = false := by unfold noMember; simp [c_1, c_2]
      obtain ⟨k, hk, hmk, htk⟩ := member_of vz hm
      subst hmk
      refine z_aload_n C (pc := 18) dX3_member_18 rfl ?_
      refine z_get C (pc := 19) 0 rfl rfl wf_X3 1 (by decide) rfl wl_X3_19 (v := .ref (a 3)) rfl dX3_member_19 ?_
      refine z_getN C (pc := 22) 3 rfl rfl wf_X1 0 (by decide) rfl wl_X3_56 (v := .ref (a 4)) rfl dX3_member_22 ?_
      refine z_iload_n C (pc := 25) dX3_member_25 rfl ?_
      refine z_calli C (isC := [4]) rfl (by exact fun _ => rfl) (runS C (wc := [(a 4, .inl (cI, 6, .inl (r 1)))]) (pc := 26) (rY' := rm 0 0) (nn := 2) (As := [.ref (a 4), .int (nI k)]) (rest := []) (c_at l D cI tt (a 4) 6 (r 1) (nI k) (by decide)) rfl rfl ⟨rfl, rfl, ⟨Nat.le_of_ble_eq_true rfl, Nat.le_of_ble_eq_true rfl⟩, Nat.le_of_ble_eq_true rfl, Nat.le_of_ble_eq_true rfl⟩ wl_X3_87 ws_X3_at wi_X3 wc_X3_at (by decide +kernel) rfl rfl (Nat.le_of_ble_eq_true rfl) dX3_member_26) (fun r_3 u_3 h_3 => ?_)
      have h_3 : r_3 = (nI (z.2.1 1 k)) := h_3.trans (kind_at hv hk)
      subst h_3
      refine z_ws (st' := [.int (nI (z.2.1 1 k))]) (ws' := (cW cI a i r)) rfl rfl ?_
      refine z_istore_n C (pc := 29) (lv' := [(0, .ref (a 0)), (1, .int (nI k)), (2, .int what), (3, .int (nI (z.2.1 1 k)))]) dX3_member_29 (Nat.le_of_ble_eq_true rfl) rfl rfl ?_
      refine z_iload_n C (pc := 30) dX3_member_30 rfl ?_
      by_cases c_4 : what = 0
      · refine z_tableIn C (pc := 31) (tgt := 64) (off := 33) dX3_member_31 (by rw [c_4]; decide) (by rw [c_4]; decide) (by rw [c_4]; rfl) (by decide) ?_
        refine z_iload_n C (pc := 64) dX3_member_64 rfl ?_
        refine z_iret C (pc := 65) (i, r) dX3_member_65 ?_ rfl
        refine ⟨?_, hz⟩
        rw [show memberF z (nI k) what = tellF z k what from (if_neg (by rw [hm]; decide)).trans (by rw [htk])]
        unfold tellF
        subst c_4
        rfl
      by_cases c_5 : what = 1
      · refine z_tableIn C (pc := 31) (tgt := 66) (off := 35) dX3_member_31 (by rw [c_5]; decide) (by rw [c_5]; decide) (by rw [c_5]; rfl) (by decide) ?_
        refine z_gets C (pc := 66) C.2.2.2.2.2.2.2.1.1.1 wl_X3_91 dX3_member_66 ?_
        refine z_iload_n C (pc := 69) dX3_member_69 rfl ?_
        refine z_calli C (isC := []) rfl (by exact fun _ => rfl) (runS C (wc := []) (pc := 70) (rY' := rm 0 0) (nn := 2) (As := [.ref tt.1, .int (nI (z.2.1 1 k))]) (rest := []) (c_atP l D cI tt (nI (z.2.1 1 k))) rfl rfl ⟨rfl, rfl, ⟨Nat.le_of_ble_eq_true rfl, Nat.le_of_ble_eq_true rfl⟩, Nat.le_of_ble_eq_true rfl, Nat.le_of_ble_eq_true rfl⟩ wl_X3_87 ws_X3_at wi_X3 wc_X3_at (by decide +kernel) rfl rfl (Nat.le_of_ble_eq_true rfl) dX3_member_70) (fun r_6 u_6 h_6 => ?_)
        have h_6 : r_6 = (nI (pls (z.2.1 1 k))) := h_6.trans (tabP (hv.2.2 k hk).2)
        subst h_6
        refine z_ws (st' := [.int (nI (pls (z.2.1 1 k)))]) (ws' := (cW cI a i r)) rfl rfl ?_
        refine z_iret C (pc := 73) (i, r) dX3_member_73 ?_ rfl
        refine ⟨?_, hz⟩
        rw [show memberF z (nI k) what = tellF z k what from (if_neg (by rw [hm]; decide)).trans (by rw [htk])]
        unfold tellF
        subst c_5
        rfl
      by_cases c_7 : what = 2
      · refine z_tableIn C (pc := 31) (tgt := 74) (off := 43) dX3_member_31 (by rw [c_7]; decide) (by rw [c_7]; decide) (by rw [c_7]; rfl) (by decide) ?_
        refine z_gets C (pc := 74) C.2.2.2.2.2.2.2.1.2.1.1 wl_X3_94 dX3_member_74 ?_
        refine z_iload_n C (pc := 77) dX3_member_77 rfl ?_
        refine z_calli C (isC := []) rfl (by exact fun _ => rfl) (runS C (wc := []) (pc := 78) (rY' := rm 0 0) (nn := 2) (As := [.ref tt.2.1, .int (nI (z.2.1 1 k))]) (rest := []) (c_atE l D cI tt (nI (z.2.1 1 k))) rfl rfl ⟨rfl, rfl, ⟨Nat.le_of_ble_eq_true rfl, Nat.le_of_ble_eq_true rfl⟩, Nat.le_of_ble_eq_true rfl, Nat.le_of_ble_eq_true rfl⟩ wl_X3_87 ws_X3_at wi_X3 wc_X3_at (by decide +kernel) rfl rfl (Nat.le_of_ble_eq_true rfl) dX3_member_78) (fun r_8 u_8 h_8 => ?_)
        have h_8 : r_8 = (nI (ets (z.2.1 1 k))) := h_8.trans (tabE (hv.2.2 k hk).2)
        subst h_8
        refine z_ws (st' := [.int (nI (ets (z.2.1 1 k)))]) (ws' := (cW cI a i r)) rfl rfl ?_
        refine z_iret C (pc := 81) (i, r) dX3_member_81 ?_ rfl
        refine ⟨?_, hz⟩
        rw [show memberF z (nI k) what = tellF z k what from (if_neg (by rw [hm]; decide)).trans (by rw [htk])]
        unfold tellF
        subst c_7
        rfl
      by_cases c_9 : what = 3
      · refine z_tableIn C (pc := 31) (tgt := 82) (off := 51) dX3_member_31 (by rw [c_9]; decide) (by rw [c_9]; decide) (by rw [c_9]; rfl) (by decide) ?_
        refine z_gets C (pc := 82) C.2.2.2.2.2.2.2.1.2.2.1 wl_X3_97 dX3_member_82 ?_
        refine z_iload_n C (pc := 85) dX3_member_85 rfl ?_
        refine z_calli C (isC := []) rfl (by exact fun _ => rfl) (runS C (wc := []) (pc := 86) (rY' := rm 0 0) (nn := 2) (As := [.ref tt.2.2, .int (nI (z.2.1 1 k))]) (rest := []) (c_atF l D cI tt (nI (z.2.1 1 k))) rfl rfl ⟨rfl, rfl, ⟨Nat.le_of_ble_eq_true rfl, Nat.le_of_ble_eq_true rfl⟩, Nat.le_of_ble_eq_true rfl, Nat.le_of_ble_eq_true rfl⟩ wl_X3_87 ws_X3_at wi_X3 wc_X3_at (by decide +kernel) rfl rfl (Nat.le_of_ble_eq_true rfl) dX3_member_86) (fun r_10 u_10 h_10 => ?_)
        have h_10 : r_10 = (nI (fds (z.2.1 1 k))) := h_10.trans (tabF (hv.2.2 k hk).2)
        subst h_10
        refine z_ws (st' := [.int (nI (fds (z.2.1 1 k)))]) (ws' := (cW cI a i r)) rfl rfl ?_
        refine z_iret C (pc := 89) (i, r) dX3_member_89 ?_ rfl
        refine ⟨?_, hz⟩
        rw [show memberF z (nI k) what = tellF z k what from (if_neg (by rw [hm]; decide)).trans (by rw [htk])]
        unfold tellF
        subst c_9
        rfl
      by_cases c_11 : what = 4
      · refine z_tableIn C (pc := 31) (tgt := 90) (off := 59) dX3_member_31 (by rw [c_11]; decide) (by rw [c_11]; decide) (by rw [c_11]; rfl) (by decide) ?_
        refine z_aload_n C (pc := 90) dX3_member_90 rfl ?_
        refine z_get C (pc := 91) 0 rfl rfl wf_X3 2 (by decide) rfl wl_X3_26 (v := .ref (a 6)) rfl dX3_member_91 ?_
        refine z_getN C (pc := 94) 6 rfl rfl wf_X2 0 (by decide) rfl wl_X3_100 (v := .int (i 10)) rfl dX3_member_94 ?_
        refine z_iload_n C (pc := 97) dX3_member_97 rfl ?_
        refine z_ishr C (pc := 98) dX3_member_98 ?_
        refine z_iconst C (pc := 99) (v := 1) dX3_member_99 (by decide) ?_
        refine z_iand C (pc := 100) dX3_member_100 ?_
        refine z_iret C (pc := 101) (i, r) dX3_member_101 ?_ rfl
        refine ⟨?_, hz⟩
        rw [show memberF z (nI k) what = tellF z k what from (if_neg (by rw [hm]; decide)).trans (by rw [htk])]
        unfold tellF
        subst c_11
        rw [hz.1.2.2.2.2.2.1]
        exact shr_bt (by omega) (by have := vz.2.2.2.2.1; omega)
      refine z_tableOut C (pc := 31) (tgt := 102) dX3_member_31 (by have q0 := lv_neT c_4 (a := 0) rfl; have q1 := lv_neT c_5 (a := 1) rfl; have q2 := lv_neT c_7 (a := 2) rfl; have q3 := lv_neT c_9 (a := 3) rfl; have q4 := lv_neT c_11 (a := 4) rfl; omega) (by decide) ?_
      refine z_bipush C (pc := 102) (v := (-102)) dX3_member_102 (by decide) ?_
      refine z_iret C (pc := 104) (i, r) dX3_member_104 ?_ rfl
      refine ⟨?_, hz⟩
      rw [show memberF z (nI k) what = tellF z k what from (if_neg (by rw [hm]; decide)).trans (by rw [htk])]
      unfold tellF
      simp [*]
    · refine z_bipush C (pc := 15) (v := (-101)) dX3_member_15 (by decide) ?_
      refine z_iret C (pc := 17) (i, r) dX3_member_17 ?_ rfl
      rw [hz.1.2.2.2.2.1] at c_2
      rw [show memberF z m what = -101 from if_pos (by unfold noMember; simp [c_2])]
      exact ⟨rfl, hz⟩

set_option maxHeartbeats 4000000 in
set_option maxRecDepth 100000 in
theorem c_as (l : Launch) (D : va_G) (cI : ClassId) (tt : Nat × Nat × Nat) (a : Nat → Nat) (i : Nat → Int32) (r : Nat → Nat → Int32) (m kind : Int32) (z : SG) (hz : Cls z i r) (vz : VS z) : MetI (S := ((Nat → Int32) × (Nat → Nat → Int32))) l yX3_as cX3_as 3 (some .int) (rm 1 21) D cI tt [.ref (a 0), .int m, .int kind] (cW cI a i r) (fun q u => q = asF z m kind ∧ Cls z u.1 u.2) (fun u => cW cI a u.1 u.2) := by
  have hv := hz.pv vz
  have hc := hz.c vz
  have hh := hz.hv vz
  have hn6 := vz.2.2.2.1
  have hx6 := pow_le6 hn6
  refine met_ofI (by decide) (Nat.le_of_ble_eq_true rfl) ?_
  intro pP eE sS mM aV bB mE cC AA C hin
  refine z_conv (lv' := [(0, .ref (a 0)), (1, .int m), (2, .int kind)]) ⟨rfl, rfl, rfl, trivial⟩ rfl rfl ?_
  refine z_iload_n C (pc := 0) dX3_as_0 rfl ?_
  refine z_if_lt C (pc := 1) (tgt := 15) dX3_as_1 (by decide) (fun c_1 => ?_) (fun c_1 => ?_)
  · refine z_bipush C (pc := 15) (v := (-101)) dX3_as_15 (by decide) ?_
    refine z_iret C (pc := 17) (i, r) dX3_as_17 ?_ rfl
    rw [show asF z m kind = -101 from if_pos (by unfold noMember; simp [c_1])]
    exact ⟨rfl, hz⟩
  · refine z_iload_n C (pc := 4) dX3_as_4 rfl ?_
    refine z_aload_n C (pc := 5) dX3_as_5 rfl ?_
    refine z_get C (pc := 6) 0 rfl rfl wf_X3 1 (by decide) rfl wl_X3_19 (v := .ref (a 3)) rfl dX3_as_6 ?_
    refine z_getN C (pc := 9) 3 rfl rfl wf_X1 1 (by decide) rfl wl_X3_53 (v := .int (i 4)) rfl dX3_as_9 ?_
    refine z_icmp_lt C (pc := 12) (tgt := 18) dX3_as_12 (by decide) (fun c_2 => ?_) (fun c_2 => ?_)
    · rw [hz.1.2.2.2.2.1] at c_2
      have hm : noMember z m = false := by unfold noMember; simp [c_1, c_2]
      obtain ⟨k, hk, hmk, htk⟩ := member_of vz hm
      subst hmk
      refine z_iload_n C (pc := 18) dX3_as_18 rfl ?_
      refine z_if_lt C (pc := 19) (tgt := 27) dX3_as_19 (by decide) (fun c_3 => ?_) (fun c_3 => ?_)
      · refine z_bipush C (pc := 27) (v := (-102)) dX3_as_27 (by decide) ?_
        refine z_iret C (pc := 29) (i, r) dX3_as_29 ?_ rfl
        rw [show asF z (nI k) kind = -102 from (if_neg (by rw [hm]; decide)).trans (if_pos (Or.inl c_3))]
        exact ⟨rfl, hz⟩
      · refine z_iload_n C (pc := 22) dX3_as_22 rfl ?_
        refine z_iconst C (pc := 23) (v := 5) dX3_as_23 (by decide) ?_
        refine z_icmp_lt C (pc := 24) (tgt := 30) dX3_as_24 (by decide) (fun c_4 => ?_) (fun c_4 => ?_)
        · refine z_aload_n C (pc := 30) dX3_as_30 rfl ?_
          refine z_get C (pc := 31) 0 rfl rfl wf_X3 1 (by decide) rfl wl_X3_19 (v := .ref (a 3)) rfl dX3_as_31 ?_
          refine z_getN C (pc := 34) 3 rfl rfl wf_X1 0 (by decide) rfl wl_X3_56 (v := .ref (a 4)) rfl dX3_as_34 ?_
          refine z_iload_n C (pc := 37) dX3_as_37 rfl ?_
          refine z_calli C (isC := [4]) rfl (by exact fun _ => rfl) (runS C (wc := [(a 4, .inl (cI, 6, .inl (r 1)))]) (pc := 38) (rY' := rm 0 0) (nn := 2) (As := [.ref (a 4), .int (nI k)]) (rest := []) (c_at l D cI tt (a 4) 6 (r 1) (nI k) (by decide)) rfl rfl ⟨rfl, rfl, ⟨Nat.le_of_ble_eq_true rfl, Nat.le_of_ble_eq_true rfl⟩, Nat.le_of_ble_eq_true rfl, Nat.le_of_ble_eq_true rfl⟩ wl_X3_87 ws_X3_at wi_X3 wc_X3_at (by decide +kernel) rfl rfl (Nat.le_of_ble_eq_true rfl) dX3_as_38) (fun r_5 u_5 h_5 => ?_)
          have h_5 : r_5 = (nI (z.2.1 1 k)) := h_5.trans (kind_at hv hk)
          subst h_5
          refine z_ws (st' := [.int (nI (z.2.1 1 k))]) (ws' := (cW cI a i r)) rfl rfl ?_
          refine z_iload_n C (pc := 41) dX3_as_41 rfl ?_
          refine z_calli C (isC := []) rfl (by exact fun _ => rfl) (runS C (wc := []) (pc := 42) (rY' := rm 0 0) (nn := 2) (As := [.int (nI (z.2.1 1 k)), .int kind]) (rest := []) (c_isOf l D cI tt (nI (z.2.1 1 k)) kind) rfl rfl ⟨rfl, rfl, ⟨Nat.le_of_ble_eq_true rfl, Nat.le_of_ble_eq_true rfl⟩, Nat.le_of_ble_eq_true rfl, Nat.le_of_ble_eq_true rfl⟩ wl_X3_103 ws_X3_isOf wi_X3 wc_X3_isOf (by decide +kernel) rfl rfl (Nat.le_of_ble_eq_true rfl) dX3_as_42) (fun r_6 u_6 h_6 => ?_)
          subst h_6
          refine z_ws (st' := [.int (isOfv (nI (z.2.1 1 k)) kind)]) (ws' := (cW cI a i r)) rfl rfl ?_
          refine z_if_eq C (pc := 45) (tgt := 52) dX3_as_45 (by decide) (fun c_7 => ?_) (fun c_7 => ?_)
          · refine z_iconst C (pc := 52) (v := (-1)) dX3_as_52 (by decide) ?_
            refine z_iret C (pc := 53) (i, r) dX3_as_53 ?_ rfl
            rw [show asF z (nI k) kind = -1 from (if_neg (by rw [hm]; decide)).trans ((if_neg (fun h => h.elim (fun h => c_3 h) (fun h => h c_4))).trans (if_pos (by rw [htk]; exact c_7)))]
            exact ⟨rfl, hz⟩
          · refine z_iload_n C (pc := 48) dX3_as_48 rfl ?_
            refine z_goto C (pc := 49) (tgt := 53) dX3_as_49 (by decide) ?_
            refine z_iret C (pc := 53) (i, r) dX3_as_53 ?_ rfl
            rw [show asF z (nI k) kind = nI k from (if_neg (by rw [hm]; decide)).trans ((if_neg (fun h => h.elim (fun h => c_3 h) (fun h => h c_4))).trans (if_neg (by rw [htk]; exact c_7)))]
            exact ⟨rfl, hz⟩
        · refine z_bipush C (pc := 27) (v := (-102)) dX3_as_27 (by decide) ?_
          refine z_iret C (pc := 29) (i, r) dX3_as_29 ?_ rfl
          rw [show asF z (nI k) kind = -102 from (if_neg (by rw [hm]; decide)).trans (if_pos (Or.inr c_4))]
          exact ⟨rfl, hz⟩
    · refine z_bipush C (pc := 15) (v := (-101)) dX3_as_15 (by decide) ?_
      refine z_iret C (pc := 17) (i, r) dX3_as_17 ?_ rfl
      rw [hz.1.2.2.2.2.1] at c_2
      rw [show asF z m kind = -101 from if_pos (by unfold noMember; simp [c_2])]
      exact ⟨rfl, hz⟩

set_option maxHeartbeats 4000000 in
set_option maxRecDepth 100000 in
theorem c_cairn (l : Launch) (D : va_G) (cI : ClassId) (tt : Nat × Nat × Nat) (a : Nat → Nat) (i : Nat → Int32) (r : Nat → Nat → Int32) (x what : Int32) (z : SG) (hz : Cls z i r) (vz : VS z) : MetI (S := ((Nat → Int32) × (Nat → Nat → Int32))) l yX3_cairn cX3_cairn 3 (some .int) (rm 6 144) D cI tt [.ref (a 0), .int x, .int what] (cW cI a i r) (fun q u => q = cairnF z x what ∧ Cls z u.1 u.2) (fun u => cW cI a u.1 u.2) := by
  have hv := hz.pv vz
  have hc := hz.c vz
  have hh := hz.hv vz
  have hn6 := vz.2.2.2.1
  have hx6 := pow_le6 hn6
  refine met_ofI (by decide) (Nat.le_of_ble_eq_true rfl) ?_
  intro pP eE sS mM aV bB mE cC AA C hin
  refine z_conv (lv' := [(0, .ref (a 0)), (1, .int x), (2, .int what)]) ⟨rfl, rfl, rfl, trivial⟩ rfl rfl ?_
  refine z_aload_n C (pc := 0) dX3_cairn_0 rfl ?_
  refine z_iload_n C (pc := 1) dX3_cairn_1 rfl ?_
  refine z_calliF C (by exact fun _ => cW_ad) (runV C (wc := (cW cI a i r)) (pc := 2) (rY' := rm 0 0) (nn := 1) (As := [.int x]) (rest := []) (c_isNoCairn l D cI tt a i r x (z.1 4) hv.1 hn6) (full_hC _) (full_nd _) ⟨rfl, rfl, ⟨Nat.le_of_ble_eq_true rfl, Nat.le_of_ble_eq_true rfl⟩, Nat.le_of_ble_eq_true rfl, Nat.le_of_ble_eq_true rfl⟩ wl_X3_107 wm_X3_isNoCairn we_X3_isNoCairn wi_X3 wc_X3_isNoCairn (by decide +kernel) rfl 0 rfl rfl rfl rfl (Nat.le_of_ble_eq_true rfl) dX3_cairn_2) (fun q_1 u_1 h_1 => ?_)
  refine z_ws (st' := [.int q_1]) (ws' := (cW cI a i r)) rfl rfl ?_
  refine z_if_eq C (pc := 5) (tgt := 11) dX3_cairn_5 (by decide) (fun c_2 => ?_) (fun c_2 => ?_)
  · have hb := b2_f (h_1 ▸ c_2)
    obtain ⟨hn0, q, hq1, hq6, hxq, htq⟩ := cairn_of hb
    subst hxq
    refine z_iload_n C (pc := 11) dX3_cairn_11 rfl ?_
    by_cases c_3 : what = 0
    · refine z_tableIn C (pc := 12) (tgt := 40) (off := 28) dX3_cairn_12 (by rw [c_3]; decide) (by rw [c_3]; decide) (by rw [c_3]; rfl) (by decide) ?_
      refine z_aload_n C (pc := 40) dX3_cairn_40 rfl ?_
      refine z_get C (pc := 41) 0 rfl rfl wf_X3 2 (by decide) rfl wl_X3_26 (v := .ref (a 6)) rfl dX3_cairn_41 ?_
      refine z_getN C (pc := 44) 6 rfl rfl wf_X2 1 (by decide) rfl wl_X3_77 (v := .ref (a 7)) rfl dX3_cairn_44 ?_
      refine z_iload_n C (pc := 47) dX3_cairn_47 rfl ?_
      refine z_iconst C (pc := 48) (v := 1) dX3_cairn_48 (by decide) ?_
      refine z_isub C (pc := 49) dX3_cairn_49 ?_
      refine z_calli C (isC := [7]) rfl (by exact fun _ => rfl) (runS C (wc := [(a 7, .inl (cI, 5, .inl (r 3)))]) (pc := 50) (rY' := rm 0 0) (nn := 2) (As := [.ref (a 7), .int ((nI q) - 1)]) (rest := []) (c_at l D cI tt (a 7) 5 (r 3) ((nI q) - 1) (by decide)) rfl rfl ⟨rfl, rfl, ⟨Nat.le_of_ble_eq_true rfl, Nat.le_of_ble_eq_true rfl⟩, Nat.le_of_ble_eq_true rfl, Nat.le_of_ble_eq_true rfl⟩ wl_X3_87 ws_X3_at wi_X3 wc_X3_at (by decide +kernel) rfl rfl (Nat.le_of_ble_eq_true rfl) dX3_cairn_50) (fun r_4 u_4 h_4 => ?_)
      have h_4 : r_4 = (nI (z.2.1 2 (q - 1))) := h_4.trans ((at_c hq6 hc).trans (by unfold cav; rw [if_neg (by omega)]))
      subst h_4
      refine z_ws (st' := [.int (nI (z.2.1 2 (q - 1)))]) (ws' := (cW cI a i r)) rfl rfl ?_
      refine z_iret C (pc := 53) (i, r) dX3_cairn_53 ?_ rfl
      rw [show cairnF z (nI q) what = (if what = 0 then nI (z.2.1 2 (q - 1)) else if what = 1 then nI (layS z q) else if what = 2 then tryS z q else -102) from (if_neg (by rw [hb]; decide)).trans (by rw [htq])]
      subst c_3
      exact ⟨rfl, hz⟩
    by_cases c_5 : what = 1
    · refine z_tableIn C (pc := 12) (tgt := 54) (off := 42) dX3_cairn_12 (by rw [c_5]; decide) (by rw [c_5]; decide) (by rw [c_5]; rfl) (by decide) ?_
      refine z_aload_n C (pc := 54) dX3_cairn_54 rfl ?_
      refine z_iload_n C (pc := 55) dX3_cairn_55 rfl ?_
      refine z_calliF C (by exact fun _ => cW_ad) (runV C (wc := (cW cI a i r)) (pc := 56) (rY' := rm 5 117) (nn := 1) (As := [.int (nI q)]) (rest := []) (c_amountsAt l D cI tt a i r (z.2.1 1) (z.1 4) hv (z.2.1 2) hc (z.1 8) (z.2.1 3) (z.2.1 4) (z.2.1 5) (z.2.1 6) hh q hq1 hq6) (full_hC _) (full_nd _) ⟨rfl, rfl, ⟨Nat.le_of_ble_eq_true rfl, Nat.le_of_ble_eq_true rfl⟩, Nat.le_of_ble_eq_true rfl, Nat.le_of_ble_eq_true rfl⟩ wl_X3_110 wm_X3_amountsAt we_X3_amountsAt wi_X3 wc_X3_amountsAt (by decide +kernel) rfl 0 rfl rfl rfl rfl (Nat.le_of_ble_eq_true rfl) dX3_cairn_56) (fun q_6 u_6 h_6 => ?_)
      obtain ⟨i6, r6⟩ := u_6
      try dsimp only at h_6
      obtain ⟨k0, k1, k2⟩ := h_6
      subst k0
      refine z_ws (st' := [.int (nI (layS z q))]) (ws' := (cW cI a i6 r6)) rfl rfl ?_
      refine z_iret C (pc := 59) (i6, r6) dX3_cairn_59 ?_ rfl
      rw [show cairnF z (nI q) what = (if what = 0 then nI (z.2.1 2 (q - 1)) else if what = 1 then nI (layS z q) else if what = 2 then tryS z q else -102) from (if_neg (by rw [hb]; decide)).trans (by rw [htq])]
      subst c_5
      exact ⟨rfl, hz.sp k1 k2⟩
    by_cases c_7 : what = 2
    · refine z_tableIn C (pc := 12) (tgt := 60) (off := 48) dX3_cairn_12 (by rw [c_7]; decide) (by rw [c_7]; decide) (by rw [c_7]; rfl) (by decide) ?_
      refine z_aload_n C (pc := 60) dX3_cairn_60 rfl ?_
      refine z_iload_n C (pc := 61) dX3_cairn_61 rfl ?_
      refine z_aload_n C (pc := 62) dX3_cairn_62 rfl ?_
      refine z_iload_n C (pc := 63) dX3_cairn_63 rfl ?_
      refine z_calliF C (by exact fun _ => cW_ad) (runV C (wc := (cW cI a i r)) (pc := 64) (rY' := rm 5 117) (nn := 1) (As := [.int (nI q)]) (rest := [.int (nI q), .ref (a 0)]) (c_amountsAt l D cI tt a i r (z.2.1 1) (z.1 4) hv (z.2.1 2) hc (z.1 8) (z.2.1 3) (z.2.1 4) (z.2.1 5) (z.2.1 6) hh q hq1 hq6) (full_hC _) (full_nd _) ⟨rfl, rfl, ⟨Nat.le_of_ble_eq_true rfl, Nat.le_of_ble_eq_true rfl⟩, Nat.le_of_ble_eq_true rfl, Nat.le_of_ble_eq_true rfl⟩ wl_X3_110 wm_X3_amountsAt we_X3_amountsAt wi_X3 wc_X3_amountsAt (by decide +kernel) rfl 0 rfl rfl rfl rfl (Nat.le_of_ble_eq_true rfl) dX3_cairn_64) (fun q_8 u_8 h_8 => ?_)
      obtain ⟨i8, r8⟩ := u_8
      try dsimp only at h_8
      obtain ⟨k0, k1, k2⟩ := h_8
      subst k0
      refine z_ws (st' := [.int (nI (layS z q)), .int (nI q), .ref (a 0)]) (ws' := (cW cI a i8 r8)) rfl rfl ?_
      refine z_calliF C (by exact fun _ => cW_ad) (runV C (wc := (cW cI a i8 r8)) (pc := 67) (rY' := rm 5 117) (nn := 2) (As := [.int (nI q), .int (nI (layS z q))]) (rest := []) (c_bestTrial l D cI tt a i8 r8 (z.2.1 1) (z.1 4) ((hz.sp k1 k2).pv vz) (z.2.1 2) ((hz.sp k1 k2).c vz) q (layS z q) hq1 hq6 lay_lt) (full_hC _) (full_nd _) ⟨rfl, rfl, ⟨Nat.le_of_ble_eq_true rfl, Nat.le_of_ble_eq_true rfl⟩, Nat.le_of_ble_eq_true rfl, Nat.le_of_ble_eq_true rfl⟩ wl_X3_113 wm_X3_bestTrial we_X3_bestTrial wi_X3 wc_X3_bestTrial (by decide +kernel) rfl 0 rfl rfl rfl rfl (Nat.le_of_ble_eq_true rfl) dX3_cairn_67) (fun q_9 u_9 h_9 => ?_)
      obtain ⟨i9, r9⟩ := u_9
      try dsimp only at h_9
      obtain ⟨j0, j1, j2⟩ := h_9
      subst j0
      refine z_ws (st' := [.int (tryS z q)]) (ws' := (cW cI a i9 r9)) rfl rfl ?_
      refine z_iret C (pc := 70) (i9, r9) dX3_cairn_70 ?_ rfl
      rw [show cairnF z (nI q) what = (if what = 0 then nI (z.2.1 2 (q - 1)) else if what = 1 then nI (layS z q) else if what = 2 then tryS z q else -102) from (if_neg (by rw [hb]; decide)).trans (by rw [htq])]
      subst c_7
      exact ⟨rfl, (hz.sp k1 k2).sp j1 j2⟩
    refine z_tableOut C (pc := 12) (tgt := 71) dX3_cairn_12 (by have q0 := lv_neT c_3 (a := 0) rfl; have q1 := lv_neT c_5 (a := 1) rfl; have q2 := lv_neT c_7 (a := 2) rfl; omega) (by decide) ?_
    refine z_bipush C (pc := 71) (v := (-102)) dX3_cairn_71 (by decide) ?_
    refine z_iret C (pc := 73) (i, r) dX3_cairn_73 ?_ rfl
    rw [show cairnF z (nI q) what = (if what = 0 then nI (z.2.1 2 (q - 1)) else if what = 1 then nI (layS z q) else if what = 2 then tryS z q else -102) from (if_neg (by rw [hb]; decide)).trans (by rw [htq])]
    exact ⟨by simp [*], hz⟩
  · have hb := b2_t (h_1 ▸ c_2)
    refine z_bipush C (pc := 8) (v := (-101)) dX3_cairn_8 (by decide) ?_
    refine z_iret C (pc := 10) (i, r) dX3_cairn_10 ?_ rfl
    rw [show cairnF z x what = -101 from if_pos hb]
    exact ⟨rfl, hz⟩

set_option maxHeartbeats 4000000 in
set_option maxRecDepth 100000 in
theorem c_lay (l : Launch) (D : va_G) (cI : ClassId) (tt : Nat × Nat × Nat) (a : Nat → Nat) (i : Nat → Int32) (r : Nat → Nat → Int32) (x f : Int32) (z : SG) (hz : Cls z i r) (vz : VS z) : MetI (S := ((Nat → Int32) × (Nat → Nat → Int32))) l yX3_lay cX3_lay 4 (some .int) (rm 1 22) D cI tt [.ref (a 0), .int x, .int f] (cW cI a i r) (fun q u => q = (layF z x f).1 ∧ Cls (layF z x f).2 u.1 u.2) (fun u => cW cI a u.1 u.2) := by
  have hv := hz.pv vz
  have hc := hz.c vz
  have hh := hz.hv vz
  have hn6 := vz.2.2.2.1
  have hx6 := pow_le6 hn6
  refine met_ofI (by decide) (Nat.le_of_ble_eq_true rfl) ?_
  intro pP eE sS mM aV bB mE cC AA C hin
  refine z_conv (lv' := [(0, .ref (a 0)), (1, .int x), (2, .int f)]) ⟨rfl, rfl, rfl, trivial⟩ rfl rfl ?_
  refine z_aload_n C (pc := 0) dX3_lay_0 rfl ?_
  refine z_iload_n C (pc := 1) dX3_lay_1 rfl ?_
  refine z_calliF C (by exact fun _ => cW_ad) (runV C (wc := (cW cI a i r)) (pc := 2) (rY' := rm 0 0) (nn := 1) (As := [.int x]) (rest := []) (c_isNoCairn l D cI tt a i r x (z.1 4) hv.1 hn6) (full_hC _) (full_nd _) ⟨rfl, rfl, ⟨Nat.le_of_ble_eq_true rfl, Nat.le_of_ble_eq_true rfl⟩, Nat.le_of_ble_eq_true rfl, Nat.le_of_ble_eq_true rfl⟩ wl_X3_107 wm_X3_isNoCairn we_X3_isNoCairn wi_X3 wc_X3_isNoCairn (by decide +kernel) rfl 0 rfl rfl rfl rfl (Nat.le_of_ble_eq_true rfl) dX3_lay_2) (fun q_1 u_1 h_1 => ?_)
  refine z_ws (st' := [.int q_1]) (ws' := (cW cI a i r)) rfl rfl ?_
  refine z_if_eq C (pc := 5) (tgt := 11) dX3_lay_5 (by decide) (fun c_2 => ?_) (fun c_2 => ?_)
  · have hb := b2_f (h_1 ▸ c_2)
    obtain ⟨hn0, q, hq1, hq6, hxq, htq⟩ := cairn_of hb
    subst hxq
    refine z_iload_n C (pc := 11) dX3_lay_11 rfl ?_
    refine z_if_lt C (pc := 12) (tgt := 21) dX3_lay_12 (by decide) (fun c_3 => ?_) (fun c_3 => ?_)
    · refine z_bipush C (pc := 21) (v := (-102)) dX3_lay_21 (by decide) ?_
      refine z_iret C (pc := 23) (i, r) dX3_lay_23 ?_ rfl
      rw [show layF z (nI q) f = (-102, z) from (if_neg (by rw [hb]; decide)).trans (if_pos (Or.inl c_3))]
      exact ⟨rfl, hz⟩
    · refine z_iload_n C (pc := 15) dX3_lay_15 rfl ?_
      refine z_bipush C (pc := 16) (v := 9) dX3_lay_16 (by decide) ?_
      refine z_icmp_le C (pc := 18) (tgt := 24) dX3_lay_18 (by decide) (fun c_4 => ?_) (fun c_4 => ?_)
      · obtain ⟨fk, hfk, hff, htf⟩ := tn_of (M := 9) (by decide) c_3 c_4
        subst hff
        refine z_aload_n C (pc := 24) dX3_lay_24 rfl ?_
        refine z_get C (pc := 25) 0 rfl rfl wf_X3 2 (by decide) rfl wl_X3_26 (v := .ref (a 6)) rfl dX3_lay_25 ?_
        refine z_getN C (pc := 28) 6 rfl rfl wf_X2 1 (by decide) rfl wl_X3_77 (v := .ref (a 7)) rfl dX3_lay_28 ?_
        refine z_iload_n C (pc := 31) dX3_lay_31 rfl ?_
        refine z_iconst C (pc := 32) (v := 1) dX3_lay_32 (by decide) ?_
        refine z_isub C (pc := 33) dX3_lay_33 ?_
        refine z_calli C (isC := [7]) rfl (by exact fun _ => rfl) (runS C (wc := [(a 7, .inl (cI, 5, .inl (r 3)))]) (pc := 34) (rY' := rm 0 0) (nn := 2) (As := [.ref (a 7), .int ((nI q) - 1)]) (rest := []) (c_at l D cI tt (a 7) 5 (r 3) ((nI q) - 1) (by decide)) rfl rfl ⟨rfl, rfl, ⟨Nat.le_of_ble_eq_true rfl, Nat.le_of_ble_eq_true rfl⟩, Nat.le_of_ble_eq_true rfl, Nat.le_of_ble_eq_true rfl⟩ wl_X3_87 ws_X3_at wi_X3 wc_X3_at (by decide +kernel) rfl rfl (Nat.le_of_ble_eq_true rfl) dX3_lay_34) (fun r_5 u_5 h_5 => ?_)
        have h_5 : r_5 = (nI (z.2.1 2 (q - 1))) := h_5.trans ((at_c hq6 hc).trans (by unfold cav; rw [if_neg (by omega)]))
        subst h_5
        refine z_ws (st' := [.int (nI (z.2.1 2 (q - 1)))]) (ws' := (cW cI a i r)) rfl rfl ?_
        refine z_istore_n C (pc := 37) (lv' := [(0, .ref (a 0)), (1, .int (nI q)), (2, .int (nI fk)), (3, .int (nI (z.2.1 2 (q - 1))))]) dX3_lay_37 (Nat.le_of_ble_eq_true rfl) rfl rfl ?_
        refine z_aload_n C (pc := 38) dX3_lay_38 rfl ?_
        refine z_get C (pc := 39) 0 rfl rfl wf_X3 2 (by decide) rfl wl_X3_26 (v := .ref (a 6)) rfl dX3_lay_39 ?_
        refine z_getN C (pc := 42) 6 rfl rfl wf_X2 1 (by decide) rfl wl_X3_77 (v := .ref (a 7)) rfl dX3_lay_42 ?_
        refine z_iload_n C (pc := 45) dX3_lay_45 rfl ?_
        refine z_iconst C (pc := 46) (v := 1) dX3_lay_46 (by decide) ?_
        refine z_isub C (pc := 47) dX3_lay_47 ?_
        refine z_iload_n C (pc := 48) dX3_lay_48 rfl ?_
        refine z_callv C (isC := [7]) rfl (by exact fun _ => rfl) (runS C (wc := [(a 7, .inl (cI, 5, .inl (r 3)))]) (pc := 49) (rY' := rm 0 0) (nn := 3) (As := [.ref (a 7), .int ((nI q) - 1), .int (nI fk)]) (rest := []) (c_put l D cI tt (a 7) 5 (r 3) ((nI q) - 1) (nI fk) (by decide)) rfl rfl ⟨rfl, rfl, ⟨Nat.le_of_ble_eq_true rfl, Nat.le_of_ble_eq_true rfl⟩, Nat.le_of_ble_eq_true rfl, Nat.le_of_ble_eq_true rfl⟩ wl_X3_66 ws_X3_put wi_X3 wc_X3_put (by decide +kernel) rfl rfl (Nat.le_of_ble_eq_true rfl) dX3_lay_49) (fun u_6 h_6 => ?_)
        subst h_6
        refine z_ws (st' := []) (ws' := (cW cI a i (va_up r 3 (putv 5 (r 3) ((nI q) - 1) (nI fk))))) rfl rfl ?_
        refine z_iload_n C (pc := 52) dX3_lay_52 rfl ?_
        refine z_iret C (pc := 53) (i, (va_up r 3 (putv 5 (r 3) ((nI q) - 1) (nI fk)))) dX3_lay_53 ?_ rfl
        rw [show layF z (nI q) (nI fk) = (nI (z.2.1 2 (q - 1)), (z.1, va_up z.2.1 2 (upN (z.2.1 2) (q - 1) fk), z.2.2)) from (if_neg (by rw [hb]; decide)).trans ((if_neg (fun h => h.elim (fun h => c_3 h) (fun h => h c_4))).trans (by rw [htq, htf]))]
        exact ⟨rfl, cl_lay hz hq1 hq6⟩
      · refine z_bipush C (pc := 21) (v := (-102)) dX3_lay_21 (by decide) ?_
        refine z_iret C (pc := 23) (i, r) dX3_lay_23 ?_ rfl
        rw [show layF z (nI q) f = (-102, z) from (if_neg (by rw [hb]; decide)).trans (if_pos (Or.inr c_4))]
        exact ⟨rfl, hz⟩
  · have hb := b2_t (h_1 ▸ c_2)
    refine z_bipush C (pc := 8) (v := (-101)) dX3_lay_8 (by decide) ?_
    refine z_iret C (pc := 10) (i, r) dX3_lay_10 ?_ rfl
    rw [show layF z x f = (-101, z) from if_pos hb]
    exact ⟨rfl, hz⟩
end
section
set_option maxHeartbeats 4000000 in
set_option maxRecDepth 100000 in
theorem c_march (l : Launch) (D : va_G) (cI : ClassId) (tt : Nat × Nat × Nat) (a : Nat → Nat) (i : Nat → Int32) (r : Nat → Nat → Int32) (x y f : Int32) (z : SG) (hz : Cls z i r) (vz : VS z) : MetI (S := ((Nat → Int32) × (Nat → Nat → Int32))) l yX3_march cX3_march 4 (some .int) (rm 4 92) D cI tt [.ref (a 0), .int x, .int y, .int f] (cW cI a i r) (fun q u => q = (marchF z x y f).1 ∧ Cls (marchF z x y f).2 u.1 u.2) (fun u => cW cI a u.1 u.2) := by
  have hv := hz.pv vz
  have hc := hz.c vz
  have hh := hz.hv vz
  have hn6 := vz.2.2.2.1
  have hx6 := pow_le6 hn6
  refine met_ofI (by decide) (Nat.le_of_ble_eq_true rfl) ?_
  intro pP eE sS mM aV bB mE cC AA C hin
  refine z_conv (lv' := [(0, .ref (a 0)), (1, .int x), (2, .int y), (3, .int f)]) ⟨rfl, rfl, rfl, rfl, trivial⟩ rfl rfl ?_
  refine z_aload_n C (pc := 0) dX3_march_0 rfl ?_
  refine z_iload_n C (pc := 1) dX3_march_1 rfl ?_
  refine z_iload_n C (pc := 2) dX3_march_2 rfl ?_
  refine z_iload_n C (pc := 3) dX3_march_3 rfl ?_
  refine z_calliF C (by exact fun _ => cW_ad) (runV C (wc := (cW cI a i r)) (pc := 4) (rY' := rm 2 41) (nn := 3) (As := [.int x, .int y, .int f]) (rest := []) (c_isNoMarch l D cI tt a i r x y f (z.1 4) hv.1 hn6) (full_hC _) (full_nd _) ⟨rfl, rfl, ⟨Nat.le_of_ble_eq_true rfl, Nat.le_of_ble_eq_true rfl⟩, Nat.le_of_ble_eq_true rfl, Nat.le_of_ble_eq_true rfl⟩ wl_X3_117 wm_X3_isNoMarch we_X3_isNoMarch wi_X3 wc_X3_isNoMarch (by decide +kernel) rfl 0 rfl rfl rfl rfl (Nat.le_of_ble_eq_true rfl) dX3_march_4) (fun q_1 u_1 h_1 => ?_)
  refine z_ws (st' := [.int q_1]) (ws' := (cW cI a i r)) rfl rfl ?_
  refine z_if_eq C (pc := 7) (tgt := 13) dX3_march_7 (by decide) (fun c_2 => ?_) (fun c_2 => ?_)
  · have hb := b2_f (h_1 ▸ c_2)
    obtain ⟨hb1, hb2, hb3⟩ := march_of hb
    obtain ⟨xk, hx1, hx2, hxx, htx⟩ := people_of hn6 hb1
    obtain ⟨yk, hy1, hy2, hyy, hty⟩ := stage_of hb2
    obtain ⟨fk, hf1, hff, htf⟩ := food_of hb3
    subst hxx hyy hff
    refine z_aload_n C (pc := 13) dX3_march_13 rfl ?_
    refine z_iload_n C (pc := 14) dX3_march_14 rfl ?_
    refine z_calliF C (by exact fun _ => cW_ad) (runV C (wc := (cW cI a i r)) (pc := 15) (rY' := rm 0 0) (nn := 1) (As := [.int (nI xk)]) (rest := []) (c_anyIsDead l D cI tt a i r (nI xk)) (full_hC _) (full_nd _) ⟨rfl, rfl, ⟨Nat.le_of_ble_eq_true rfl, Nat.le_of_ble_eq_true rfl⟩, Nat.le_of_ble_eq_true rfl, Nat.le_of_ble_eq_true rfl⟩ wl_X3_121 wm_X3_anyIsDead we_X3_anyIsDead wi_X3 wc_X3_anyIsDead (by decide +kernel) rfl 0 rfl rfl rfl rfl (Nat.le_of_ble_eq_true rfl) dX3_march_15) (fun q_3 u_3 h_3 => ?_)
    refine z_ws (st' := [.int q_3]) (ws' := (cW cI a i r)) rfl rfl ?_
    refine z_if_eq C (pc := 18) (tgt := 24) dX3_march_18 (by decide) (fun c_4 => ?_) (fun c_4 => ?_)
    · have hda := b2_f (h_3 ▸ c_4)
      rw [hz.1.2.2.2.2.2.1] at hda
      have hdd := of_decide_eq_false hda
      refine z_aload_n C (pc := 24) dX3_march_24 rfl ?_
      refine z_get C (pc := 25) 0 rfl rfl wf_X3 1 (by decide) rfl wl_X3_19 (v := .ref (a 3)) rfl dX3_march_25 ?_
      refine z_aload_n C (pc := 28) dX3_march_28 rfl ?_
      refine z_get C (pc := 29) 0 rfl rfl wf_X3 2 (by decide) rfl wl_X3_26 (v := .ref (a 6)) rfl dX3_march_29 ?_
      refine z_getN C (pc := 32) 6 rfl rfl wf_X2 1 (by decide) rfl wl_X3_77 (v := .ref (a 7)) rfl dX3_march_32 ?_
      refine z_callvF C (by exact fun _ => cW_ad) (runVN C (wc := (cW cI a i r)) (pc := 35) (rY' := rm 2 44) (nn := 1) (As := [.ref (a 7)]) (rest := []) (c_setCairnsN l D cI tt a i r) (full_hC _) (full_nd _) ⟨rfl, rfl, ⟨Nat.le_of_ble_eq_true rfl, Nat.le_of_ble_eq_true rfl⟩, Nat.le_of_ble_eq_true rfl, Nat.le_of_ble_eq_true rfl⟩ wl_X3_124 wm_X1_setCairns we_X1_setCairns wi_X1 wc_X1_setCairns (by decide +kernel) rfl 3 rfl rfl rfl rfl (Nat.le_of_ble_eq_true rfl) dX3_march_35) (fun u_5 h_5 => ?_)
      generalize u_5 = r5 at h_5 ⊢
      obtain ⟨g1, g2⟩ := h_5
      have hc2 : ∀ k, k < 5 → r5 2 k = nI (z.2.1 2 k) ∧ z.2.1 2 k ≤ 9 := fun k hk => ⟨(g2 k hk).trans (hc k hk).1, (hc k hk).2⟩
      refine z_ws (st' := []) (ws' := (cW cI a i r5)) rfl rfl ?_
      refine z_aload_n C (pc := 38) dX3_march_38 rfl ?_
      refine z_get C (pc := 39) 0 rfl rfl wf_X3 1 (by decide) rfl wl_X3_19 (v := .ref (a 3)) rfl dX3_march_39 ?_
      refine z_iload_n C (pc := 42) dX3_march_42 rfl ?_
      refine z_iload_n C (pc := 43) dX3_march_43 rfl ?_
      refine z_iload_n C (pc := 44) dX3_march_44 rfl ?_
      refine z_calliF C (by exact fun _ => cW_ad) (runVN C (wc := (cW cI a i r5)) (pc := 45) (rY' := rm 3 67) (nn := 3) (As := [.int (nI xk), .int (nI yk), .int (nI fk)]) (rest := []) (c_go l D cI tt a i r5 (z.2.1 1) (z.1 4) xk yk fk (hv.sp SP.rf g1) hx2 hy2 hf1 (z.2.1 2) hc2) (full_hC _) (full_nd _) ⟨rfl, rfl, ⟨Nat.le_of_ble_eq_true rfl, Nat.le_of_ble_eq_true rfl⟩, Nat.le_of_ble_eq_true rfl, Nat.le_of_ble_eq_true rfl⟩ wl_X3_128 wm_X1_go we_X1_go wi_X1 wc_X1_go (by decide +kernel) rfl 3 rfl rfl rfl rfl (Nat.le_of_ble_eq_true rfl) dX3_march_45) (fun q_6 u_6 h_6 => ?_)
      obtain ⟨i6, r6⟩ := u_6
      try dsimp only at h_6
      obtain ⟨m0, m1, m2, m5, m6, m9, mc⟩ := h_6
      have hzm := (hz.sp SP.rf g1).sp m1 m2
      refine z_ws (st' := [.int q_6]) (ws' := (cW cI a i6 r6)) rfl rfl ?_
      refine z_pop C (pc := 48) dX3_march_48 rfl ?_
      refine z_aload_n C (pc := 49) dX3_march_49 rfl ?_
      refine z_get C (pc := 50) 0 rfl rfl wf_X3 2 (by decide) rfl wl_X3_26 (v := .ref (a 6)) rfl dX3_march_50 ?_
      refine z_aload_n C (pc := 53) dX3_march_53 rfl ?_
      refine z_get C (pc := 54) 0 rfl rfl wf_X3 2 (by decide) rfl wl_X3_26 (v := .ref (a 6)) rfl dX3_march_54 ?_
      refine z_getN C (pc := 57) 6 rfl rfl wf_X2 0 (by decide) rfl wl_X3_100 (v := .int (i6 10)) rfl dX3_march_57 ?_
      refine z_iload_n C (pc := 60) dX3_march_60 rfl ?_
      refine z_iconst C (pc := 61) (v := (-1)) dX3_march_61 (by decide) ?_
      refine z_ixor C (pc := 62) dX3_march_62 ?_
      refine z_iand C (pc := 63) dX3_march_63 ?_
      refine z_aload_n C (pc := 64) dX3_march_64 rfl ?_
      refine z_get C (pc := 65) 0 rfl rfl wf_X3 1 (by decide) rfl wl_X3_19 (v := .ref (a 3)) rfl dX3_march_65 ?_
      refine z_getN C (pc := 68) 3 rfl rfl wf_X1 3 (by decide) rfl wl_X3_131 (v := .int (i6 5)) rfl dX3_march_68 ?_
      refine z_ior C (pc := 71) dX3_march_71 ?_
      refine z_putN C (pc := 72) 6 rfl rfl wf_X2 0 (by decide) rfl tyX2 tyX2_ok nmX2 rfl rfl rfl (Nat.le_of_ble_eq_true rfl) (ws' := (cW cI a (upd i6 10 (((i6 10) &&& ((nI xk) ^^^ (-1))) ||| (i6 5))) r6)) rfl wl_X3_100 dX3_march_72 ?_
      refine z_aload_n C (pc := 75) dX3_march_75 rfl ?_
      refine z_get C (pc := 76) 0 rfl rfl wf_X3 1 (by decide) rfl wl_X3_19 (v := .ref (a 3)) rfl dX3_march_76 ?_
      refine z_getN C (pc := 79) 3 rfl rfl wf_X1 2 (by decide) rfl wl_X3_132 (v := .ref (a 5)) rfl dX3_march_79 ?_
      refine z_aload_n C (pc := 82) dX3_march_82 rfl ?_
      refine z_get C (pc := 83) 0 rfl rfl wf_X3 2 (by decide) rfl wl_X3_26 (v := .ref (a 6)) rfl dX3_march_83 ?_
      refine z_getN C (pc := 86) 6 rfl rfl wf_X2 1 (by decide) rfl wl_X3_77 (v := .ref (a 7)) rfl dX3_march_86 ?_
      refine z_callv C (isC := [5, 7]) rfl (by exact fun _ => rfl) (runS C (wc := [(a 5, .inl (cI, 5, .inl (r6 2))), (a 7, .inl (cI, 5, .inl (r6 3)))]) (pc := 89) (rY' := rm 1 22) (nn := 2) (As := [.ref (a 5), .ref (a 7)]) (rest := []) (c_copy l D cI tt (a 5) 5 (a 7) 5 (r6 2) (r6 3) (by decide) (by decide)) rfl rfl ⟨rfl, rfl, ⟨Nat.le_of_ble_eq_true rfl, Nat.le_of_ble_eq_true rfl⟩, Nat.le_of_ble_eq_true rfl, Nat.le_of_ble_eq_true rfl⟩ wl_X3_133 ws_X3_copy wi_X3 wc_X3_copy (by decide +kernel) rfl rfl (Nat.le_of_ble_eq_true rfl) dX3_march_89) (fun u_7 h_7 => ?_)
      subst h_7
      refine z_ws (st' := []) (ws' := (cW cI a (upd i6 10 (((i6 10) &&& ((nI xk) ^^^ (-1))) ||| (i6 5))) (va_up r6 3 (cpv 5 (r6 2) 5 (r6 3) 5)))) rfl rfl ?_
      refine z_aload_n C (pc := 92) dX3_march_92 rfl ?_
      refine z_get C (pc := 93) 0 rfl rfl wf_X3 2 (by decide) rfl wl_X3_26 (v := .ref (a 6)) rfl dX3_march_93 ?_
      refine z_dup C (pc := 96) dX3_march_96 rfl ?_
      refine z_getN C (pc := 97) 6 rfl rfl wf_X2 2 (by decide) rfl wl_X3_137 (v := .int (i6 11)) rfl dX3_march_97 ?_
      refine z_iconst C (pc := 100) (v := 1) dX3_march_100 (by decide) ?_
      refine z_iadd C (pc := 101) dX3_march_101 ?_
      refine z_putN C (pc := 102) 6 rfl rfl wf_X2 2 (by decide) rfl tyX2 tyX2_ok nmX2 rfl rfl rfl (Nat.le_of_ble_eq_true rfl) (ws' := (cW cI a (upd (upd i6 10 (((i6 10) &&& ((nI xk) ^^^ (-1))) ||| (i6 5))) 11 ((i6 11) + 1)) (va_up r6 3 (cpv 5 (r6 2) 5 (r6 3) 5)))) rfl wl_X3_137 dX3_march_102 ?_
      refine z_aload_n C (pc := 105) dX3_march_105 rfl ?_
      refine z_get C (pc := 106) 0 rfl rfl wf_X3 1 (by decide) rfl wl_X3_19 (v := .ref (a 3)) rfl dX3_march_106 ?_
      refine z_getN C (pc := 109) 3 rfl rfl wf_X1 3 (by decide) rfl wl_X3_131 (v := .int (i6 5)) rfl dX3_march_109 ?_
      refine z_if_eq C (pc := 112) (tgt := 128) dX3_march_112 (by decide) (fun c_8 => ?_) (fun c_8 => ?_)
      · have hmz : (marS z xk yk fk).1 = 0 := nI_z (by have h1 : MOK (z.2.1 1) (z.1 4) (marS z xk yk fk) := mar_ok hn6 hx2 (fun k hk => (hc k hk).2); have := h1.1.1; omega) (m5 ▸ c_8)
        refine z_aload_n C (pc := 128) dX3_march_128 rfl ?_
        refine z_get C (pc := 129) 0 rfl rfl wf_X3 1 (by decide) rfl wl_X3_19 (v := .ref (a 3)) rfl dX3_march_129 ?_
        refine z_getN C (pc := 132) 3 rfl rfl wf_X1 3 (by decide) rfl wl_X3_131 (v := .int (i6 5)) rfl dX3_march_132 ?_
        refine z_iret C (pc := 135) ((upd (upd (upd i6 10 (((i6 10) &&& ((nI xk) ^^^ (-1))) ||| (i6 5))) 11 ((i6 11) + 1)) 12 (i6 12)), (va_up r6 3 (cpv 5 (r6 2) 5 (r6 3) 5))) dX3_march_135 ?_ rfl
        rw [show marchF z (nI xk) (nI yk) (nI fk) = (nI (marS z xk yk fk).1, (upG (upG (upG z.1 5 (alv (z.1 5) xk (marS z xk yk fk).1)) 6 (z.1 6 + 1)) 7 (z.1 7 + 0), va_up z.2.1 2 (marS z xk yk fk).2.2.1, z.2.2)) from (if_neg (by rw [hb]; decide)).trans ((if_neg hdd).trans (by rw [htx, hty, htf, if_pos hmz]))]
        have hmk : MOK (z.2.1 1) (z.1 4) (marS z xk yk fk) := mar_ok hn6 hx2 (fun k hk => (hc k hk).2)
        refine ⟨m5, cl_march hzm ?_ ?_ (fun k hk => (cpv_k (by decide) hk).trans (mc k hk))⟩
        · rw [hzm.1.2.2.2.2.2.1, m5]; exact march_al hn6 vz.2.2.2.2.1 hx2 hmk.1.1
        · rw [hzm.1.2.2.2.2.2.2.2.1, Nat.add_zero]
      · have hmz : (marS z xk yk fk).1 ≠ 0 := nI_nz (m5 ▸ c_8)
        refine z_aload_n C (pc := 115) dX3_march_115 rfl ?_
        refine z_get C (pc := 116) 0 rfl rfl wf_X3 2 (by decide) rfl wl_X3_26 (v := .ref (a 6)) rfl dX3_march_116 ?_
        refine z_dup C (pc := 119) dX3_march_119 rfl ?_
        refine z_getN C (pc := 120) 6 rfl rfl wf_X2 3 (by decide) rfl wl_X3_140 (v := .int (i6 12)) rfl dX3_march_120 ?_
        refine z_iconst C (pc := 123) (v := 1) dX3_march_123 (by decide) ?_
        refine z_iadd C (pc := 124) dX3_march_124 ?_
        refine z_putN C (pc := 125) 6 rfl rfl wf_X2 3 (by decide) rfl tyX2 tyX2_ok nmX2 rfl rfl rfl (Nat.le_of_ble_eq_true rfl) (ws' := (cW cI a (upd (upd (upd i6 10 (((i6 10) &&& ((nI xk) ^^^ (-1))) ||| (i6 5))) 11 ((i6 11) + 1)) 12 ((i6 12) + 1)) (va_up r6 3 (cpv 5 (r6 2) 5 (r6 3) 5)))) rfl wl_X3_140 dX3_march_125 ?_
        refine z_aload_n C (pc := 128) dX3_march_128 rfl ?_
        refine z_get C (pc := 129) 0 rfl rfl wf_X3 1 (by decide) rfl wl_X3_19 (v := .ref (a 3)) rfl dX3_march_129 ?_
        refine z_getN C (pc := 132) 3 rfl rfl wf_X1 3 (by decide) rfl wl_X3_131 (v := .int (i6 5)) rfl dX3_march_132 ?_
        refine z_iret C (pc := 135) ((upd (upd (upd i6 10 (((i6 10) &&& ((nI xk) ^^^ (-1))) ||| (i6 5))) 11 ((i6 11) + 1)) 12 ((i6 12) + 1)), (va_up r6 3 (cpv 5 (r6 2) 5 (r6 3) 5))) dX3_march_135 ?_ rfl
        rw [show marchF z (nI xk) (nI yk) (nI fk) = (nI (marS z xk yk fk).1, (upG (upG (upG z.1 5 (alv (z.1 5) xk (marS z xk yk fk).1)) 6 (z.1 6 + 1)) 7 (z.1 7 + 1), va_up z.2.1 2 (marS z xk yk fk).2.2.1, z.2.2)) from (if_neg (by rw [hb]; decide)).trans ((if_neg hdd).trans (by rw [htx, hty, htf, if_neg hmz]))]
        have hmk : MOK (z.2.1 1) (z.1 4) (marS z xk yk fk) := mar_ok hn6 hx2 (fun k hk => (hc k hk).2)
        refine ⟨m5, cl_march hzm ?_ ?_ (fun k hk => (cpv_k (by decide) hk).trans (mc k hk))⟩
        · rw [hzm.1.2.2.2.2.2.1, m5]; exact march_al hn6 vz.2.2.2.2.1 hx2 hmk.1.1
        · rw [hzm.1.2.2.2.2.2.2.2.1]; exact nI_1 _
    · have hda := b2_t (h_3 ▸ c_4)
      rw [hz.1.2.2.2.2.2.1] at hda
      have hdd := of_decide_eq_true hda
      refine z_bipush C (pc := 21) (v := (-103)) dX3_march_21 (by decide) ?_
      refine z_iret C (pc := 23) (i, r) dX3_march_23 ?_ rfl
      rw [show marchF z (nI xk) (nI yk) (nI fk) = (-103, z) from (if_neg (by rw [hb]; decide)).trans (if_pos hdd)]
      exact ⟨rfl, hz⟩
  · have hb := b2_t (h_1 ▸ c_2)
    refine z_bipush C (pc := 10) (v := (-102)) dX3_march_10 (by decide) ?_
    refine z_iret C (pc := 12) (i, r) dX3_march_12 ?_ rfl
    rw [show marchF z x y f = (-102, z) from if_pos hb]
    exact ⟨rfl, hz⟩

set_option maxHeartbeats 4000000 in
set_option maxRecDepth 100000 in
theorem c_would (l : Launch) (D : va_G) (cI : ClassId) (tt : Nat × Nat × Nat) (a : Nat → Nat) (i : Nat → Int32) (r : Nat → Nat → Int32) (x y f what : Int32) (z : SG) (hz : Cls z i r) (vz : VS z) : MetI (S := ((Nat → Int32) × (Nat → Nat → Int32))) l yX3_would cX3_would 5 (some .int) (rm 4 92) D cI tt [.ref (a 0), .int x, .int y, .int f, .int what] (cW cI a i r) (fun q u => q = wouldF z x y f what ∧ Cls z u.1 u.2) (fun u => cW cI a u.1 u.2) := by
  have hv := hz.pv vz
  have hc := hz.c vz
  have hh := hz.hv vz
  have hn6 := vz.2.2.2.1
  have hx6 := pow_le6 hn6
  refine met_ofI (by decide) (Nat.le_of_ble_eq_true rfl) ?_
  intro pP eE sS mM aV bB mE cC AA C hin
  refine z_conv (lv' := [(0, .ref (a 0)), (1, .int x), (2, .int y), (3, .int f), (4, .int what)]) ⟨rfl, rfl, rfl, rfl, rfl, trivial⟩ rfl rfl ?_
  refine z_aload_n C (pc := 0) dX3_would_0 rfl ?_
  refine z_iload_n C (pc := 1) dX3_would_1 rfl ?_
  refine z_iload_n C (pc := 2) dX3_would_2 rfl ?_
  refine z_iload_n C (pc := 3) dX3_would_3 rfl ?_
  refine z_calliF C (by exact fun _ => cW_ad) (runV C (wc := (cW cI a i r)) (pc := 4) (rY' := rm 2 41) (nn := 3) (As := [.int x, .int y, .int f]) (rest := []) (c_isNoMarch l D cI tt a i r x y f (z.1 4) hv.1 hn6) (full_hC _) (full_nd _) ⟨rfl, rfl, ⟨Nat.le_of_ble_eq_true rfl, Nat.le_of_ble_eq_true rfl⟩, Nat.le_of_ble_eq_true rfl, Nat.le_of_ble_eq_true rfl⟩ wl_X3_117 wm_X3_isNoMarch we_X3_isNoMarch wi_X3 wc_X3_isNoMarch (by decide +kernel) rfl 0 rfl rfl rfl rfl (Nat.le_of_ble_eq_true rfl) dX3_would_4) (fun q_1 u_1 h_1 => ?_)
  refine z_ws (st' := [.int q_1]) (ws' := (cW cI a i r)) rfl rfl ?_
  refine z_if_ne C (pc := 7) (tgt := 21) dX3_would_7 (by decide) (fun c_2 => ?_) (fun c_2 => ?_)
  · have hb := b2_t (h_1 ▸ c_2)
    have hbb : noMarch (z.1 4) x y f = true ∨ what < 0 ∨ ¬ what ≤ 3 := Or.inl hb
    refine z_bipush C (pc := 21) (v := (-102)) dX3_would_21 (by decide) ?_
    refine z_iret C (pc := 23) (i, r) dX3_would_23 ?_ rfl
    rw [show wouldF z x y f what = -102 from if_pos hbb]
    exact ⟨rfl, hz⟩
  · have hb := b2_f (h_1 ▸ c_2)
    obtain ⟨hb1, hb2, hb3⟩ := march_of hb
    obtain ⟨xk, hx1, hx2, hxx, htx⟩ := people_of hn6 hb1
    obtain ⟨yk, hy1, hy2, hyy, hty⟩ := stage_of hb2
    obtain ⟨fk, hf1, hff, htf⟩ := food_of hb3
    subst hxx hyy hff
    refine z_iload C (pc := 10) dX3_would_10 rfl ?_
    refine z_if_lt C (pc := 12) (tgt := 21) dX3_would_12 (by decide) (fun c_3 => ?_) (fun c_3 => ?_)
    · have hbb : noMarch (z.1 4) (nI xk) (nI yk) (nI fk) = true ∨ what < 0 ∨ ¬ what ≤ 3 := Or.inr (Or.inl c_3)
      refine z_bipush C (pc := 21) (v := (-102)) dX3_would_21 (by decide) ?_
      refine z_iret C (pc := 23) (i, r) dX3_would_23 ?_ rfl
      rw [show wouldF z (nI xk) (nI yk) (nI fk) what = -102 from if_pos hbb]
      exact ⟨rfl, hz⟩
    · refine z_iload C (pc := 15) dX3_would_15 rfl ?_
      refine z_iconst C (pc := 17) (v := 3) dX3_would_17 (by decide) ?_
      refine z_icmp_le C (pc := 18) (tgt := 24) dX3_would_18 (by decide) (fun c_4 => ?_) (fun c_4 => ?_)
      · have hbb : ¬ (noMarch (z.1 4) (nI xk) (nI yk) (nI fk) = true ∨ what < 0 ∨ ¬ what ≤ 3) := fun h => h.elim (fun h => by rw [hb] at h; exact absurd h (by decide)) (fun h => h.elim (fun h => c_3 h) (fun h => h c_4))
        refine z_aload_n C (pc := 24) dX3_would_24 rfl ?_
        refine z_iload_n C (pc := 25) dX3_would_25 rfl ?_
        refine z_calliF C (by exact fun _ => cW_ad) (runV C (wc := (cW cI a i r)) (pc := 26) (rY' := rm 0 0) (nn := 1) (As := [.int (nI xk)]) (rest := []) (c_anyIsDead l D cI tt a i r (nI xk)) (full_hC _) (full_nd _) ⟨rfl, rfl, ⟨Nat.le_of_ble_eq_true rfl, Nat.le_of_ble_eq_true rfl⟩, Nat.le_of_ble_eq_true rfl, Nat.le_of_ble_eq_true rfl⟩ wl_X3_121 wm_X3_anyIsDead we_X3_anyIsDead wi_X3 wc_X3_anyIsDead (by decide +kernel) rfl 0 rfl rfl rfl rfl (Nat.le_of_ble_eq_true rfl) dX3_would_26) (fun q_5 u_5 h_5 => ?_)
        refine z_ws (st' := [.int q_5]) (ws' := (cW cI a i r)) rfl rfl ?_
        refine z_if_eq C (pc := 29) (tgt := 35) dX3_would_29 (by decide) (fun c_6 => ?_) (fun c_6 => ?_)
        · have hda := b2_f (h_5 ▸ c_6)
          rw [hz.1.2.2.2.2.2.1] at hda
          have hdd := of_decide_eq_false hda
          refine z_aload_n C (pc := 35) dX3_would_35 rfl ?_
          refine z_get C (pc := 36) 0 rfl rfl wf_X3 1 (by decide) rfl wl_X3_19 (v := .ref (a 3)) rfl dX3_would_36 ?_
          refine z_aload_n C (pc := 39) dX3_would_39 rfl ?_
          refine z_get C (pc := 40) 0 rfl rfl wf_X3 2 (by decide) rfl wl_X3_26 (v := .ref (a 6)) rfl dX3_would_40 ?_
          refine z_getN C (pc := 43) 6 rfl rfl wf_X2 1 (by decide) rfl wl_X3_77 (v := .ref (a 7)) rfl dX3_would_43 ?_
          refine z_callvF C (by exact fun _ => cW_ad) (runVN C (wc := (cW cI a i r)) (pc := 46) (rY' := rm 2 44) (nn := 1) (As := [.ref (a 7)]) (rest := []) (c_setCairnsN l D cI tt a i r) (full_hC _) (full_nd _) ⟨rfl, rfl, ⟨Nat.le_of_ble_eq_true rfl, Nat.le_of_ble_eq_true rfl⟩, Nat.le_of_ble_eq_true rfl, Nat.le_of_ble_eq_true rfl⟩ wl_X3_124 wm_X1_setCairns we_X1_setCairns wi_X1 wc_X1_setCairns (by decide +kernel) rfl 3 rfl rfl rfl rfl (Nat.le_of_ble_eq_true rfl) dX3_would_46) (fun u_7 h_7 => ?_)
          generalize u_7 = r7 at h_7 ⊢
          obtain ⟨g1, g2⟩ := h_7
          have hc2 : ∀ k, k < 5 → r7 2 k = nI (z.2.1 2 k) ∧ z.2.1 2 k ≤ 9 := fun k hk => ⟨(g2 k hk).trans (hc k hk).1, (hc k hk).2⟩
          refine z_ws (st' := []) (ws' := (cW cI a i r7)) rfl rfl ?_
          refine z_aload_n C (pc := 49) dX3_would_49 rfl ?_
          refine z_get C (pc := 50) 0 rfl rfl wf_X3 1 (by decide) rfl wl_X3_19 (v := .ref (a 3)) rfl dX3_would_50 ?_
          refine z_iload_n C (pc := 53) dX3_would_53 rfl ?_
          refine z_iload_n C (pc := 54) dX3_would_54 rfl ?_
          refine z_iload_n C (pc := 55) dX3_would_55 rfl ?_
          refine z_calliF C (by exact fun _ => cW_ad) (runVN C (wc := (cW cI a i r7)) (pc := 56) (rY' := rm 3 67) (nn := 3) (As := [.int (nI xk), .int (nI yk), .int (nI fk)]) (rest := []) (c_go l D cI tt a i r7 (z.2.1 1) (z.1 4) xk yk fk (hv.sp SP.rf g1) hx2 hy2 hf1 (z.2.1 2) hc2) (full_hC _) (full_nd _) ⟨rfl, rfl, ⟨Nat.le_of_ble_eq_true rfl, Nat.le_of_ble_eq_true rfl⟩, Nat.le_of_ble_eq_true rfl, Nat.le_of_ble_eq_true rfl⟩ wl_X3_128 wm_X1_go we_X1_go wi_X1 wc_X1_go (by decide +kernel) rfl 3 rfl rfl rfl rfl (Nat.le_of_ble_eq_true rfl) dX3_would_56) (fun q_8 u_8 h_8 => ?_)
          obtain ⟨i8, r8⟩ := u_8
          try dsimp only at h_8
          obtain ⟨m0, m1, m2, m5, m6, m9, mc⟩ := h_8
          have hzm := (hz.sp SP.rf g1).sp m1 m2
          refine z_ws (st' := [.int q_8]) (ws' := (cW cI a i8 r8)) rfl rfl ?_
          refine z_pop C (pc := 59) dX3_would_59 rfl ?_
          refine z_iload C (pc := 60) dX3_would_60 rfl ?_
          by_cases c_9 : what = 0
          · refine z_tableIn C (pc := 62) (tgt := 88) (off := 26) dX3_would_62 (by rw [c_9]; decide) (by rw [c_9]; decide) (by rw [c_9]; rfl) (by decide) ?_
            refine z_aload_n C (pc := 88) dX3_would_88 rfl ?_
            refine z_get C (pc := 89) 0 rfl rfl wf_X3 1 (by decide) rfl wl_X3_19 (v := .ref (a 3)) rfl dX3_would_89 ?_
            refine z_getN C (pc := 92) 3 rfl rfl wf_X1 3 (by decide) rfl wl_X3_131 (v := .int (i8 5)) rfl dX3_would_92 ?_
            refine z_iret C (pc := 95) (i8, r8) dX3_would_95 ?_ rfl
            rw [show wouldF z (nI xk) (nI yk) (nI fk) what = tellM (marS z xk yk fk) what from (if_neg hbb).trans ((if_neg hdd).trans (by rw [htx, hty, htf]))]
            refine ⟨?_, hzm⟩
            unfold tellM
            rw [if_pos c_9]; exact m5
          by_cases c_10 : what = 1
          · refine z_tableIn C (pc := 62) (tgt := 96) (off := 34) dX3_would_62 (by rw [c_10]; decide) (by rw [c_10]; decide) (by rw [c_10]; rfl) (by decide) ?_
            refine z_aload_n C (pc := 96) dX3_would_96 rfl ?_
            refine z_get C (pc := 97) 0 rfl rfl wf_X3 1 (by decide) rfl wl_X3_19 (v := .ref (a 3)) rfl dX3_would_97 ?_
            refine z_getN C (pc := 100) 3 rfl rfl wf_X1 4 (by decide) rfl wl_X3_143 (v := .int (i8 6)) rfl dX3_would_100 ?_
            refine z_iret C (pc := 103) (i8, r8) dX3_would_103 ?_ rfl
            rw [show wouldF z (nI xk) (nI yk) (nI fk) what = tellM (marS z xk yk fk) what from (if_neg hbb).trans ((if_neg hdd).trans (by rw [htx, hty, htf]))]
            refine ⟨?_, hzm⟩
            unfold tellM
            rw [if_neg c_9, if_pos c_10]; exact m6
          by_cases c_11 : what = 2
          · refine z_tableIn C (pc := 62) (tgt := 104) (off := 42) dX3_would_62 (by rw [c_11]; decide) (by rw [c_11]; decide) (by rw [c_11]; rfl) (by decide) ?_
            refine z_aload_n C (pc := 104) dX3_would_104 rfl ?_
            refine z_get C (pc := 105) 0 rfl rfl wf_X3 1 (by decide) rfl wl_X3_19 (v := .ref (a 3)) rfl dX3_would_105 ?_
            refine z_getN C (pc := 108) 3 rfl rfl wf_X1 2 (by decide) rfl wl_X3_132 (v := .ref (a 5)) rfl dX3_would_108 ?_
            refine z_calli C (isC := [5]) rfl (by exact fun _ => rfl) (runS C (wc := [(a 5, .inl (cI, 5, .inl (r8 2)))]) (pc := 111) (rY' := rm 0 0) (nn := 1) (As := [.ref (a 5)]) (rest := []) (c_sum l D cI tt (a 5) 5 (r8 2) (by decide)) rfl rfl ⟨rfl, rfl, ⟨Nat.le_of_ble_eq_true rfl, Nat.le_of_ble_eq_true rfl⟩, Nat.le_of_ble_eq_true rfl, Nat.le_of_ble_eq_true rfl⟩ wl_X3_146 ws_X3_sum wi_X3 wc_X3_sum (by decide +kernel) rfl rfl (Nat.le_of_ble_eq_true rfl) dX3_would_111) (fun r_12 u_12 h_12 => ?_)
            subst h_12
            refine z_ws (st' := [.int (sumv (r8 2) 5)]) (ws' := (cW cI a i8 r8)) rfl rfl ?_
            refine z_iret C (pc := 114) (i8, r8) dX3_would_114 ?_ rfl
            rw [show wouldF z (nI xk) (nI yk) (nI fk) what = tellM (marS z xk yk fk) what from (if_neg hbb).trans ((if_neg hdd).trans (by rw [htx, hty, htf]))]
            refine ⟨?_, hzm⟩
            unfold tellM
            rw [if_neg c_9, if_neg c_10, if_pos c_11]; exact sum_nI mc
          refine z_tableOut C (pc := 62) (tgt := 115) dX3_would_62 (by have q0 := lv_neT c_9 (a := 0) rfl; have q1 := lv_neT c_10 (a := 1) rfl; have q2 := lv_neT c_11 (a := 2) rfl; omega) (by decide) ?_
          refine z_aload_n C (pc := 115) dX3_would_115 rfl ?_
          refine z_get C (pc := 116) 0 rfl rfl wf_X3 1 (by decide) rfl wl_X3_19 (v := .ref (a 3)) rfl dX3_would_116 ?_
          refine z_getN C (pc := 119) 3 rfl rfl wf_X1 7 (by decide) rfl wl_X3_150 (v := .int (i8 9)) rfl dX3_would_119 ?_
          refine z_iret C (pc := 122) (i8, r8) dX3_would_122 ?_ rfl
          rw [show wouldF z (nI xk) (nI yk) (nI fk) what = tellM (marS z xk yk fk) what from (if_neg hbb).trans ((if_neg hdd).trans (by rw [htx, hty, htf]))]
          refine ⟨?_, hzm⟩
          unfold tellM
          rw [if_neg c_9, if_neg c_10, if_neg c_11]; exact m9
        · have hda := b2_t (h_5 ▸ c_6)
          rw [hz.1.2.2.2.2.2.1] at hda
          have hdd := of_decide_eq_true hda
          refine z_bipush C (pc := 32) (v := (-103)) dX3_would_32 (by decide) ?_
          refine z_iret C (pc := 34) (i, r) dX3_would_34 ?_ rfl
          rw [show wouldF z (nI xk) (nI yk) (nI fk) what = -103 from (if_neg hbb).trans (if_pos hdd)]
          exact ⟨rfl, hz⟩
      · have hbb : noMarch (z.1 4) (nI xk) (nI yk) (nI fk) = true ∨ what < 0 ∨ ¬ what ≤ 3 := Or.inr (Or.inr c_4)
        refine z_bipush C (pc := 21) (v := (-102)) dX3_would_21 (by decide) ?_
        refine z_iret C (pc := 23) (i, r) dX3_would_23 ?_ rfl
        rw [show wouldF z (nI xk) (nI yk) (nI fk) what = -102 from if_pos hbb]
        exact ⟨rfl, hz⟩
end
section
theorem Cls.row {z : SG} {i : Nat → Int32} {r r' : Nat → Nat → Int32} (h : Cls z i r) (hr : ∀ q, q ≠ 13 → r' q = r q) : Cls z i r' := by
  obtain ⟨hn, ⟨p0, p1, p2, p3⟩, hk⟩ := h
  refine ⟨hn, ⟨?_, ?_, ?_, ?_⟩, ?_⟩
  · rw [hr 0 (by decide)]; exact p0
  · rw [hr 1 (by decide)]; exact p1
  · rw [hr 3 (by decide)]; exact p2
  · rw [hr 4 (by decide), hr 5 (by decide), hr 6 (by decide), hr 7 (by decide)]; exact p3
  · intro g
    rw [hr 8 (by decide), hr 9 (by decide), hr 10 (by decide), hr 11 (by decide), hr 12 (by decide)]
    exact hk g
theorem seed_of {x : Int32} (h : ¬ x < 0) : ∃ t, t < 2147483648 ∧ x = nI t ∧ tn x = t := by
  obtain ⟨j, hj, e⟩ := nI_of h
  exact ⟨j, hj, e, by rw [e]; exact tn_nI hj⟩
theorem cl_camp {z : SG} {i : Nat → Int32} {r r' : Nat → Nat → Int32} {x4 x10 : Int32} (h : Cls z i r) (hb : campb z.2.2 (z.1 3) = true) (h4 : x4 = nI (z.1 3 - 6)) (h10 : x10 = nI (2 ^ (z.1 3 - 6) - 1)) (hr1 : ∀ k, k < z.1 3 - 6 → r' 1 k = nI (kdn (z.2.2 k))) (hr3 : ∀ k, k < 5 → r' 3 k = nI (fdn (z.2.2 (z.1 3 - 5 + k)))) :
    Cls (campF z).2 (upd (upd (upd (upd (upd (upd (upd (upd i 4 x4) 10 x10) 11 0) 12 0) 13 0) 0 0) 1 (i 1 + 1)) 3 0) r' := by
  obtain ⟨⟨h0, h1, h2, h3, h4', h5, h6, h7, h8⟩, ⟨p0, p1, p2, p3⟩, hk⟩ := h
  unfold campF
  rw [if_pos hb]
  refine ⟨⟨rfl, ?_, h2, rfl, h4, h10, rfl, rfl, rfl⟩, ⟨fun k hk => absurd hk (Nat.not_lt_zero k), hr1, hr3, fun k hk => absurd hk (Nat.not_lt_zero k)⟩, fun g => absurd g (show ¬ (0 : Nat) = 1 by decide)⟩
  show i 1 + 1 = nI (z.1 1 + 1)
  rw [h1, nI_1]
theorem member_in {z : SG} {m : Nat} (v : VS z) (hm : m < z.1 4) (what : Int32) : memberF z (nI m) what = tellF z m what := by
  have hn := v.2.2.2.1
  have h1 : noMember z (nI m) = false := by
    unfold noMember
    have e1 := nI_pos (n := m) (by omega)
    have e2 := nI_lt hm (by omega)
    simp [e1, e2]
  rw [show memberF z (nI m) what = tellF z (tn (nI m)) what from if_neg (by rw [h1]; decide), tn_nI (by omega)]

set_option maxHeartbeats 4000000 in
set_option maxRecDepth 100000 in
theorem c_winters (l : Launch) (D : va_G) (cI : ClassId) (tt : Nat × Nat × Nat) (a : Nat → Nat) (i : Nat → Int32) (r : Nat → Nat → Int32) (m sd what : Int32) (z : SG) (hz : Cls z i r) (vz : VS z) : MetI (S := ((Nat → Int32) × (Nat → Nat → Int32))) l yX3_winters cX3_winters 5 (some .int) (rm 6 140) D cI tt [.ref (a 0), .int m, .int sd, .int what] (cW cI a i r) (fun q u => q = wintersF z m sd what ∧ Cls z u.1 u.2) (fun u => cW cI a u.1 u.2) := by
  have hv := hz.pv vz
  have hc := hz.c vz
  have hh := hz.hv vz
  have hn6 := vz.2.2.2.1
  have hx6 := pow_le6 hn6
  refine met_ofI (by decide) (Nat.le_of_ble_eq_true rfl) ?_
  intro pP eE sS mM aV bB mE cC AA C hin
  refine z_conv (lv' := [(0, .ref (a 0)), (1, .int m), (2, .int sd), (3, .int what)]) ⟨rfl, rfl, rfl, rfl, trivial⟩ rfl rfl ?_
  refine z_iload_n C (pc := 0) dX3_winters_0 rfl ?_
  refine z_iconst C (pc := 1) (v := 1) dX3_winters_1 (by decide) ?_
  refine z_icmp_lt C (pc := 2) (tgt := 24) dX3_winters_2 (by decide) (fun c_1 => ?_) (fun c_1 => ?_)
  · have hbb : m < 1 ∨ ¬ m ≤ 20 ∨ sd < 0 ∨ what < 0 ∨ ¬ what ≤ 2 := Or.inl c_1
    refine z_bipush C (pc := 24) (v := (-102)) dX3_winters_24 (by decide) ?_
    refine z_iret C (pc := 26) (i, r) dX3_winters_26 ?_ rfl
    rw [show wintersF z m sd what = -102 from if_pos hbb]
    exact ⟨rfl, hz⟩
  · refine z_iload_n C (pc := 5) dX3_winters_5 rfl ?_
    refine z_bipush C (pc := 6) (v := 20) dX3_winters_6 (by decide) ?_
    refine z_icmp_gt C (pc := 8) (tgt := 24) dX3_winters_8 (by decide) (fun c_2 => ?_) (fun c_2 => ?_)
    · have hbb : m < 1 ∨ ¬ m ≤ 20 ∨ sd < 0 ∨ what < 0 ∨ ¬ what ≤ 2 := Or.inr (Or.inl (fun h => absurd h (i_nle.mpr c_2)))
      refine z_bipush C (pc := 24) (v := (-102)) dX3_winters_24 (by decide) ?_
      refine z_iret C (pc := 26) (i, r) dX3_winters_26 ?_ rfl
      rw [show wintersF z m sd what = -102 from if_pos hbb]
      exact ⟨rfl, hz⟩
    · refine z_iload_n C (pc := 11) dX3_winters_11 rfl ?_
      refine z_if_lt C (pc := 12) (tgt := 24) dX3_winters_12 (by decide) (fun c_3 => ?_) (fun c_3 => ?_)
      · have hbb : m < 1 ∨ ¬ m ≤ 20 ∨ sd < 0 ∨ what < 0 ∨ ¬ what ≤ 2 := Or.inr (Or.inr (Or.inl c_3))
        refine z_bipush C (pc := 24) (v := (-102)) dX3_winters_24 (by decide) ?_
        refine z_iret C (pc := 26) (i, r) dX3_winters_26 ?_ rfl
        rw [show wintersF z m sd what = -102 from if_pos hbb]
        exact ⟨rfl, hz⟩
      · refine z_iload_n C (pc := 15) dX3_winters_15 rfl ?_
        refine z_if_lt C (pc := 16) (tgt := 24) dX3_winters_16 (by decide) (fun c_4 => ?_) (fun c_4 => ?_)
        · have hbb : m < 1 ∨ ¬ m ≤ 20 ∨ sd < 0 ∨ what < 0 ∨ ¬ what ≤ 2 := Or.inr (Or.inr (Or.inr (Or.inl c_4)))
          refine z_bipush C (pc := 24) (v := (-102)) dX3_winters_24 (by decide) ?_
          refine z_iret C (pc := 26) (i, r) dX3_winters_26 ?_ rfl
          rw [show wintersF z m sd what = -102 from if_pos hbb]
          exact ⟨rfl, hz⟩
        · refine z_iload_n C (pc := 19) dX3_winters_19 rfl ?_
          refine z_iconst C (pc := 20) (v := 2) dX3_winters_20 (by decide) ?_
          refine z_icmp_le C (pc := 21) (tgt := 27) dX3_winters_21 (by decide) (fun c_5 => ?_) (fun c_5 => ?_)
          · have hbb : ¬ (m < 1 ∨ ¬ m ≤ 20 ∨ sd < 0 ∨ what < 0 ∨ ¬ what ≤ 2) := fun h => h.elim c_1 (fun h => h.elim (fun h => h (i_nlt.mp c_2)) (fun h => h.elim c_3 (fun h => h.elim c_4 (fun h => h c_5))))
            obtain ⟨mk, hm20, hmm, htm⟩ := tn_of (M := 20) (by decide) (neg_1 c_1) (i_nlt.mp c_2)
            obtain ⟨t, ht, hst, hts⟩ := seed_of c_3
            subst hmm hst
            refine z_aload_n C (pc := 27) dX3_winters_27 rfl ?_
            refine z_get C (pc := 28) 0 rfl rfl wf_X3 1 (by decide) rfl wl_X3_19 (v := .ref (a 3)) rfl dX3_winters_28 ?_
            refine z_getN C (pc := 31) 3 rfl rfl wf_X1 1 (by decide) rfl wl_X3_53 (v := .int (i 4)) rfl dX3_winters_31 ?_
            refine z_if_ne C (pc := 34) (tgt := 40) dX3_winters_34 (by decide) (fun c_6 => ?_) (fun c_6 => ?_)
            · rw [hz.1.2.2.2.2.1] at c_6
              have hn0 := nI_nz c_6
              refine z_aload_n C (pc := 40) dX3_winters_40 rfl ?_
              refine z_iload_n C (pc := 41) dX3_winters_41 rfl ?_
              refine z_iload_n C (pc := 42) dX3_winters_42 rfl ?_
              refine z_calliF C (by exact fun _ => cW_ad) (runV C (wc := (cW cI a i r)) (pc := 43) (rY' := rm 2 44) (nn := 2) (As := [.int (nI mk), .int (nI t)]) (rest := []) (c_letCreep l D cI tt a i r (z.2.1 2) hc mk t hm20 ht) (full_hC _) (full_nd _) ⟨rfl, rfl, ⟨Nat.le_of_ble_eq_true rfl, Nat.le_of_ble_eq_true rfl⟩, Nat.le_of_ble_eq_true rfl, Nat.le_of_ble_eq_true rfl⟩ wl_X3_180 wm_X3_letCreep we_X3_letCreep wi_X3 wc_X3_letCreep (by decide +kernel) rfl 0 rfl rfl rfl rfl (Nat.le_of_ble_eq_true rfl) dX3_winters_43) (fun q_7 u_7 h_7 => ?_)
              generalize u_7 = r7 at h_7 ⊢
              obtain ⟨w0, w1, w2⟩ := h_7
              subst w0
              have hzw := hz.row w1
              have hcw : ∀ k, k < 5 → r7 13 k = nI ((crw mk (t, z.2.1 2)).2 k) ∧ (crw mk (t, z.2.1 2)).2 k ≤ 9 := fun k hk => ⟨w2 k hk, (crw_ok ht (fun k hk => (hc k hk).2) mk).2 k hk⟩
              refine z_ws (st' := [.int (nI (crw mk (t, z.2.1 2)).1)]) (ws' := (cW cI a i r7)) rfl rfl ?_
              refine z_istore C (pc := 46) (lv' := [(0, .ref (a 0)), (1, .int (nI mk)), (2, .int (nI t)), (3, .int what), (4, .int (nI (crw mk (t, z.2.1 2)).1))]) dX3_winters_46 (Nat.le_of_ble_eq_true rfl) rfl rfl ?_
              refine z_iload_n C (pc := 48) dX3_winters_48 rfl ?_
              refine z_iconst C (pc := 49) (v := 2) dX3_winters_49 (by decide) ?_
              refine z_icmp_ne C (pc := 50) (tgt := 56) dX3_winters_50 (by decide) (fun c_8 => ?_) (fun c_8 => ?_)
              · refine z_iload_n C (pc := 56) dX3_winters_56 rfl ?_
                refine z_if_ne C (pc := 57) (tgt := 70) dX3_winters_57 (by decide) (fun c_9 => ?_) (fun c_9 => ?_)
                · refine z_aload_n C (pc := 70) dX3_winters_70 rfl ?_
                  refine z_aload_n C (pc := 71) dX3_winters_71 rfl ?_
                  refine z_get C (pc := 72) 0 rfl rfl wf_X3 2 (by decide) rfl wl_X3_26 (v := .ref (a 6)) rfl dX3_winters_72 ?_
                  refine z_getN C (pc := 75) 6 rfl rfl wf_X2 0 (by decide) rfl wl_X3_100 (v := .int (i 10)) rfl dX3_winters_75 ?_
                  refine z_aload_n C (pc := 78) dX3_winters_78 rfl ?_
                  refine z_get C (pc := 79) 0 rfl rfl wf_X3 4 (by decide) rfl wl_X3_33 (v := .ref (a 18)) rfl dX3_winters_79 ?_
                  refine z_ws (st' := [.ref (a 18), .int (nI (z.1 5)), .ref (a 0)]) rfl (by rw [hz.1.2.2.2.2.2.1]) ?_
                  refine z_calliF C (by exact fun _ => cW_ad) (runV C (wc := (cW cI a i r7)) (pc := 82) (rY' := rm 5 117) (nn := 2) (As := [.int (nI (z.1 5)), .ref (a 18)]) (rest := []) (c_farthestW l D cI tt a i r7 (z.2.1 1) (z.1 4) (hzw.pv vz) (z.1 5) vz.2.2.2.2.1 (crw mk (t, z.2.1 2)).2 hcw) (full_hC _) (full_nd _) ⟨rfl, rfl, ⟨Nat.le_of_ble_eq_true rfl, Nat.le_of_ble_eq_true rfl⟩, Nat.le_of_ble_eq_true rfl, Nat.le_of_ble_eq_true rfl⟩ wl_X3_163 wm_X3_farthest we_X3_farthest wi_X3 wc_X3_farthest (by decide +kernel) rfl 0 rfl rfl rfl rfl (Nat.le_of_ble_eq_true rfl) dX3_winters_82) (fun q_10 u_10 h_10 => ?_)
                  obtain ⟨i10, r10⟩ := u_10
                  try dsimp only at h_10
                  obtain ⟨k0, k1, k2⟩ := h_10
                  refine z_ws (st' := [.int q_10]) (ws' := (cW cI a i10 r10)) rfl rfl ?_
                  refine z_iret C (pc := 85) (i10, r10) dX3_winters_85 ?_ rfl
                  rw [show wintersF z (nI mk) (nI t) what = nI (farv (z.2.1 1) (z.1 4) (z.1 5) (crw mk (t, z.2.1 2)).2) from (if_neg hbb).trans ((if_neg hn0).trans ((if_neg c_8).trans ((if_neg c_9).trans (by unfold winS; rw [htm, hts]))))]
                  exact ⟨k0, hzw.sp k1 k2⟩
                · refine z_aload_n C (pc := 60) dX3_winters_60 rfl ?_
                  refine z_get C (pc := 61) 0 rfl rfl wf_X3 4 (by decide) rfl wl_X3_33 (v := .ref (a 18)) rfl dX3_winters_61 ?_
                  refine z_calli C (isC := [18]) rfl (by exact fun _ => rfl) (runS C (wc := [(a 18, .inl (cI, 5, .inl (r7 13)))]) (pc := 64) (rY' := rm 0 0) (nn := 1) (As := [.ref (a 18)]) (rest := []) (c_sum l D cI tt (a 18) 5 (r7 13) (by decide)) rfl rfl ⟨rfl, rfl, ⟨Nat.le_of_ble_eq_true rfl, Nat.le_of_ble_eq_true rfl⟩, Nat.le_of_ble_eq_true rfl, Nat.le_of_ble_eq_true rfl⟩ wl_X3_146 ws_X3_sum wi_X3 wc_X3_sum (by decide +kernel) rfl rfl (Nat.le_of_ble_eq_true rfl) dX3_winters_64) (fun r_11 u_11 h_11 => ?_)
                  subst h_11
                  refine z_ws (st' := [.int (sumv (r7 13) 5)]) (ws' := (cW cI a i r7)) rfl rfl ?_
                  refine z_goto C (pc := 67) (tgt := 85) dX3_winters_67 (by decide) ?_
                  refine z_iret C (pc := 85) (i, r7) dX3_winters_85 ?_ rfl
                  rw [show wintersF z (nI mk) (nI t) what = nI (sumN (crw mk (t, z.2.1 2)).2) from (if_neg hbb).trans ((if_neg hn0).trans ((if_neg c_8).trans ((if_pos c_9).trans (by unfold winS; rw [htm, hts]))))]
                  exact ⟨sum_nI w2, hzw⟩
              · refine z_iload C (pc := 53) dX3_winters_53 rfl ?_
                refine z_iret C (pc := 55) (i, r7) dX3_winters_55 ?_ rfl
                rw [show wintersF z (nI mk) (nI t) what = nI (crw mk (t, z.2.1 2)).1 from (if_neg hbb).trans ((if_neg hn0).trans ((if_pos c_8).trans (by unfold winS; rw [htm, hts])))]
                exact ⟨rfl, hzw⟩
            · rw [hz.1.2.2.2.2.1] at c_6
              have hn0 : z.1 4 = 0 := nI_z (by omega) c_6
              refine z_bipush C (pc := 37) (v := (-103)) dX3_winters_37 (by decide) ?_
              refine z_iret C (pc := 39) (i, r) dX3_winters_39 ?_ rfl
              rw [show wintersF z (nI mk) (nI t) what = -103 from (if_neg hbb).trans (if_pos hn0)]
              exact ⟨rfl, hz⟩
          · have hbb : m < 1 ∨ ¬ m ≤ 20 ∨ sd < 0 ∨ what < 0 ∨ ¬ what ≤ 2 := Or.inr (Or.inr (Or.inr (Or.inr c_5)))
            refine z_bipush C (pc := 24) (v := (-102)) dX3_winters_24 (by decide) ?_
            refine z_iret C (pc := 26) (i, r) dX3_winters_26 ?_ rfl
            rw [show wintersF z m sd what = -102 from if_pos hbb]
            exact ⟨rfl, hz⟩
end
section

end
section
set_option maxHeartbeats 4000000 in
set_option maxRecDepth 100000 in
theorem c_count (l : Launch) (D : va_G) (cI : ClassId) (tt : Nat × Nat × Nat) (a : Nat → Nat) (i : Nat → Int32) (r : Nat → Nat → Int32) (what : Int32) (z : SG) (hz : Cls z i r) (vz : VS z) : MetI (S := ((Nat → Int32) × (Nat → Nat → Int32))) l yX3_count cX3_count 2 (some .int) (rm 2 45) D cI tt [.ref (a 0), .int what] (cW cI a i r) (fun q u => q = countF z what ∧ Cls z u.1 u.2) (fun u => cW cI a u.1 u.2) := by
  have hv := hz.pv vz
  have hc := hz.c vz
  have hh := hz.hv vz
  have hn6 := vz.2.2.2.1
  have hx6 := pow_le6 hn6
  refine met_ofI (by decide) (Nat.le_of_ble_eq_true rfl) ?_
  intro pP eE sS mM aV bB mE cC AA C hin
  refine z_conv (lv' := [(0, .ref (a 0)), (1, .int what)]) ⟨rfl, rfl, trivial⟩ rfl rfl ?_
  refine z_iload_n C (pc := 0) dX3_count_0 rfl ?_
  by_cases c_1 : what = 0
  · refine z_tableIn C (pc := 1) (tgt := 60) (off := 59) dX3_count_1 (by rw [c_1]; decide) (by rw [c_1]; decide) (by rw [c_1]; rfl) (by decide) ?_
    refine z_aload_n C (pc := 60) dX3_count_60 rfl ?_
    refine z_get C (pc := 61) 0 rfl rfl wf_X3 1 (by decide) rfl wl_X3_19 (v := .ref (a 3)) rfl dX3_count_61 ?_
    refine z_getN C (pc := 64) 3 rfl rfl wf_X1 1 (by decide) rfl wl_X3_53 (v := .int (i 4)) rfl dX3_count_64 ?_
    refine z_iret C (pc := 67) (i, r) dX3_count_67 ?_ rfl
    subst c_1
    rw [show countF z 0 = nI (countN z 0) from if_neg (by decide)]
    exact ⟨hz.1.2.2.2.2.1, hz⟩
  by_cases c_2 : what = 1
  · refine z_tableIn C (pc := 1) (tgt := 68) (off := 67) dX3_count_1 (by rw [c_2]; decide) (by rw [c_2]; decide) (by rw [c_2]; rfl) (by decide) ?_
    refine z_aload_n C (pc := 68) dX3_count_68 rfl ?_
    refine z_get C (pc := 69) 0 rfl rfl wf_X3 2 (by decide) rfl wl_X3_26 (v := .ref (a 6)) rfl dX3_count_69 ?_
    refine z_getN C (pc := 72) 6 rfl rfl wf_X2 0 (by decide) rfl wl_X3_100 (v := .int (i 10)) rfl dX3_count_72 ?_
    refine z_calli C (isC := []) rfl (by exact fun _ => rfl) (runS C (wc := []) (pc := 75) (rY' := rm 0 0) (nn := 1) (As := [.int (i 10)]) (rest := []) (c_bitCount l D cI tt (i 10)) rfl rfl ⟨rfl, rfl, ⟨Nat.le_of_ble_eq_true rfl, Nat.le_of_ble_eq_true rfl⟩, Nat.le_of_ble_eq_true rfl, Nat.le_of_ble_eq_true rfl⟩ wl_X3_187 ws_J6_bitCount_0f7a4 wi_J6 wc_J6_bitCount_0f7a4 (by decide +kernel) rfl rfl (Nat.le_of_ble_eq_true rfl) dX3_count_75) (fun r_3 u_3 h_3 => ?_)
    rw [hz.1.2.2.2.2.2.1] at h_3
    have h_3 : r_3 = nI (pcn (z.1 5)) := h_3.trans (bc_pcn _ (by have := vz.2.2.2.2.1; omega))
    subst h_3
    refine z_ws (st' := [.int (nI (pcn (z.1 5)))]) (ws' := (cW cI a i r)) rfl rfl ?_
    refine z_iret C (pc := 78) (i, r) dX3_count_78 ?_ rfl
    subst c_2
    rw [show countF z 1 = nI (countN z 1) from if_neg (by decide)]
    exact ⟨rfl, hz⟩
  by_cases c_4 : what = 2
  · refine z_tableIn C (pc := 1) (tgt := 79) (off := 78) dX3_count_1 (by rw [c_4]; decide) (by rw [c_4]; decide) (by rw [c_4]; rfl) (by decide) ?_
    refine z_aload_n C (pc := 79) dX3_count_79 rfl ?_
    refine z_get C (pc := 80) 0 rfl rfl wf_X3 2 (by decide) rfl wl_X3_26 (v := .ref (a 6)) rfl dX3_count_80 ?_
    refine z_getN C (pc := 83) 6 rfl rfl wf_X2 1 (by decide) rfl wl_X3_77 (v := .ref (a 7)) rfl dX3_count_83 ?_
    refine z_calli C (isC := [7]) rfl (by exact fun _ => rfl) (runS C (wc := [(a 7, .inl (cI, 5, .inl (r 3)))]) (pc := 86) (rY' := rm 0 0) (nn := 1) (As := [.ref (a 7)]) (rest := []) (c_sum l D cI tt (a 7) 5 (r 3) (by decide)) rfl rfl ⟨rfl, rfl, ⟨Nat.le_of_ble_eq_true rfl, Nat.le_of_ble_eq_true rfl⟩, Nat.le_of_ble_eq_true rfl, Nat.le_of_ble_eq_true rfl⟩ wl_X3_146 ws_X3_sum wi_X3 wc_X3_sum (by decide +kernel) rfl rfl (Nat.le_of_ble_eq_true rfl) dX3_count_86) (fun r_5 u_5 h_5 => ?_)
    subst h_5
    refine z_ws (st' := [.int (sumv (r 3) 5)]) (ws' := (cW cI a i r)) rfl rfl ?_
    refine z_iret C (pc := 89) (i, r) dX3_count_89 ?_ rfl
    subst c_4
    rw [show countF z 2 = nI (countN z 2) from if_neg (by decide)]
    exact ⟨sum_nI hz.2.1.2.2.1, hz⟩
  by_cases c_6 : what = 3
  · refine z_tableIn C (pc := 1) (tgt := 90) (off := 89) dX3_count_1 (by rw [c_6]; decide) (by rw [c_6]; decide) (by rw [c_6]; rfl) (by decide) ?_
    refine z_aload_n C (pc := 90) dX3_count_90 rfl ?_
    refine z_get C (pc := 91) 0 rfl rfl wf_X3 2 (by decide) rfl wl_X3_26 (v := .ref (a 6)) rfl dX3_count_91 ?_
    refine z_getN C (pc := 94) 6 rfl rfl wf_X2 2 (by decide) rfl wl_X3_137 (v := .int (i 11)) rfl dX3_count_94 ?_
    refine z_iret C (pc := 97) (i, r) dX3_count_97 ?_ rfl
    subst c_6
    rw [show countF z 3 = nI (countN z 3) from if_neg (by decide)]
    exact ⟨hz.1.2.2.2.2.2.2.1, hz⟩
  by_cases c_7 : what = 4
  · refine z_tableIn C (pc := 1) (tgt := 98) (off := 97) dX3_count_1 (by rw [c_7]; decide) (by rw [c_7]; decide) (by rw [c_7]; rfl) (by decide) ?_
    refine z_aload_n C (pc := 98) dX3_count_98 rfl ?_
    refine z_get C (pc := 99) 0 rfl rfl wf_X3 2 (by decide) rfl wl_X3_26 (v := .ref (a 6)) rfl dX3_count_99 ?_
    refine z_getN C (pc := 102) 6 rfl rfl wf_X2 3 (by decide) rfl wl_X3_140 (v := .int (i 12)) rfl dX3_count_102 ?_
    refine z_iret C (pc := 105) (i, r) dX3_count_105 ?_ rfl
    subst c_7
    rw [show countF z 4 = nI (countN z 4) from if_neg (by decide)]
    exact ⟨hz.1.2.2.2.2.2.2.2.1, hz⟩
  by_cases c_8 : what = 5
  · refine z_tableIn C (pc := 1) (tgt := 106) (off := 105) dX3_count_1 (by rw [c_8]; decide) (by rw [c_8]; decide) (by rw [c_8]; rfl) (by decide) ?_
    refine z_aload_n C (pc := 106) dX3_count_106 rfl ?_
    refine z_get C (pc := 107) 0 rfl rfl wf_X3 1 (by decide) rfl wl_X3_19 (v := .ref (a 3)) rfl dX3_count_107 ?_
    refine z_aload_n C (pc := 110) dX3_count_110 rfl ?_
    refine z_get C (pc := 111) 0 rfl rfl wf_X3 2 (by decide) rfl wl_X3_26 (v := .ref (a 6)) rfl dX3_count_111 ?_
    refine z_getN C (pc := 114) 6 rfl rfl wf_X2 0 (by decide) rfl wl_X3_100 (v := .int (i 10)) rfl dX3_count_114 ?_
    refine z_gets C (pc := 117) C.2.2.2.2.2.2.2.1.1.1 wl_X3_91 dX3_count_117 ?_
    refine z_ws (st' := [.ref tt.1, .int (nI (z.1 5)), .ref (a 3)]) rfl (by rw [hz.1.2.2.2.2.2.1]) ?_
    refine z_calliF C (by exact fun _ => cW_ad) (runVN C (wc := (cW cI a i r)) (pc := 120) (rY' := rm 1 21) (nn := 2) (As := [.int (nI (z.1 5)), .ref tt.1]) (rest := []) (c_togetherP l D cI tt a i r (z.2.1 1) (z.1 4) (z.1 5) hv (by have := vz.2.2.2.2.1; omega)) (full_hC _) (full_nd _) ⟨rfl, rfl, ⟨Nat.le_of_ble_eq_true rfl, Nat.le_of_ble_eq_true rfl⟩, Nat.le_of_ble_eq_true rfl, Nat.le_of_ble_eq_true rfl⟩ wl_X3_192 wm_X1_together we_X1_together wi_X1 wc_X1_together (by decide +kernel) rfl 3 rfl rfl rfl rfl (Nat.le_of_ble_eq_true rfl) dX3_count_120) (fun q_9 u_9 h_9 => ?_)
    subst h_9
    refine z_ws (st' := [.int (nI (sumk pls (z.2.1 1) (z.1 5) (z.1 4)))]) (ws' := (cW cI a i r)) rfl rfl ?_
    refine z_iret C (pc := 123) (i, r) dX3_count_123 ?_ rfl
    subst c_8
    rw [show countF z 5 = nI (countN z 5) from if_neg (by decide)]
    exact ⟨rfl, hz⟩
  by_cases c_10 : what = 6
  · refine z_tableIn C (pc := 1) (tgt := 124) (off := 123) dX3_count_1 (by rw [c_10]; decide) (by rw [c_10]; decide) (by rw [c_10]; rfl) (by decide) ?_
    refine z_aload_n C (pc := 124) dX3_count_124 rfl ?_
    refine z_get C (pc := 125) 0 rfl rfl wf_X3 1 (by decide) rfl wl_X3_19 (v := .ref (a 3)) rfl dX3_count_125 ?_
    refine z_aload_n C (pc := 128) dX3_count_128 rfl ?_
    refine z_get C (pc := 129) 0 rfl rfl wf_X3 2 (by decide) rfl wl_X3_26 (v := .ref (a 6)) rfl dX3_count_129 ?_
    refine z_getN C (pc := 132) 6 rfl rfl wf_X2 0 (by decide) rfl wl_X3_100 (v := .int (i 10)) rfl dX3_count_132 ?_
    refine z_gets C (pc := 135) C.2.2.2.2.2.2.2.1.2.1.1 wl_X3_94 dX3_count_135 ?_
    refine z_ws (st' := [.ref tt.2.1, .int (nI (z.1 5)), .ref (a 3)]) rfl (by rw [hz.1.2.2.2.2.2.1]) ?_
    refine z_calliF C (by exact fun _ => cW_ad) (runVN C (wc := (cW cI a i r)) (pc := 138) (rY' := rm 1 21) (nn := 2) (As := [.int (nI (z.1 5)), .ref tt.2.1]) (rest := []) (c_togetherE l D cI tt a i r (z.2.1 1) (z.1 4) (z.1 5) hv (by have := vz.2.2.2.2.1; omega)) (full_hC _) (full_nd _) ⟨rfl, rfl, ⟨Nat.le_of_ble_eq_true rfl, Nat.le_of_ble_eq_true rfl⟩, Nat.le_of_ble_eq_true rfl, Nat.le_of_ble_eq_true rfl⟩ wl_X3_192 wm_X1_together we_X1_together wi_X1 wc_X1_together (by decide +kernel) rfl 3 rfl rfl rfl rfl (Nat.le_of_ble_eq_true rfl) dX3_count_138) (fun q_11 u_11 h_11 => ?_)
    subst h_11
    refine z_ws (st' := [.int (nI (sumk ets (z.2.1 1) (z.1 5) (z.1 4)))]) (ws' := (cW cI a i r)) rfl rfl ?_
    refine z_iret C (pc := 141) (i, r) dX3_count_141 ?_ rfl
    subst c_10
    rw [show countF z 6 = nI (countN z 6) from if_neg (by decide)]
    exact ⟨rfl, hz⟩
  by_cases c_12 : what = 7
  · refine z_tableIn C (pc := 1) (tgt := 142) (off := 141) dX3_count_1 (by rw [c_12]; decide) (by rw [c_12]; decide) (by rw [c_12]; rfl) (by decide) ?_
    refine z_aload_n C (pc := 142) dX3_count_142 rfl ?_
    refine z_get C (pc := 143) 0 rfl rfl wf_X3 2 (by decide) rfl wl_X3_26 (v := .ref (a 6)) rfl dX3_count_143 ?_
    refine z_getN C (pc := 146) 6 rfl rfl wf_X2 4 (by decide) rfl wl_X3_173 (v := .int (i 13)) rfl dX3_count_146 ?_
    refine z_iret C (pc := 149) (i, r) dX3_count_149 ?_ rfl
    subst c_12
    rw [show countF z 7 = nI (countN z 7) from if_neg (by decide)]
    exact ⟨hz.1.2.2.2.2.2.2.2.2, hz⟩
  by_cases c_13 : what = 8
  · refine z_tableIn C (pc := 1) (tgt := 150) (off := 149) dX3_count_1 (by rw [c_13]; decide) (by rw [c_13]; decide) (by rw [c_13]; rfl) (by decide) ?_
    refine z_aload_n C (pc := 150) dX3_count_150 rfl ?_
    refine z_get C (pc := 151) 0 rfl rfl wf_X3 0 (by decide) rfl wl_X3_10 (v := .ref (a 1)) rfl dX3_count_151 ?_
    refine z_getN C (pc := 154) 1 rfl rfl wf_X0 1 (by decide) rfl wl_X3_41 (v := .int (i 3)) rfl dX3_count_154 ?_
    refine z_iret C (pc := 157) (i, r) dX3_count_157 ?_ rfl
    subst c_13
    rw [show countF z 8 = nI (countN z 8) from if_neg (by decide)]
    exact ⟨hz.1.2.2.2.1, hz⟩
  by_cases c_14 : what = 9
  · refine z_tableIn C (pc := 1) (tgt := 158) (off := 157) dX3_count_1 (by rw [c_14]; decide) (by rw [c_14]; decide) (by rw [c_14]; rfl) (by decide) ?_
    refine z_aload_n C (pc := 158) dX3_count_158 rfl ?_
    refine z_get C (pc := 159) 0 rfl rfl wf_X3 6 (by decide) rfl wl_X3_84 (v := .int (i 1)) rfl dX3_count_159 ?_
    refine z_iret C (pc := 162) (i, r) dX3_count_162 ?_ rfl
    subst c_14
    rw [show countF z 9 = nI (countN z 9) from if_neg (by decide)]
    exact ⟨hz.1.2.1, hz⟩
  by_cases c_15 : what = 10
  · refine z_tableIn C (pc := 1) (tgt := 163) (off := 162) dX3_count_1 (by rw [c_15]; decide) (by rw [c_15]; decide) (by rw [c_15]; rfl) (by decide) ?_
    refine z_aload_n C (pc := 163) dX3_count_163 rfl ?_
    refine z_get C (pc := 164) 0 rfl rfl wf_X3 7 (by decide) rfl wl_X3_167 (v := .int (i 2)) rfl dX3_count_164 ?_
    refine z_iret C (pc := 167) (i, r) dX3_count_167 ?_ rfl
    subst c_15
    rw [show countF z 10 = nI (countN z 10) from if_neg (by decide)]
    exact ⟨hz.1.2.2.1, hz⟩
  refine z_tableOut C (pc := 1) (tgt := 168) dX3_count_1 (by have q0 := lv_neT c_1 (a := 0) rfl; have q1 := lv_neT c_2 (a := 1) rfl; have q2 := lv_neT c_4 (a := 2) rfl; have q3 := lv_neT c_6 (a := 3) rfl; have q4 := lv_neT c_7 (a := 4) rfl; have q5 := lv_neT c_8 (a := 5) rfl; have q6 := lv_neT c_10 (a := 6) rfl; have q7 := lv_neT c_12 (a := 7) rfl; have q8 := lv_neT c_13 (a := 8) rfl; have q9 := lv_neT c_14 (a := 9) rfl; have q10 := lv_neT c_15 (a := 10) rfl; omega) (by decide) ?_
  refine z_bipush C (pc := 168) (v := (-102)) dX3_count_168 (by decide) ?_
  refine z_iret C (pc := 170) (i, r) dX3_count_170 ?_ rfl
  have hbb : what < 0 ∨ ¬ what ≤ 10 := by
    have q0 := lv_neT c_1 (a := 0) rfl
    have q1 := lv_neT c_2 (a := 1) rfl
    have q2 := lv_neT c_4 (a := 2) rfl
    have q3 := lv_neT c_6 (a := 3) rfl
    have q4 := lv_neT c_7 (a := 4) rfl
    have q5 := lv_neT c_8 (a := 5) rfl
    have q6 := lv_neT c_10 (a := 6) rfl
    have q7 := lv_neT c_12 (a := 7) rfl
    have q8 := lv_neT c_13 (a := 8) rfl
    have q9 := lv_neT c_14 (a := 9) rfl
    have q10 := lv_neT c_15 (a := 10) rfl
    simp only [Int32.lt_iff_toInt_lt, Int32.le_iff_toInt_le]
    have a0 : (0 : Int32).toInt = 0 := rfl
    have a10 : (10 : Int32).toInt = 10 := rfl
    omega
  rw [show countF z what = -102 from if_pos hbb]
  exact ⟨rfl, hz⟩
end
section
set_option maxHeartbeats 4000000 in
set_option maxRecDepth 100000 in
theorem c_camp (l : Launch) (D : va_G) (cI : ClassId) (tt : Nat × Nat × Nat) (a : Nat → Nat) (i : Nat → Int32) (r : Nat → Nat → Int32) (z : SG) (hz : Cls z i r) (vz : VS z) : MetI (S := ((Nat → Int32) × (Nat → Nat → Int32))) l yX3_camp cX3_camp 2 (some .int) (rm 4 86) D cI tt [.ref (a 0)] (cW cI a i r) (fun q u => q = (campF z).1 ∧ Cls (campF z).2 u.1 u.2) (fun u => cW cI a u.1 u.2) := by
  refine met_ofI (by decide) (Nat.le_of_ble_eq_true rfl) ?_
  intro pP eE sS mM aV bB mE cC AA C hin
  refine z_conv (lv' := [(0, .ref (a 0))]) ⟨rfl, trivial⟩ rfl rfl ?_
  refine z_aload_n C (pc := 0) dX3_camp_0 rfl ?_
  refine z_get C (pc := 1) 0 rfl rfl wf_X3 0 (by decide) rfl wl_X3_10 (v := .ref (a 1)) rfl dX3_camp_1 ?_
  refine z_calliF C (by exact fun _ => cW_ad) (runVN C (wc := (cW cI a i r)) (pc := 4) (rY' := rm 3 66) (nn := 0) (As := []) (rest := []) (c_isCamp l D cI tt a i r (z.1 3) hz.1.2.2.2.1 vz.2.2.1) (full_hC _) (full_nd _) ⟨rfl, rfl, ⟨Nat.le_of_ble_eq_true rfl, Nat.le_of_ble_eq_true rfl⟩, Nat.le_of_ble_eq_true rfl, Nat.le_of_ble_eq_true rfl⟩ wl_X3_49 wm_X0_isCamp we_X0_isCamp wi_X0 wc_X0_isCamp (by decide +kernel) rfl 1 rfl rfl rfl rfl (Nat.le_of_ble_eq_true rfl) dX3_camp_4) (fun q_1 u_1 h_1 => ?_)
  refine z_ws (st' := [.int q_1]) (ws' := (cW cI a i r)) rfl rfl ?_
  refine z_if_ne C (pc := 7) (tgt := 13) dX3_camp_7 (by decide) (fun c_2 => ?_) (fun c_2 => ?_)
  · have hb := b2_t (h_1 ▸ c_2)
    rw [campb_congr hz.2.1.1] at hb
    obtain ⟨f1, f2, f3, f4⟩ := camp_facts hb
    refine z_aload_n C (pc := 13) dX3_camp_13 rfl ?_
    refine z_get C (pc := 14) 0 rfl rfl wf_X3 1 (by decide) rfl wl_X3_19 (v := .ref (a 3)) rfl dX3_camp_14 ?_
    refine z_aload_n C (pc := 17) dX3_camp_17 rfl ?_
    refine z_get C (pc := 18) 0 rfl rfl wf_X3 0 (by decide) rfl wl_X3_10 (v := .ref (a 1)) rfl dX3_camp_18 ?_
    refine z_getN C (pc := 21) 1 rfl rfl wf_X0 1 (by decide) rfl wl_X3_41 (v := .int (i 3)) rfl dX3_camp_21 ?_
    refine z_iconst C (pc := 24) (v := 5) dX3_camp_24 (by decide) ?_
    refine z_isub C (pc := 25) dX3_camp_25 ?_
    refine z_iconst C (pc := 26) (v := 1) dX3_camp_26 (by decide) ?_
    refine z_isub C (pc := 27) dX3_camp_27 ?_
    refine z_seti (y := nI (z.1 3 - 6)) (by rw [hz.1.2.2.2.1, show (5 : Int32) = nI 5 from rfl, pk_sub (by omega), show (1 : Int32) = nI 1 from rfl, pk_sub (by omega)]; rfl) ?_
    refine z_putN C (pc := 28) 3 rfl rfl wf_X1 1 (by decide) rfl tyX1 tyX1_ok nmX1 rfl rfl rfl (Nat.le_of_ble_eq_true rfl) (ws' := (cW cI a (upd i 4 (nI (z.1 3 - 6))) r)) rfl wl_X3_53 dX3_camp_28 ?_
    refine z_iconst C (pc := 31) (v := 0) dX3_camp_31 (by decide) ?_
    refine z_istore_n C (pc := 32) (lv' := [(0, .ref (a 0)), (1, .int 0)]) dX3_camp_32 (Nat.le_of_ble_eq_true rfl) rfl rfl ?_
    have key33 : ∀ (fu33 : Nat) (k : Nat) (r' : Nat → Nat → Int32), (z.1 3 - 6) - k < fu33 → (k ≤ (z.1 3 - 6)) → (∀ q, q ≠ 1 → r' q = r q) → (∀ j, j < k → r' 1 j = nI (kdn (z.2.2 j))) → Z pP l eE (rm 4 86) sS mM aV bB mE cC D AA 2 0 0 (MQ bB (va_Qi (S := ((Nat → Int32) × (Nat → Nat → Int32))) (fun q u => q = (campF z).1 ∧ Cls (campF z).2 u.1 u.2) (fun u t => va_P D vwCl ((fun u => cW cI a u.1 u.2) u) t.heap) AA) aV sS 0 0 AA) 33 [(0, .ref (a 0)), (1, .int (nI k))] [] (cW cI a (upd i 4 (nI (z.1 3 - 6))) r') := by
      intro fu33
      induction fu33 with
      | zero => intro k r' hfu33; exact absurd hfu33 (Nat.not_lt_zero _)
      | succ fu33 ih33 =>
        intro k r' hfu33 hkn hr0 hr1
        refine z_iload_n C (pc := 33) dX3_camp_33 rfl ?_
        refine z_aload_n C (pc := 34) dX3_camp_34 rfl ?_
        refine z_get C (pc := 35) 0 rfl rfl wf_X3 1 (by decide) rfl wl_X3_19 (v := .ref (a 3)) rfl dX3_camp_35 ?_
        refine z_getN C (pc := 38) 3 rfl rfl wf_X1 1 (by decide) rfl wl_X3_53 (v := .int (nI (z.1 3 - 6))) rfl dX3_camp_38 ?_
        refine z_icmp_ge C (pc := 41) (tgt := 72) dX3_camp_41 (by decide) (fun c_3 => ?_) (fun c_3 => ?_)
        · have hke : k = (z.1 3 - 6) := by
            have := ge_of_nI c_3 (by omega)
            omega
          subst hke
          refine z_lv (lv' := [(0, .ref (a 0))]) ⟨rfl, trivial⟩ ?_
          refine z_aload_n C (pc := 72) dX3_camp_72 rfl ?_
          refine z_get C (pc := 73) 0 rfl rfl wf_X3 2 (by decide) rfl wl_X3_26 (v := .ref (a 6)) rfl dX3_camp_73 ?_
          refine z_aload_n C (pc := 76) dX3_camp_76 rfl ?_
          refine z_get C (pc := 77) 0 rfl rfl wf_X3 1 (by decide) rfl wl_X3_19 (v := .ref (a 3)) rfl dX3_camp_77 ?_
          refine z_calliF C (by exact fun _ => cW_ad) (runVN C (wc := (cW cI a (upd i 4 (nI (z.1 3 - 6))) r')) (pc := 80) (rY' := rm 0 0) (nn := 0) (As := []) (rest := [.ref (a 6)]) (c_all l D cI tt a (upd i 4 (nI (z.1 3 - 6))) r' (z.1 3 - 6) upd_s (by omega)) (full_hC _) (full_nd _) ⟨rfl, rfl, ⟨Nat.le_of_ble_eq_true rfl, Nat.le_of_ble_eq_true rfl⟩, Nat.le_of_ble_eq_true rfl, Nat.le_of_ble_eq_true rfl⟩ wl_X3_70 wm_X1_all we_X1_all wi_X1 wc_X1_all (by decide +kernel) rfl 3 rfl rfl rfl rfl (Nat.le_of_ble_eq_true rfl) dX3_camp_80) (fun q_4 u_4 h_4 => ?_)
          subst h_4
          refine z_ws (st' := [.int (nI (2 ^ (z.1 3 - 6) - 1)), .ref (a 6)]) (ws' := (cW cI a (upd i 4 (nI (z.1 3 - 6))) r')) rfl rfl ?_
          refine z_callvF C (by exact fun _ => cW_ad) (runVN C (wc := (cW cI a (upd i 4 (nI (z.1 3 - 6))) r')) (pc := 83) (rY' := rm 0 0) (nn := 1) (As := [.int (nI (2 ^ (z.1 3 - 6) - 1))]) (rest := []) (c_begin l D cI tt a (upd i 4 (nI (z.1 3 - 6))) r' (nI (2 ^ (z.1 3 - 6) - 1))) (full_hC _) (full_nd _) ⟨rfl, rfl, ⟨Nat.le_of_ble_eq_true rfl, Nat.le_of_ble_eq_true rfl⟩, Nat.le_of_ble_eq_true rfl, Nat.le_of_ble_eq_true rfl⟩ wl_X3_73 wm_X2_begin we_X2_begin wi_X2 wc_X2_begin (by decide +kernel) rfl 6 rfl rfl rfl rfl (Nat.le_of_ble_eq_true rfl) dX3_camp_83) (fun u_5 h_5 => ?_)
          obtain ⟨iB, rB⟩ := u_5
          obtain ⟨e1, e2⟩ := Prod.mk.inj h_5
          subst e1
          have e3 := e2.symm
          subst e3
          refine z_ws (st' := []) (ws' := (cW cI a (upd (upd (upd (upd (upd i 4 (nI (z.1 3 - 6))) 10 (nI (2 ^ (z.1 3 - 6) - 1))) 11 0) 12 0) 13 0) r')) rfl rfl ?_
          refine z_iconst C (pc := 86) (v := 0) dX3_camp_86 (by decide) ?_
          refine z_istore_n C (pc := 87) (lv' := [(0, .ref (a 0)), (1, .int 0)]) dX3_camp_87 (Nat.le_of_ble_eq_true rfl) rfl rfl ?_
          have key88 : ∀ (fu88 : Nat) (j : Nat) (r2 : Nat → Nat → Int32), 5 - j < fu88 → (j ≤ 5) → (∀ q, q ≠ 1 → q ≠ 3 → r2 q = r q) → (∀ k, k < (z.1 3 - 6) → r2 1 k = nI (kdn (z.2.2 k))) → (∀ k, k < j → r2 3 k = nI (fdn (z.2.2 (z.1 3 - 5 + k)))) → Z pP l eE (rm 4 86) sS mM aV bB mE cC D AA 2 0 0 (MQ bB (va_Qi (S := ((Nat → Int32) × (Nat → Nat → Int32))) (fun q u => q = (campF z).1 ∧ Cls (campF z).2 u.1 u.2) (fun u t => va_P D vwCl ((fun u => cW cI a u.1 u.2) u) t.heap) AA) aV sS 0 0 AA) 88 [(0, .ref (a 0)), (1, .int (nI j))] [] (cW cI a (upd (upd (upd (upd (upd i 4 (nI (z.1 3 - 6))) 10 (nI (2 ^ (z.1 3 - 6) - 1))) 11 0) 12 0) 13 0) r2) := by
            intro fu88
            induction fu88 with
            | zero => intro j r2 hfu88; exact absurd hfu88 (Nat.not_lt_zero _)
            | succ fu88 ih88 =>
              intro j r2 hfu88 hj5 hr2 hr3 hr4
              refine z_iload_n C (pc := 88) dX3_camp_88 rfl ?_
              refine z_iconst C (pc := 89) (v := 5) dX3_camp_89 (by decide) ?_
              refine z_icmp_ge C (pc := 90) (tgt := 131) dX3_camp_90 (by decide) (fun c_6 => ?_) (fun c_6 => ?_)
              · have hje : j = 5 := by
                  have := ge_of_nI (n := 5) c_6 (by decide)
                  omega
                subst hje
                refine z_lv (lv' := [(0, .ref (a 0))]) ⟨rfl, trivial⟩ ?_
                refine z_aload_n C (pc := 131) dX3_camp_131 rfl ?_
                refine z_iconst C (pc := 132) (v := 0) dX3_camp_132 (by decide) ?_
                refine z_put C (pc := 133) 0 rfl rfl wf_X3 5 (by decide) rfl tyX3 tyX3_ok nmX3 rfl rfl rfl (Nat.le_of_ble_eq_true rfl) (ws' := (cW cI a (upd (upd (upd (upd (upd (upd i 4 (nI (z.1 3 - 6))) 10 (nI (2 ^ (z.1 3 - 6) - 1))) 11 0) 12 0) 13 0) 0 0) r2)) rfl wl_X3_80 dX3_camp_133 ?_
                refine z_aload_n C (pc := 136) dX3_camp_136 rfl ?_
                refine z_dup C (pc := 137) dX3_camp_137 rfl ?_
                refine z_get C (pc := 138) 0 rfl rfl wf_X3 6 (by decide) rfl wl_X3_84 (v := .int (i 1)) rfl dX3_camp_138 ?_
                refine z_iconst C (pc := 141) (v := 1) dX3_camp_141 (by decide) ?_
                refine z_iadd C (pc := 142) dX3_camp_142 ?_
                refine z_put C (pc := 143) 0 rfl rfl wf_X3 6 (by decide) rfl tyX3 tyX3_ok nmX3 rfl rfl rfl (Nat.le_of_ble_eq_true rfl) (ws' := (cW cI a (upd (upd (upd (upd (upd (upd (upd i 4 (nI (z.1 3 - 6))) 10 (nI (2 ^ (z.1 3 - 6) - 1))) 11 0) 12 0) 13 0) 0 0) 1 ((i 1) + 1)) r2)) rfl wl_X3_84 dX3_camp_143 ?_
                refine z_aload_n C (pc := 146) dX3_camp_146 rfl ?_
                refine z_get C (pc := 147) 0 rfl rfl wf_X3 0 (by decide) rfl wl_X3_10 (v := .ref (a 1)) rfl dX3_camp_147 ?_
                refine z_iconst C (pc := 150) (v := 0) dX3_camp_150 (by decide) ?_
                refine z_putN C (pc := 151) 1 rfl rfl wf_X0 1 (by decide) rfl tyX0 tyX0_ok nmX0 rfl rfl rfl (Nat.le_of_ble_eq_true rfl) (ws' := (cW cI a (upd (upd (upd (upd (upd (upd (upd (upd i 4 (nI (z.1 3 - 6))) 10 (nI (2 ^ (z.1 3 - 6) - 1))) 11 0) 12 0) 13 0) 0 0) 1 ((i 1) + 1)) 3 0) r2)) rfl wl_X3_41 dX3_camp_151 ?_
                refine z_aload_n C (pc := 154) dX3_camp_154 rfl ?_
                refine z_get C (pc := 155) 0 rfl rfl wf_X3 1 (by decide) rfl wl_X3_19 (v := .ref (a 3)) rfl dX3_camp_155 ?_
                refine z_getN C (pc := 158) 3 rfl rfl wf_X1 1 (by decide) rfl wl_X3_53 (v := .int (nI (z.1 3 - 6))) rfl dX3_camp_158 ?_
                refine z_iret C (pc := 161) ((upd (upd (upd (upd (upd (upd (upd (upd i 4 (nI (z.1 3 - 6))) 10 (nI (2 ^ (z.1 3 - 6) - 1))) 11 0) 12 0) 13 0) 0 0) 1 ((i 1) + 1)) 3 0), r2) dX3_camp_161 ?_ rfl
                exact ⟨by unfold campF; rw [if_pos hb], cl_camp hz hb rfl rfl hr3 hr4⟩
              · have hj : j < 5 := lt_of_nI (n := 5) c_6 (by omega)
                refine z_aload_n C (pc := 93) dX3_camp_93 rfl ?_
                refine z_get C (pc := 94) 0 rfl rfl wf_X3 2 (by decide) rfl wl_X3_26 (v := .ref (a 6)) rfl dX3_camp_94 ?_
                refine z_getN C (pc := 97) 6 rfl rfl wf_X2 1 (by decide) rfl wl_X3_77 (v := .ref (a 7)) rfl dX3_camp_97 ?_
                refine z_iload_n C (pc := 100) dX3_camp_100 rfl ?_
                refine z_aload_n C (pc := 101) dX3_camp_101 rfl ?_
                refine z_get C (pc := 102) 0 rfl rfl wf_X3 0 (by decide) rfl wl_X3_10 (v := .ref (a 1)) rfl dX3_camp_102 ?_
                refine z_aload_n C (pc := 105) dX3_camp_105 rfl ?_
                refine z_get C (pc := 106) 0 rfl rfl wf_X3 1 (by decide) rfl wl_X3_19 (v := .ref (a 3)) rfl dX3_camp_106 ?_
                refine z_getN C (pc := 109) 3 rfl rfl wf_X1 1 (by decide) rfl wl_X3_53 (v := .int (nI (z.1 3 - 6))) rfl dX3_camp_109 ?_
                refine z_iconst C (pc := 112) (v := 1) dX3_camp_112 (by decide) ?_
                refine z_iadd C (pc := 113) dX3_camp_113 ?_
                refine z_iload_n C (pc := 114) dX3_camp_114 rfl ?_
                refine z_iadd C (pc := 115) dX3_camp_115 ?_
                refine z_seti (y := nI (z.1 3 - 5 + j)) (by rw [show (1 : Int32) = nI 1 from rfl, nI_add, nI_add, show z.1 3 - 6 + 1 + j = z.1 3 - 5 + j by omega]) ?_
                refine z_calliF C (by exact fun _ => cW_ad) (runVN C (wc := (cW cI a (upd (upd (upd (upd (upd i 4 (nI (z.1 3 - 6))) 10 (nI (2 ^ (z.1 3 - 6) - 1))) 11 0) 12 0) 13 0) r2)) (pc := 116) (rY' := rm 1 21) (nn := 1) (As := [.int (nI (z.1 3 - 5 + j))]) (rest := [.int (nI j), .ref (a 7)]) (c_codeAt l D cI tt a (upd (upd (upd (upd (upd i 4 (nI (z.1 3 - 6))) 10 (nI (2 ^ (z.1 3 - 6) - 1))) 11 0) 12 0) 13 0) r2 (nI (z.1 3 - 5 + j))) (full_hC _) (full_nd _) ⟨rfl, rfl, ⟨Nat.le_of_ble_eq_true rfl, Nat.le_of_ble_eq_true rfl⟩, Nat.le_of_ble_eq_true rfl, Nat.le_of_ble_eq_true rfl⟩ wl_X3_59 wm_X0_codeAt we_X0_codeAt wi_X0 wc_X0_codeAt (by decide +kernel) rfl 1 rfl rfl rfl rfl (Nat.le_of_ble_eq_true rfl) dX3_camp_116) (fun q_7 u_7 h_7 => ?_)
                have h_7 : q_7 = z.2.2 (z.1 3 - 5 + j) := h_7.trans ((atv_nI (by omega) (by decide)).trans ((congrFun (hr2 0 (by decide) (by decide)) _).trans (hz.2.1.1 _ (by omega))))
                subst h_7
                refine z_ws (st' := [.int (z.2.2 (z.1 3 - 5 + j)), .int (nI j), .ref (a 7)]) (ws' := (cW cI a (upd (upd (upd (upd (upd i 4 (nI (z.1 3 - 6))) 10 (nI (2 ^ (z.1 3 - 6) - 1))) 11 0) 12 0) 13 0) r2)) rfl rfl ?_
                refine z_bipush C (pc := 119) (v := 48) dX3_camp_119 (by decide) ?_
                refine z_isub C (pc := 121) dX3_camp_121 ?_
                refine z_seti (y := nI (fdn (z.2.2 (z.1 3 - 5 + j)))) (f4 j hj).1 ?_
                refine z_callv C (isC := [7]) rfl (by exact fun _ => rfl) (runS C (wc := [(a 7, .inl (cI, 5, .inl (r2 3)))]) (pc := 122) (rY' := rm 0 0) (nn := 3) (As := [.ref (a 7), .int (nI j), .int (nI (fdn (z.2.2 (z.1 3 - 5 + j))))]) (rest := []) (c_put l D cI tt (a 7) 5 (r2 3) (nI j) (nI (fdn (z.2.2 (z.1 3 - 5 + j)))) (by decide)) rfl rfl ⟨rfl, rfl, ⟨Nat.le_of_ble_eq_true rfl, Nat.le_of_ble_eq_true rfl⟩, Nat.le_of_ble_eq_true rfl, Nat.le_of_ble_eq_true rfl⟩ wl_X3_66 ws_X3_put wi_X3 wc_X3_put (by decide +kernel) rfl rfl (Nat.le_of_ble_eq_true rfl) dX3_camp_122) (fun u_8 h_8 => ?_)
                subst h_8
                refine z_ws (st' := []) (ws' := (cW cI a (upd (upd (upd (upd (upd i 4 (nI (z.1 3 - 6))) 10 (nI (2 ^ (z.1 3 - 6) - 1))) 11 0) 12 0) 13 0) (va_up r2 3 (putv 5 (r2 3) (nI j) (nI (fdn (z.2.2 (z.1 3 - 5 + j)))))))) rfl rfl ?_
                refine z_iinc C (pc := 125) (v := ((nI j) + 1)) (lv' := [(0, .ref (a 0)), (1, .int ((nI j) + 1))]) dX3_camp_125 rfl rfl (Nat.le_of_ble_eq_true rfl) rfl rfl ?_
                refine z_goto C (pc := 128) (tgt := 88) dX3_camp_128 (by decide) ?_
                refine z_lv (lv' := [(0, .ref (a 0)), (1, .int (nI (j + 1)))]) ⟨rfl, lki (nI_1 j), trivial⟩ ?_
                exact ih88 (j + 1) (va_up r2 3 (putv 5 (r2 3) (nI j) (nI (fdn (z.2.2 (z.1 3 - 5 + j)))))) (by omega) hj (fun q h h3 => (vup_n h3).trans (hr2 q h h3)) (fun k hk => by rw [vup_n (by decide)]; exact hr3 k hk) (fun k hk => by rw [vup_s, putv_nI (by omega) (by decide)]; unfold upd; by_cases e : k = j; (rw [if_pos e, e]); (rw [if_neg e]; exact hr4 k (by omega)))
          refine z_lv (lv' := [(0, .ref (a 0)), (1, .int (nI 0))]) ⟨rfl, rfl, trivial⟩ ?_
          exact key88 (_ + 1) 0 r' (Nat.lt_succ_self _) (Nat.zero_le _) (fun q h _ => hr0 q h) hr1 (fun j h => absurd h (Nat.not_lt_zero j))
        · have hk : k < (z.1 3 - 6) := lt_of_nI c_3 (by omega)
          refine z_aload_n C (pc := 44) dX3_camp_44 rfl ?_
          refine z_get C (pc := 45) 0 rfl rfl wf_X3 1 (by decide) rfl wl_X3_19 (v := .ref (a 3)) rfl dX3_camp_45 ?_
          refine z_getN C (pc := 48) 3 rfl rfl wf_X1 0 (by decide) rfl wl_X3_56 (v := .ref (a 4)) rfl dX3_camp_48 ?_
          refine z_iload_n C (pc := 51) dX3_camp_51 rfl ?_
          refine z_aload_n C (pc := 52) dX3_camp_52 rfl ?_
          refine z_get C (pc := 53) 0 rfl rfl wf_X3 0 (by decide) rfl wl_X3_10 (v := .ref (a 1)) rfl dX3_camp_53 ?_
          refine z_iload_n C (pc := 56) dX3_camp_56 rfl ?_
          refine z_calliF C (by exact fun _ => cW_ad) (runVN C (wc := (cW cI a (upd i 4 (nI (z.1 3 - 6))) r')) (pc := 57) (rY' := rm 1 21) (nn := 1) (As := [.int (nI k)]) (rest := [.int (nI k), .ref (a 4)]) (c_codeAt l D cI tt a (upd i 4 (nI (z.1 3 - 6))) r' (nI k)) (full_hC _) (full_nd _) ⟨rfl, rfl, ⟨Nat.le_of_ble_eq_true rfl, Nat.le_of_ble_eq_true rfl⟩, Nat.le_of_ble_eq_true rfl, Nat.le_of_ble_eq_true rfl⟩ wl_X3_59 wm_X0_codeAt we_X0_codeAt wi_X0 wc_X0_codeAt (by decide +kernel) rfl 1 rfl rfl rfl rfl (Nat.le_of_ble_eq_true rfl) dX3_camp_57) (fun q_9 u_9 h_9 => ?_)
          have h_9 : q_9 = z.2.2 k := h_9.trans ((atv_nI (by omega) (by decide)).trans ((congrFun (hr0 0 (by decide)) k).trans (hz.2.1.1 k (by omega))))
          subst h_9
          refine z_ws (st' := [.int (z.2.2 k), .int (nI k), .ref (a 4)]) (ws' := (cW cI a (upd i 4 (nI (z.1 3 - 6))) r')) rfl rfl ?_
          refine z_calli C (isC := []) rfl (by exact fun _ => rfl) (runS C (wc := []) (pc := 60) (rY' := rm 0 0) (nn := 1) (As := [.int (z.2.2 k)]) (rest := [.int (nI k), .ref (a 4)]) (c_kindOf l D cI tt (z.2.2 k)) rfl rfl ⟨rfl, rfl, ⟨Nat.le_of_ble_eq_true rfl, Nat.le_of_ble_eq_true rfl⟩, Nat.le_of_ble_eq_true rfl, Nat.le_of_ble_eq_true rfl⟩ wl_X3_63 ws_X3_kindOf wi_X3 wc_X3_kindOf (by decide +kernel) rfl rfl (Nat.le_of_ble_eq_true rfl) dX3_camp_60) (fun r_10 u_10 h_10 => ?_)
          have h_10 : r_10 = nI (kdn (z.2.2 k)) := h_10.trans (f3 k hk).1
          subst h_10
          refine z_ws (st' := [.int (nI (kdn (z.2.2 k))), .int (nI k), .ref (a 4)]) (ws' := (cW cI a (upd i 4 (nI (z.1 3 - 6))) r')) rfl rfl ?_
          refine z_callv C (isC := [4]) rfl (by exact fun _ => rfl) (runS C (wc := [(a 4, .inl (cI, 6, .inl (r' 1)))]) (pc := 63) (rY' := rm 0 0) (nn := 3) (As := [.ref (a 4), .int (nI k), .int (nI (kdn (z.2.2 k)))]) (rest := []) (c_put l D cI tt (a 4) 6 (r' 1) (nI k) (nI (kdn (z.2.2 k))) (by decide)) rfl rfl ⟨rfl, rfl, ⟨Nat.le_of_ble_eq_true rfl, Nat.le_of_ble_eq_true rfl⟩, Nat.le_of_ble_eq_true rfl, Nat.le_of_ble_eq_true rfl⟩ wl_X3_66 ws_X3_put wi_X3 wc_X3_put (by decide +kernel) rfl rfl (Nat.le_of_ble_eq_true rfl) dX3_camp_63) (fun u_11 h_11 => ?_)
          subst h_11
          refine z_ws (st' := []) (ws' := (cW cI a (upd i 4 (nI (z.1 3 - 6))) (va_up r' 1 (putv 6 (r' 1) (nI k) (nI (kdn (z.2.2 k))))))) rfl rfl ?_
          refine z_iinc C (pc := 66) (v := ((nI k) + 1)) (lv' := [(0, .ref (a 0)), (1, .int ((nI k) + 1))]) dX3_camp_66 rfl rfl (Nat.le_of_ble_eq_true rfl) rfl rfl ?_
          refine z_goto C (pc := 69) (tgt := 33) dX3_camp_69 (by decide) ?_
          refine z_lv (lv' := [(0, .ref (a 0)), (1, .int (nI (k + 1)))]) ⟨rfl, lki (nI_1 k), trivial⟩ ?_
          exact ih33 (k + 1) (va_up r' 1 (putv 6 (r' 1) (nI k) (nI (kdn (z.2.2 k))))) (by omega) hk (fun q hq => (vup_n hq).trans (hr0 q hq)) (fun j hj => by rw [vup_s, putv_nI (by omega) (by decide)]; unfold upd; by_cases e : j = k; (rw [if_pos e, e]); (rw [if_neg e]; exact hr1 j (by omega)))
    refine z_lv (lv' := [(0, .ref (a 0)), (1, .int (nI 0))]) ⟨rfl, rfl, trivial⟩ ?_
    exact key33 (_ + 1) 0 r (Nat.lt_succ_self _) (Nat.zero_le _) (fun _ _ => rfl) (fun j h => absurd h (Nat.not_lt_zero j))
  · have hb := b2_f (h_1 ▸ c_2)
    rw [campb_congr hz.2.1.1] at hb
    refine z_bipush C (pc := 10) (v := (-103)) dX3_camp_10 (by decide) ?_
    refine z_iret C (pc := 12) (i, r) dX3_camp_12 ?_ rfl
    rw [show campF z = (-103, z) from if_neg (by rw [hb]; decide)]
    exact ⟨rfl, hz⟩
end
section
/-! new arrays: the cell stands at the world's end -/
section ZA
variable {p : Program} {l : Launch} {e : Env} {R : Room} {s : State} {m : MethodId} {args : Array Value} {below : List Frame} {meth : Method} {c : Code} {D : va_G} {A : Nat → Prop} {n ce sl : Nat} {Q : State → Prop} {own : String} {cc : ByteArray} {rt : Option FieldType} {cI : ClassId} {tt : Nat × Nat × Nat} {pc : Nat} {lv : List (Nat × Value)} {st : List Value} {ws : va_W}
theorem z_newa (C : Cx p s m args meth c own cc n rt D cI tt A) {N : Nat} {v : Int32} (hn : ¬ v < 0) (hN : v.toNatClampNeg = N) (hb : N * 4 ≤ 536870912) (hc : ce + 1 ≤ R.cells) (hs : sl + N ≤ R.slots) (hd : decode cc pc = .ok (.newarray .int, 2))
    (k : ∀ q : Nat, Z p l e R s m args below meth c D A n (ce + 1) (sl + N) Q (pc + 2) lv (.ref q :: st) (ws ++ [(q, .inl (cI, N, .inl (fun _ => 0)))])) : Z p l e R s m args below meth c D A n ce sl Q pc lv (.int v :: st) ws := fun H locs ls h1 h2 h3 h4 => by
  refine va_newaK (atype := .int) C.1 C.2.1 (C.2.2.2.2.1 _ w_arr) rfl hd rfl hn hN hb hc hs rfl fun H1 cA e1 z1 o1 hAr hNm => ?_
  have ec : cA = cI := Option.some.inj (hNm.symm.trans (C.2.2.2.2.2.1.2 0 (cI, .int) rfl).2)
  subst ec
  refine k H.size H1 locs ls (va_P.app (h1.kept (fun j x hx => o1 x.1 ((h1 j x hx).lt))) (fun j x hx => ?_)) (h2.push h1 rfl (C.2.2.2.2.2.2.2.2.2.2 _ h3.1)) ⟨Nat.le_trans h3.1 (by omega), fun x a b => (o1 x (Nat.lt_of_lt_of_le a h3.1)).trans (h3.2.1 x a b), h3.2.2⟩ h4
  have hz : j < 1 := (List.getElem?_eq_some_iff.mp hx).1
  rw [show j = 0 by omega] at hx
  cases hx
  exact e1
theorem z_objInit (C : Cx p s m args meth c own cc n rt D cI tt A) {idx : Nat} (hw : Cond.methodLink own idx objectInit ∈ TB) {a : Nat} (hf : 1 ≤ R.frames) (hst : (st.map fun v => v.category).sum ≤ 8) (hl : 20 ≤ R.locals) (hd : decode cc pc = .ok (.invokespecial idx, 3))
    (k : Z p l e R s m args below meth c D A n ce sl Q (pc + 3) lv st ws) : Z p l e R s m args below meth c D A n ce sl Q pc lv (.ref a :: st) ws := fun H locs ls h1 h2 h3 h4 =>
  W.objInit C.1 C.2.1 C.2.2.2.1 (C.2.2.2.2.1 _ hw) (C.2.2.2.2.1 _ wm_obj) (C.2.2.2.2.1 _ wc_obj) rfl (h4.1.trans C.2.2.1.symm) rfl hd hf (by have := lv_room (m := m) (pc := pc) (ls := ls) (rest := .ref a :: st) (st := st) hst; omega) (k H locs ls h1 h2 h3 h4)
theorem z_vretN {S : Type} {post : S → Prop} {wf : S → va_W} (C : Cx p s m args meth c own cc n none D cI tt A) (u : S) (hd : decode cc pc = .ok (.return_, 1)) (hp : post u) (hw : wf u = ws) : Z p l e R s m args below meth c D A n ce sl (MQ below (va_Qv post (fun u t => va_P D vwCl (wf u) t.heap ∧ va_D A (wf u)) A) args s ce sl A) pc lv [] ws := by
  subst hw
  exact fun H locs ls h1 h2 h3 h4 => W.vret C.1 C.2.1 C.2.2.2.2.2.2.2.2.1 (fun t ht hW => ⟨⟨u, rfl, hp, by show va_P D vwCl (wf u) t.heap; rw [ht]; exact h1, h2⟩, h3.F ht⟩) h3.2.2 hd C.2.2.2.2.2.2.2.2.2.1
end ZA
/-- a constructor: mc cells and ms slots are new behind it -/
abbrev MetN {S : Type} (l : Launch) (y : MethodName) (cc : ByteArray) (n : Nat) (R : Room) (D : va_G) (cI : ClassId) (tt : Nat × Nat × Nat) (av : List Value) (ws : va_W) (mc ms : Nat) (post : S → Prop) (wf : S → va_W) : Prop :=
  ∀ sz : Nat, Met l y (.code y cc n none :: TB) R (va_Pc av (Pre D cI tt ws sz)) (va_Qv post (fun u t => va_P D vwCl (wf u) t.heap ∧ va_D (va_A ws sz) (wf u)) (va_A ws sz)) mc ms (va_A ws sz)
theorem met_ofN {S : Type} {l : Launch} {y : MethodName} {cc : ByteArray} {nY : Nat} {R : Room} {D : va_G} {cI : ClassId} {tt : Nat × Nat × Nat} {av : List Value} {ws : va_W} {mc ms : Nat} {post : S → Prop} {wf : S → va_W} (hy : plainName y.cls = true) (hn : (lg_sl av).length ≤ nY)
    (body : ∀ (p : Program) (e : Env) (s : State) (m : MethodId) (args : Array Value) (below : List Frame) (meth : Method) (c : Code) (A : Nat → Prop), Cx p s m args meth c y.cls cc nY none D cI tt A → (y.name = "<init>" → meth.name = "<init>") → Z p l e R s m args below meth c D A nY 0 0 (MQ below (va_Qv post (fun u t => va_P D vwCl (wf u) t.heap ∧ va_D A (wf u)) A) args s mc ms A) 0 (lv_args 0 av) [] ws) :
    MetN l y cc nY R D cI tt av ws mc ms post wf := fun sz => by
  refine Met.ofW (cc := cc) (maxL := nY) (ret := none) hy rfl ?_
  intro p e s m args below meth c s₁ B hml hv
  obtain ⟨rfl, hsz, hP, hD, hK, hN, hST⟩ := hv
  have hts : ∀ w ∈ (.code y cc nY none :: TB : List Cond), w.before av.toArray s = true := atoms_spec (ws := .code y cc nY none :: TB) B.pre
  have hown : s.vm.findClass y.cls = some m.cls := findClass_of_methodNamed B.named
  subst hsz
  have hl := lv_entry av (n := nY) hn
  rw [lg_entry_eq]
  exact body p e s m av.toArray below meth c (va_A ws s.heap.size) ⟨B.exec, B.bytes, hml, hown, fun w hw => hts w (List.mem_cons_of_mem _ hw), hK, hN, hST, B.returns, B.notSynchronized, fun q hq => Or.inr hq⟩ (fun h => by rw [← h]; exact (name_of_methodNamed B.named B.method).1) s.heap [] _ hP hD.self va_S.rf hl
theorem n_page (l : Launch) (D : va_G) (cI : ClassId) (tt : Nat × Nat × Nat) (a : Nat) : MetN (S := Nat) l yX0_init cX0_init 1 { frames := 1, cells := 1, slots := 15, locals := 20 } D cI tt [.ref a] [(a, .inr (0, [.null, .int 0]))] 1 15 (fun _ => True) (fun q => [(a, .inr (0, [.ref q, .int 0])), (q, .inl (cI, 15, .inl (fun _ => 0)))]) := by
  refine met_ofN (by decide) (Nat.le_of_ble_eq_true rfl) ?_
  intro pP eE sS mM aV bB mE cC AA C hin
  refine z_conv (lv' := [(0, .ref a)]) ⟨rfl, trivial⟩ rfl rfl ?_
  refine z_aload_n C (pc := 0) dX0_init_0 rfl ?_
  refine z_objInit C (pc := 1) wl_X0_3 (by decide) (by decide) (by decide) dX0_init_1 ?_
  refine z_aload_n C (pc := 4) dX0_init_4 rfl ?_
  refine z_bipush C (pc := 5) (v := 15) dX0_init_5 (by decide) ?_
  refine z_newa C (pc := 7) (N := 15) (by decide) (by decide) (by decide) (Nat.le_of_ble_eq_true rfl) (Nat.le_of_ble_eq_true rfl) dX0_init_7 (fun q => ?_)
  refine z_putF C (pc := 9) 0 rfl rfl wf_X0 0 (by decide) rfl tyX0 tyX0_ok nmX0 rfl rfl rfl (Nat.le_of_ble_eq_true rfl) (ws' := [(a, .inr (0, [.ref q, .int 0])), (q, .inl (cI, 15, .inl (fun _ => 0)))]) rfl wl_X0_9 (hin rfl) rfl dX0_init_9 ?_
  exact z_vretN C (pc := 12) q dX0_init_12 trivial rfl
end
section
set_option maxHeartbeats 4000000 in
theorem n_party (l : Launch) (D : va_G) (cI : ClassId) (tt : Nat × Nat × Nat) (a : Nat) : MetN (S := Nat → Nat) l yX1_init cX1_init 1 { frames := 1, cells := 2, slots := 11, locals := 20 } D cI tt [.ref a] [(a, .inr (1, [.null, .int 0, .null, .int 0, .int 0, .int 0, .int 0, .int 0]))] 2 11 (fun _ => True) (fun q => [(a, .inr (1, [.ref (q 0), .int 0, .ref (q 1), .int 0, .int 0, .int 0, .int 0, .int 0])), ((q 0), .inl (cI, 6, .inl (fun _ => 0))), ((q 1), .inl (cI, 5, .inl (fun _ => 0)))]) := by
  refine met_ofN (by decide) (Nat.le_of_ble_eq_true rfl) ?_
  intro pP eE sS mM aV bB mE cC AA C hin
  refine z_conv (lv' := [(0, .ref a)]) ⟨rfl, trivial⟩ rfl rfl ?_
  refine z_aload_n C (pc := 0) dX1_init_0 rfl ?_
  refine z_objInit C (pc := 1) wl_X1_3 (by decide) (by decide) (by decide) dX1_init_1 ?_
  refine z_aload_n C (pc := 4) dX1_init_4 rfl ?_
  refine z_bipush C (pc := 5) (v := 6) dX1_init_5 (by decide) ?_
  refine z_newa C (pc := 7) (N := 6) (by decide) (by decide) (by decide) (Nat.le_of_ble_eq_true rfl) (Nat.le_of_ble_eq_true rfl) dX1_init_7 (fun q0 => ?_)
  refine z_putF C (pc := 9) 0 rfl rfl wf_X1 0 (by decide) rfl tyX1 tyX1_ok nmX1 rfl rfl rfl (Nat.le_of_ble_eq_true rfl) (ws' := [(a, .inr (1, [.ref q0, .int 0, .null, .int 0, .int 0, .int 0, .int 0, .int 0])), (q0, .inl (cI, 6, .inl (fun _ => 0)))]) rfl wl_X1_9 (hin rfl) rfl dX1_init_9 ?_
  refine z_aload_n C (pc := 12) dX1_init_12 rfl ?_
  refine z_iconst C (pc := 13) (v := 5) dX1_init_13 (by decide) ?_
  refine z_newa C (pc := 14) (N := 5) (by decide) (by decide) (by decide) (Nat.le_of_ble_eq_true rfl) (Nat.le_of_ble_eq_true rfl) dX1_init_14 (fun q1 => ?_)
  refine z_putF C (pc := 16) 0 rfl rfl wf_X1 2 (by decide) rfl tyX1 tyX1_ok nmX1 rfl rfl rfl (Nat.le_of_ble_eq_true rfl) (ws' := [(a, .inr (1, [.ref q0, .int 0, .ref q1, .int 0, .int 0, .int 0, .int 0, .int 0])), (q0, .inl (cI, 6, .inl (fun _ => 0))), (q1, .inl (cI, 5, .inl (fun _ => 0)))]) rfl wl_X1_15 (hin rfl) rfl dX1_init_16 ?_
  exact z_vretN C (pc := 19) (fun k => match k with | 0 => q0 | _ => q1) dX1_init_19 trivial rfl

set_option maxHeartbeats 4000000 in
theorem n_standing (l : Launch) (D : va_G) (cI : ClassId) (tt : Nat × Nat × Nat) (a : Nat) : MetN (S := Nat → Nat) l yX2_init cX2_init 1 { frames := 1, cells := 5, slots := 29, locals := 20 } D cI tt [.ref a] [(a, .inr (2, [.int 0, .null, .int 0, .int 0, .int 0, .null, .null, .null, .null]))] 5 29 (fun _ => True) (fun q => [(a, .inr (2, [.int 0, .ref (q 0), .int 0, .int 0, .int 0, .ref (q 1), .ref (q 2), .ref (q 3), .ref (q 4)])), ((q 0), .inl (cI, 5, .inl (fun _ => 0))), ((q 1), .inl (cI, 6, .inl (fun _ => 0))), ((q 2), .inl (cI, 6, .inl (fun _ => 0))), ((q 3), .inl (cI, 6, .inl (fun _ => 0))), ((q 4), .inl (cI, 6, .inl (fun _ => 0)))]) := by
  refine met_ofN (by decide) (Nat.le_of_ble_eq_true rfl) ?_
  intro pP eE sS mM aV bB mE cC AA C hin
  refine z_conv (lv' := [(0, .ref a)]) ⟨rfl, trivial⟩ rfl rfl ?_
  refine z_aload_n C (pc := 0) dX2_init_0 rfl ?_
  refine z_objInit C (pc := 1) wl_X2_3 (by decide) (by decide) (by decide) dX2_init_1 ?_
  refine z_aload_n C (pc := 4) dX2_init_4 rfl ?_
  refine z_iconst C (pc := 5) (v := 5) dX2_init_5 (by decide) ?_
  refine z_newa C (pc := 6) (N := 5) (by decide) (by decide) (by decide) (Nat.le_of_ble_eq_true rfl) (Nat.le_of_ble_eq_true rfl) dX2_init_6 (fun q0 => ?_)
  refine z_putF C (pc := 8) 0 rfl rfl wf_X2 1 (by decide) rfl tyX2 tyX2_ok nmX2 rfl rfl rfl (Nat.le_of_ble_eq_true rfl) (ws' := [(a, .inr (2, [.int 0, .ref q0, .int 0, .int 0, .int 0, .null, .null, .null, .null])), (q0, .inl (cI, 5, .inl (fun _ => 0)))]) rfl wl_X2_9 (hin rfl) rfl dX2_init_8 ?_
  refine z_aload_n C (pc := 11) dX2_init_11 rfl ?_
  refine z_bipush C (pc := 12) (v := 6) dX2_init_12 (by decide) ?_
  refine z_newa C (pc := 14) (N := 6) (by decide) (by decide) (by decide) (Nat.le_of_ble_eq_true rfl) (Nat.le_of_ble_eq_true rfl) dX2_init_14 (fun q1 => ?_)
  refine z_putF C (pc := 16) 0 rfl rfl wf_X2 5 (by decide) rfl tyX2 tyX2_ok nmX2 rfl rfl rfl (Nat.le_of_ble_eq_true rfl) (ws' := [(a, .inr (2, [.int 0, .ref q0, .int 0, .int 0, .int 0, .ref q1, .null, .null, .null])), (q0, .inl (cI, 5, .inl (fun _ => 0))), (q1, .inl (cI, 6, .inl (fun _ => 0)))]) rfl wl_X2_15 (hin rfl) rfl dX2_init_16 ?_
  refine z_aload_n C (pc := 19) dX2_init_19 rfl ?_
  refine z_bipush C (pc := 20) (v := 6) dX2_init_20 (by decide) ?_
  refine z_newa C (pc := 22) (N := 6) (by decide) (by decide) (by decide) (Nat.le_of_ble_eq_true rfl) (Nat.le_of_ble_eq_true rfl) dX2_init_22 (fun q2 => ?_)
  refine z_putF C (pc := 24) 0 rfl rfl wf_X2 6 (by decide) rfl tyX2 tyX2_ok nmX2 rfl rfl rfl (Nat.le_of_ble_eq_true rfl) (ws' := [(a, .inr (2, [.int 0, .ref q0, .int 0, .int 0, .int 0, .ref q1, .ref q2, .null, .null])), (q0, .inl (cI, 5, .inl (fun _ => 0))), (q1, .inl (cI, 6, .inl (fun _ => 0))), (q2, .inl (cI, 6, .inl (fun _ => 0)))]) rfl wl_X2_18 (hin rfl) rfl dX2_init_24 ?_
  refine z_aload_n C (pc := 27) dX2_init_27 rfl ?_
  refine z_bipush C (pc := 28) (v := 6) dX2_init_28 (by decide) ?_
  refine z_newa C (pc := 30) (N := 6) (by decide) (by decide) (by decide) (Nat.le_of_ble_eq_true rfl) (Nat.le_of_ble_eq_true rfl) dX2_init_30 (fun q3 => ?_)
  refine z_putF C (pc := 32) 0 rfl rfl wf_X2 7 (by decide) rfl tyX2 tyX2_ok nmX2 rfl rfl rfl (Nat.le_of_ble_eq_true rfl) (ws' := [(a, .inr (2, [.int 0, .ref q0, .int 0, .int 0, .int 0, .ref q1, .ref q2, .ref q3, .null])), (q0, .inl (cI, 5, .inl (fun _ => 0))), (q1, .inl (cI, 6, .inl (fun _ => 0))), (q2, .inl (cI, 6, .inl (fun _ => 0))), (q3, .inl (cI, 6, .inl (fun _ => 0)))]) rfl wl_X2_21 (hin rfl) rfl dX2_init_32 ?_
  refine z_aload_n C (pc := 35) dX2_init_35 rfl ?_
  refine z_bipush C (pc := 36) (v := 6) dX2_init_36 (by decide) ?_
  refine z_newa C (pc := 38) (N := 6) (by decide) (by decide) (by decide) (Nat.le_of_ble_eq_true rfl) (Nat.le_of_ble_eq_true rfl) dX2_init_38 (fun q4 => ?_)
  refine z_putF C (pc := 40) 0 rfl rfl wf_X2 8 (by decide) rfl tyX2 tyX2_ok nmX2 rfl rfl rfl (Nat.le_of_ble_eq_true rfl) (ws' := [(a, .inr (2, [.int 0, .ref q0, .int 0, .int 0, .int 0, .ref q1, .ref q2, .ref q3, .ref q4])), (q0, .inl (cI, 5, .inl (fun _ => 0))), (q1, .inl (cI, 6, .inl (fun _ => 0))), (q2, .inl (cI, 6, .inl (fun _ => 0))), (q3, .inl (cI, 6, .inl (fun _ => 0))), (q4, .inl (cI, 6, .inl (fun _ => 0)))]) rfl wl_X2_24 (hin rfl) rfl dX2_init_40 ?_
  exact z_vretN C (pc := 43) (fun k => match k with | 0 => q0 | 1 => q1 | 2 => q2 | 3 => q3 | _ => q4) dX2_init_43 trivial rfl
end
section
/-! the state of a new object -/
def z0 : SG := (fun _ => 0, fun _ _ => 0, fun _ => 0)
theorem vs_0 : VS z0 := by
  refine ⟨by decide, by decide, by decide, by decide, by decide, by decide, fun k hk => absurd hk (Nat.not_lt_zero k), fun k _ => Nat.zero_le _, fun k hk => absurd hk (Nat.not_lt_zero k), fun h => absurd h (by decide), by decide, by decide⟩
theorem cl_0 : Cls z0 (fun _ => 0) (fun _ _ => 0) := by
  refine ⟨⟨rfl, rfl, rfl, rfl, rfl, rfl, rfl, rfl, rfl⟩, ⟨fun _ _ => rfl, fun _ _ => rfl, fun _ _ => rfl, fun _ _ => ⟨rfl, rfl, rfl, rfl⟩⟩, fun h => absurd h (by decide)⟩
end
section
section ZB
variable {p : Program} {l : Launch} {e : Env} {R : Room} {s : State} {m : MethodId} {args : Array Value} {below : List Frame} {meth : Method} {c : Code} {D : va_G} {A : Nat → Prop} {n ce sl : Nat} {Q : State → Prop} {own : String} {cc : ByteArray} {rt : Option FieldType} {cI : ClassId} {tt : Nat × Nat × Nat} {pc : Nat} {lv : List (Nat × Value)} {st : List Value} {ws : va_W}
/-- a new object: its cell stands at the world's end -/
theorem z_new (C : Cx p s m args meth c own cc n rt D cI tt A) {CN : String} {T : u_T} {N ci index : Nat} (hc : vwCl[ci]? = some (CN, T, N)) (hin : ∀ w ∈ u_ws CN T N, w ∈ TB) (ty0 : Nat → FieldType) (hty : ∀ k, k < N → parseFieldDescriptor (T k).2.2.1 = some (ty0 k)) (hcl : Cond.classLink own index CN ∈ TB) (hinst : Cond.instantiable CN N ∈ TB) (hini : Cond.initialized CN ∈ TB) {fs : List Value} (hfs : ∀ j, j < N → defaultValue (ty0 j) = vp_V fs j) (hcells : ce + 1 ≤ R.cells) (hslots : sl + N ≤ R.slots) (hd : decode cc pc = .ok (.new index, 3))
    (k : ∀ q : Nat, Z p l e R s m args below meth c D A n (ce + 1) (sl + N) Q (pc + 3) lv (.ref q :: st) (ws ++ [(q, .inr (ci, fs))])) : Z p l e R s m args below meth c D A n ce sl Q pc lv st ws := fun H locs ls h1 h2 h3 h4 =>
  va_new C.1 C.2.1 C.2.2.2.2.1 hin ty0 hty C.2.2.2.1 (C.2.2.2.2.1 _ hcl) (C.2.2.2.2.1 _ hinst) (C.2.2.2.2.1 _ hini) C.2.2.2.2.2.1 h1 h2 h3 C.2.2.2.2.2.2.2.2.2.2 hc hfs hcells hslots hd (fun q H1 g1 g2 g3 => k q H1 locs ls g1 g2 g3 h4)
end ZB
end
section
/-! calls of constructors: what was beside the callee's cells, then what came back -/
section ZC
variable {p : Program} {l : Launch} {e : Env} {R : Room} {s : State} {m : MethodId} {args : Array Value} {below : List Frame} {meth : Method} {c : Code} {D : va_G} {A : Nat → Prop} {n ce sl : Nat} {Q : State → Prop} {own : String} {cc : ByteArray} {rt : Option FieldType} {cI : ClassId} {tt : Nat × Nat × Nat} {pc : Nat} {lv : List (Nat × Value)} {st : List Value} {ws : va_W}
variable {y : MethodName} {bytes : ByteArray} {nY : Nat} {rY' : Room} {wc wr : va_W} {isC isR : List Nat} {st0 rest : List Value} {idx mc ms : Nat} {Qa : Nat → Array Value → State → Outcome → State → Prop}
def RunsN (p : Program) (l : Launch) (e : Env) (R : Room) (s : State) (m : MethodId) (args : Array Value) (below : List Frame) (meth : Method) (c : Code) (D : va_G) (A : Nat → Prop) (n ce sl mc ms : Nat) (pc : Nat) (st0 rest : List Value) (ws wc : va_W) (Qa : Nat → Array Value → State → Outcome → State → Prop) : Prop :=
  ∀ (H : Heap) (locs : List Loc) (ls : Array Slot), va_P D vwCl ws H → va_D A ws → va_S A s.heap H locs → ls.size = n → ∃ a, va_Run p l e R s m args below meth c H locs ce sl mc ms (F0 m pc ls st0) rest (Qa H.size a) (va_A wc H.size)
theorem z_callN {S : Type} {post : S → Prop} {wf : S → va_W} (C : Cx p s m args meth c own cc n rt D cI tt A) (hC : isC.map (fun i => ws[i]?) = wc.map some) (hR : isR.map (fun i => ws[i]?) = wr.map some) (hn : va_nd isR = true) (hdis : ∀ i ∈ isR, i ∉ isC)
    (hr : RunsN p l e R s m args below meth c D A n ce sl mc ms pc st0 rest ws wc (fun sz => va_Qv post (fun u t => va_P D vwCl (wf u) t.heap ∧ va_D (va_A wc sz) (wf u)) (va_A wc sz)))
    (kk : ∀ u : S, post u → Z p l e R s m args below meth c D A n (ce + mc) (sl + ms) Q (pc + 3) lv rest (wr ++ wf u)) : Z p l e R s m args below meth c D A n ce sl Q pc lv st0 ws := fun H locs ls h1 h2 h3 h4 => by
  obtain ⟨a, hr⟩ := hr H locs ls h1 h2 h3 h4.1
  have hF := va_free h2 h3 C.2.2.2.2.2.2.2.2.2.2 isC hC
  refine va_callv hr h3 (fun q _ h => hF q h) hF (fun u t H1 locs1 ht hvm hw hB hz1 hk1 hS => ?_)
  have hB1 : va_P D vwCl (wf u) H1 := by rw [← ht]; exact hB.1
  obtain ⟨g1, g2⟩ := va_join h1 h2 isC isR hC hR hn hdis hk1 hF hB1 hB.2
  exact kk u hw H1 locs1 ls g1 g2 hS h4
theorem runIN {host : String} {b : Nat} (C : Cx p s m args meth c own cc n rt D cI tt A) (hM : ∀ sz : Nat, Met l y (.code y bytes nY none :: TB) rY' (va_Pc [.ref b] (Pre D cI tt wc sz)) (Qa sz) mc ms (va_A wc sz)) (isC : List Nat) (hC : isC.map (fun i => ws[i]?) = wc.map some) (hnd : va_nd isC = true) (hfit : rY'.cells = mc ∧ rY'.slots = ms ∧ (rY'.frames + 1 ≤ R.frames ∧ 8 + (nY + 11) + rY'.locals ≤ R.locals) ∧ ce + mc ≤ R.cells ∧ sl + ms ≤ R.slots)
    (hl : Cond.methodLinkNest own idx y host ∈ NB) (hm : Cond.instanceMethod y ∈ TB) (hi : Cond.initialized y.cls ∈ TB) (hc : Cond.code y bytes nY none ∈ TB) (hy : y.cls ≠ "java/lang/invoke/MethodHandle" ∧ y.cls ≠ "java/lang/invoke/VarHandle" ∧ (parseMethodDescriptor y.desc).map (fun d => d.parameters.length) = some 0) (hyi : y.name = "<init>")
    (hst : st0 = .ref b :: rest) (hcat : (rest.map fun v => v.category).sum ≤ 8) (hd : decode cc pc = .ok (.invokespecial idx, 3)) : RunsN p l e R s m args below meth c D A n ce sl mc ms pc st0 rest ws wc Qa := fun H locs ls h1 h2 h3 h4 => by
  obtain ⟨f1, f2, f3, f4, f5⟩ := hfit
  exact ⟨#[.ref b], va_runIN (fix_of C) (hM H.size) (n := 0) (As := []) ⟨va_cnB 0 C.2.2.2.2.1 (good_TB hc) rfl f1 f2 (C.2.2.2.2.2.2.1 _ hl) (C.2.2.2.2.1 _ hi) hy f3, hyi, C.2.2.2.2.1 _ hm⟩ ⟨pre_blind wc H.size _, fun U hU hW => ⟨rfl, pre_of C h1 h2 h3 hC hnd U hU hW⟩⟩ rfl rfl h4 hst (lv_room hcat) hd ⟨f4, f5⟩⟩
theorem runI {b : Nat} (C : Cx p s m args meth c own cc n rt D cI tt A) (hM : ∀ sz : Nat, Met l y (.code y bytes nY none :: TB) rY' (va_Pc [.ref b] (Pre D cI tt wc sz)) (Qa sz) mc ms (va_A wc sz)) (isC : List Nat) (hC : isC.map (fun i => ws[i]?) = wc.map some) (hnd : va_nd isC = true) (hfit : rY'.cells = mc ∧ rY'.slots = ms ∧ (rY'.frames + 1 ≤ R.frames ∧ 8 + (nY + 11) + rY'.locals ≤ R.locals) ∧ ce + mc ≤ R.cells ∧ sl + ms ≤ R.slots)
    (hl : Cond.methodLink own idx y ∈ TB) (hm : Cond.instanceMethod y ∈ TB) (hi : Cond.initialized y.cls ∈ TB) (hc : Cond.code y bytes nY none ∈ TB) (hy : y.cls ≠ "java/lang/invoke/MethodHandle" ∧ y.cls ≠ "java/lang/invoke/VarHandle" ∧ (parseMethodDescriptor y.desc).map (fun d => d.parameters.length) = some 0) (hyi : y.name = "<init>")
    (hst : st0 = .ref b :: rest) (hcat : (rest.map fun v => v.category).sum ≤ 8) (hd : decode cc pc = .ok (.invokespecial idx, 3)) : RunsN p l e R s m args below meth c D A n ce sl mc ms pc st0 rest ws wc Qa := fun H locs ls h1 h2 h3 h4 => by
  obtain ⟨f1, f2, f3, f4, f5⟩ := hfit
  exact ⟨#[.ref b], va_runI (fix_of C) (hM H.size) (n := 0) (As := []) (cwI 0 C.2.2.2.2.1 (good_TB hc) rfl f1 f2 (C.2.2.2.2.1 _ hi) (C.2.2.2.2.1 _ hl) (C.2.2.2.2.1 _ hm) hyi hy f3) ⟨pre_blind wc H.size _, fun U hU hW => ⟨rfl, pre_of C h1 h2 h3 hC hnd U hU hW⟩⟩ rfl rfl h4 hst (lv_room hcat) hd ⟨f4, f5⟩⟩
end ZC
theorem df_X0 : ∀ j, j < 2 → defaultValue (tyX0 j) = vp_V [.null, .int 0] j
  | 0, _ => rfl
  | 1, _ => rfl
  | j + 2, h => absurd h (by omega)
theorem df_X1 : ∀ j, j < 8 → defaultValue (tyX1 j) = vp_V [.null, .int 0, .null, .int 0, .int 0, .int 0, .int 0, .int 0] j
  | 0, _ => rfl
  | 1, _ => rfl
  | 2, _ => rfl
  | 3, _ => rfl
  | 4, _ => rfl
  | 5, _ => rfl
  | 6, _ => rfl
  | 7, _ => rfl
  | j + 8, h => absurd h (by omega)
theorem df_X2 : ∀ j, j < 9 → defaultValue (tyX2 j) = vp_V [.int 0, .null, .int 0, .int 0, .int 0, .null, .null, .null, .null] j
  | 0, _ => rfl
  | 1, _ => rfl
  | 2, _ => rfl
  | 3, _ => rfl
  | 4, _ => rfl
  | 5, _ => rfl
  | 6, _ => rfl
  | 7, _ => rfl
  | 8, _ => rfl
  | j + 9, h => absurd h (by omega)
theorem df_X3 : ∀ j, j < 8 → defaultValue (tyX3 j) = vp_V [.null, .null, .null, .null, .null, .int 0, .int 0, .int 0] j
  | 0, _ => rfl
  | 1, _ => rfl
  | 2, _ => rfl
  | 3, _ => rfl
  | 4, _ => rfl
  | 5, _ => rfl
  | 6, _ => rfl
  | 7, _ => rfl
  | j + 8, h => absurd h (by omega)
def ca (x : Nat) (q : Nat → Nat) : Nat → Nat := fun k => match k with
  | 0 => x
  | k + 1 => q k
set_option maxHeartbeats 4000000 in
theorem n_depots (l : Launch) (D : va_G) (cI : ClassId) (tt : Nat × Nat × Nat) (x : Nat) : MetN (S := Nat → Nat) l yX3_init cX3_init 1 { frames := 2, cells := 18, slots := 117, locals := 40 } D cI tt [.ref x] [(x, .inr (3, [.null, .null, .null, .null, .null, .int 0, .int 0, .int 0]))] 18 117 (fun _ => True) (fun q => cW cI (ca x q) (fun _ => 0) (fun _ _ => 0)) := by
  refine met_ofN (by decide) (Nat.le_of_ble_eq_true rfl) ?_
  intro pP eE sS mM aV bB mE cC AA C hin
  refine z_conv (lv' := [(0, .ref x)]) ⟨rfl, trivial⟩ rfl rfl ?_
  refine z_aload_n C (pc := 0) dX3_init_0 rfl ?_
  refine z_objInit C (pc := 1) wl_X3_1 (by decide) (by decide) (by decide) dX3_init_1 ?_
  refine z_aload_n C (pc := 4) dX3_init_4 rfl ?_
  refine z_new C (pc := 5) (ci := 0) rfl wf_X0 tyX0 tyX0_ok wl_X3_7 wn_X0 wi_X0 df_X0 (Nat.le_of_ble_eq_true rfl) (Nat.le_of_ble_eq_true rfl) dX3_init_5 (fun q0 => ?_)
  refine z_ws (ws' := [(x, .inr (3, [.null, .null, .null, .null, .null, .int 0, .int 0, .int 0])), (q0, .inr (0, [.null, .int 0]))]) rfl rfl ?_
  refine z_dup C (pc := 8) dX3_init_8 rfl ?_
  refine z_callN C (pc := 9) (isC := [1]) (isR := [0]) (wc := [(q0, .inr (0, [.null, .int 0]))]) (wr := [(x, .inr (3, [.null, .null, .null, .null, .null, .int 0, .int 0, .int 0]))]) rfl rfl (by decide) (by decide) (runIN C (pc := 9) (n_page l D cI tt q0) [1] rfl (by decide) ⟨rfl, rfl, ⟨Nat.le_of_ble_eq_true rfl, Nat.le_of_ble_eq_true rfl⟩, Nat.le_of_ble_eq_true rfl, Nat.le_of_ble_eq_true rfl⟩ wl_X3_9 wm_X0_init wi_X0 wc_X0_init (by decide +kernel) rfl rfl (Nat.le_of_ble_eq_true rfl) dX3_init_9) (fun u0 _ => ?_)
  refine z_ws (ws' := [(x, .inr (3, [.null, .null, .null, .null, .null, .int 0, .int 0, .int 0])), (q0, .inr (0, [.ref (u0), .int 0])), ((u0), .inl (cI, 15, .inl (fun _ => 0)))]) rfl rfl ?_
  refine z_putF C (pc := 12) 0 rfl rfl wf_X3 0 (by decide) rfl tyX3 tyX3_ok nmX3 rfl rfl rfl (Nat.le_of_ble_eq_true rfl) (ws' := [(x, .inr (3, [.ref q0, .null, .null, .null, .null, .int 0, .int 0, .int 0])), (q0, .inr (0, [.ref (u0), .int 0])), ((u0), .inl (cI, 15, .inl (fun _ => 0)))]) rfl wl_X3_10 (hin rfl) rfl dX3_init_12 ?_
  refine z_aload_n C (pc := 15) dX3_init_15 rfl ?_
  refine z_new C (pc := 16) (ci := 1) rfl wf_X1 tyX1 tyX1_ok wl_X3_16 wn_X1 wi_X1 df_X1 (Nat.le_of_ble_eq_true rfl) (Nat.le_of_ble_eq_true rfl) dX3_init_16 (fun q1 => ?_)
  refine z_ws (ws' := [(x, .inr (3, [.ref q0, .null, .null, .null, .null, .int 0, .int 0, .int 0])), (q0, .inr (0, [.ref (u0), .int 0])), ((u0), .inl (cI, 15, .inl (fun _ => 0))), (q1, .inr (1, [.null, .int 0, .null, .int 0, .int 0, .int 0, .int 0, .int 0]))]) rfl rfl ?_
  refine z_dup C (pc := 19) dX3_init_19 rfl ?_
  refine z_callN C (pc := 20) (isC := [3]) (isR := [0, 1, 2]) (wc := [(q1, .inr (1, [.null, .int 0, .null, .int 0, .int 0, .int 0, .int 0, .int 0]))]) (wr := [(x, .inr (3, [.ref q0, .null, .null, .null, .null, .int 0, .int 0, .int 0])), (q0, .inr (0, [.ref (u0), .int 0])), ((u0), .inl (cI, 15, .inl (fun _ => 0)))]) rfl rfl (by decide) (by decide) (runIN C (pc := 20) (n_party l D cI tt q1) [3] rfl (by decide) ⟨rfl, rfl, ⟨Nat.le_of_ble_eq_true rfl, Nat.le_of_ble_eq_true rfl⟩, Nat.le_of_ble_eq_true rfl, Nat.le_of_ble_eq_true rfl⟩ wl_X3_18 wm_X1_init wi_X1 wc_X1_init (by decide +kernel) rfl rfl (Nat.le_of_ble_eq_true rfl) dX3_init_20) (fun u1 _ => ?_)
  refine z_ws (ws' := [(x, .inr (3, [.ref q0, .null, .null, .null, .null, .int 0, .int 0, .int 0])), (q0, .inr (0, [.ref (u0), .int 0])), ((u0), .inl (cI, 15, .inl (fun _ => 0))), (q1, .inr (1, [.ref (u1 0), .int 0, .ref (u1 1), .int 0, .int 0, .int 0, .int 0, .int 0])), ((u1 0), .inl (cI, 6, .inl (fun _ => 0))), ((u1 1), .inl (cI, 5, .inl (fun _ => 0)))]) rfl rfl ?_
  refine z_putF C (pc := 23) 0 rfl rfl wf_X3 1 (by decide) rfl tyX3 tyX3_ok nmX3 rfl rfl rfl (Nat.le_of_ble_eq_true rfl) (ws' := [(x, .inr (3, [.ref q0, .ref q1, .null, .null, .null, .int 0, .int 0, .int 0])), (q0, .inr (0, [.ref (u0), .int 0])), ((u0), .inl (cI, 15, .inl (fun _ => 0))), (q1, .inr (1, [.ref (u1 0), .int 0, .ref (u1 1), .int 0, .int 0, .int 0, .int 0, .int 0])), ((u1 0), .inl (cI, 6, .inl (fun _ => 0))), ((u1 1), .inl (cI, 5, .inl (fun _ => 0)))]) rfl wl_X3_19 (hin rfl) rfl dX3_init_23 ?_
  refine z_aload_n C (pc := 26) dX3_init_26 rfl ?_
  refine z_new C (pc := 27) (ci := 2) rfl wf_X2 tyX2 tyX2_ok wl_X3_23 wn_X2 wi_X2 df_X2 (Nat.le_of_ble_eq_true rfl) (Nat.le_of_ble_eq_true rfl) dX3_init_27 (fun q2 => ?_)
  refine z_ws (ws' := [(x, .inr (3, [.ref q0, .ref q1, .null, .null, .null, .int 0, .int 0, .int 0])), (q0, .inr (0, [.ref (u0), .int 0])), ((u0), .inl (cI, 15, .inl (fun _ => 0))), (q1, .inr (1, [.ref (u1 0), .int 0, .ref (u1 1), .int 0, .int 0, .int 0, .int 0, .int 0])), ((u1 0), .inl (cI, 6, .inl (fun _ => 0))), ((u1 1), .inl (cI, 5, .inl (fun _ => 0))), (q2, .inr (2, [.int 0, .null, .int 0, .int 0, .int 0, .null, .null, .null, .null]))]) rfl rfl ?_
  refine z_dup C (pc := 30) dX3_init_30 rfl ?_
  refine z_callN C (pc := 31) (isC := [6]) (isR := [0, 1, 2, 3, 4, 5]) (wc := [(q2, .inr (2, [.int 0, .null, .int 0, .int 0, .int 0, .null, .null, .null, .null]))]) (wr := [(x, .inr (3, [.ref q0, .ref q1, .null, .null, .null, .int 0, .int 0, .int 0])), (q0, .inr (0, [.ref (u0), .int 0])), ((u0), .inl (cI, 15, .inl (fun _ => 0))), (q1, .inr (1, [.ref (u1 0), .int 0, .ref (u1 1), .int 0, .int 0, .int 0, .int 0, .int 0])), ((u1 0), .inl (cI, 6, .inl (fun _ => 0))), ((u1 1), .inl (cI, 5, .inl (fun _ => 0)))]) rfl rfl (by decide) (by decide) (runIN C (pc := 31) (n_standing l D cI tt q2) [6] rfl (by decide) ⟨rfl, rfl, ⟨Nat.le_of_ble_eq_true rfl, Nat.le_of_ble_eq_true rfl⟩, Nat.le_of_ble_eq_true rfl, Nat.le_of_ble_eq_true rfl⟩ wl_X3_25 wm_X2_init wi_X2 wc_X2_init (by decide +kernel) rfl rfl (Nat.le_of_ble_eq_true rfl) dX3_init_31) (fun u2 _ => ?_)
  refine z_ws (ws' := [(x, .inr (3, [.ref q0, .ref q1, .null, .null, .null, .int 0, .int 0, .int 0])), (q0, .inr (0, [.ref (u0), .int 0])), ((u0), .inl (cI, 15, .inl (fun _ => 0))), (q1, .inr (1, [.ref (u1 0), .int 0, .ref (u1 1), .int 0, .int 0, .int 0, .int 0, .int 0])), ((u1 0), .inl (cI, 6, .inl (fun _ => 0))), ((u1 1), .inl (cI, 5, .inl (fun _ => 0))), (q2, .inr (2, [.int 0, .ref (u2 0), .int 0, .int 0, .int 0, .ref (u2 1), .ref (u2 2), .ref (u2 3), .ref (u2 4)])), ((u2 0), .inl (cI, 5, .inl (fun _ => 0))), ((u2 1), .inl (cI, 6, .inl (fun _ => 0))), ((u2 2), .inl (cI, 6, .inl (fun _ => 0))), ((u2 3), .inl (cI, 6, .inl (fun _ => 0))), ((u2 4), .inl (cI, 6, .inl (fun _ => 0)))]) rfl rfl ?_
  refine z_putF C (pc := 34) 0 rfl rfl wf_X3 2 (by decide) rfl tyX3 tyX3_ok nmX3 rfl rfl rfl (Nat.le_of_ble_eq_true rfl) (ws' := [(x, .inr (3, [.ref q0, .ref q1, .ref q2, .null, .null, .int 0, .int 0, .int 0])), (q0, .inr (0, [.ref (u0), .int 0])), ((u0), .inl (cI, 15, .inl (fun _ => 0))), (q1, .inr (1, [.ref (u1 0), .int 0, .ref (u1 1), .int 0, .int 0, .int 0, .int 0, .int 0])), ((u1 0), .inl (cI, 6, .inl (fun _ => 0))), ((u1 1), .inl (cI, 5, .inl (fun _ => 0))), (q2, .inr (2, [.int 0, .ref (u2 0), .int 0, .int 0, .int 0, .ref (u2 1), .ref (u2 2), .ref (u2 3), .ref (u2 4)])), ((u2 0), .inl (cI, 5, .inl (fun _ => 0))), ((u2 1), .inl (cI, 6, .inl (fun _ => 0))), ((u2 2), .inl (cI, 6, .inl (fun _ => 0))), ((u2 3), .inl (cI, 6, .inl (fun _ => 0))), ((u2 4), .inl (cI, 6, .inl (fun _ => 0)))]) rfl wl_X3_26 (hin rfl) rfl dX3_init_34 ?_
  refine z_aload_n C (pc := 37) dX3_init_37 rfl ?_
  refine z_new C (pc := 38) (ci := 2) rfl wf_X2 tyX2 tyX2_ok wl_X3_23 wn_X2 wi_X2 df_X2 (Nat.le_of_ble_eq_true rfl) (Nat.le_of_ble_eq_true rfl) dX3_init_38 (fun q3 => ?_)
  refine z_ws (ws' := [(x, .inr (3, [.ref q0, .ref q1, .ref q2, .null, .null, .int 0, .int 0, .int 0])), (q0, .inr (0, [.ref (u0), .int 0])), ((u0), .inl (cI, 15, .inl (fun _ => 0))), (q1, .inr (1, [.ref (u1 0), .int 0, .ref (u1 1), .int 0, .int 0, .int 0, .int 0, .int 0])), ((u1 0), .inl (cI, 6, .inl (fun _ => 0))), ((u1 1), .inl (cI, 5, .inl (fun _ => 0))), (q2, .inr (2, [.int 0, .ref (u2 0), .int 0, .int 0, .int 0, .ref (u2 1), .ref (u2 2), .ref (u2 3), .ref (u2 4)])), ((u2 0), .inl (cI, 5, .inl (fun _ => 0))), ((u2 1), .inl (cI, 6, .inl (fun _ => 0))), ((u2 2), .inl (cI, 6, .inl (fun _ => 0))), ((u2 3), .inl (cI, 6, .inl (fun _ => 0))), ((u2 4), .inl (cI, 6, .inl (fun _ => 0))), (q3, .inr (2, [.int 0, .null, .int 0, .int 0, .int 0, .null, .null, .null, .null]))]) rfl rfl ?_
  refine z_dup C (pc := 41) dX3_init_41 rfl ?_
  refine z_callN C (pc := 42) (isC := [12]) (isR := [0, 1, 2, 3, 4, 5, 6, 7, 8, 9, 10, 11]) (wc := [(q3, .inr (2, [.int 0, .null, .int 0, .int 0, .int 0, .null, .null, .null, .null]))]) (wr := [(x, .inr (3, [.ref q0, .ref q1, .ref q2, .null, .null, .int 0, .int 0, .int 0])), (q0, .inr (0, [.ref (u0), .int 0])), ((u0), .inl (cI, 15, .inl (fun _ => 0))), (q1, .inr (1, [.ref (u1 0), .int 0, .ref (u1 1), .int 0, .int 0, .int 0, .int 0, .int 0])), ((u1 0), .inl (cI, 6, .inl (fun _ => 0))), ((u1 1), .inl (cI, 5, .inl (fun _ => 0))), (q2, .inr (2, [.int 0, .ref (u2 0), .int 0, .int 0, .int 0, .ref (u2 1), .ref (u2 2), .ref (u2 3), .ref (u2 4)])), ((u2 0), .inl (cI, 5, .inl (fun _ => 0))), ((u2 1), .inl (cI, 6, .inl (fun _ => 0))), ((u2 2), .inl (cI, 6, .inl (fun _ => 0))), ((u2 3), .inl (cI, 6, .inl (fun _ => 0))), ((u2 4), .inl (cI, 6, .inl (fun _ => 0)))]) rfl rfl (by decide) (by decide) (runIN C (pc := 42) (n_standing l D cI tt q3) [12] rfl (by decide) ⟨rfl, rfl, ⟨Nat.le_of_ble_eq_true rfl, Nat.le_of_ble_eq_true rfl⟩, Nat.le_of_ble_eq_true rfl, Nat.le_of_ble_eq_true rfl⟩ wl_X3_25 wm_X2_init wi_X2 wc_X2_init (by decide +kernel) rfl rfl (Nat.le_of_ble_eq_true rfl) dX3_init_42) (fun u3 _ => ?_)
  refine z_ws (ws' := [(x, .inr (3, [.ref q0, .ref q1, .ref q2, .null, .null, .int 0, .int 0, .int 0])), (q0, .inr (0, [.ref (u0), .int 0])), ((u0), .inl (cI, 15, .inl (fun _ => 0))), (q1, .inr (1, [.ref (u1 0), .int 0, .ref (u1 1), .int 0, .int 0, .int 0, .int 0, .int 0])), ((u1 0), .inl (cI, 6, .inl (fun _ => 0))), ((u1 1), .inl (cI, 5, .inl (fun _ => 0))), (q2, .inr (2, [.int 0, .ref (u2 0), .int 0, .int 0, .int 0, .ref (u2 1), .ref (u2 2), .ref (u2 3), .ref (u2 4)])), ((u2 0), .inl (cI, 5, .inl (fun _ => 0))), ((u2 1), .inl (cI, 6, .inl (fun _ => 0))), ((u2 2), .inl (cI, 6, .inl (fun _ => 0))), ((u2 3), .inl (cI, 6, .inl (fun _ => 0))), ((u2 4), .inl (cI, 6, .inl (fun _ => 0))), (q3, .inr (2, [.int 0, .ref (u3 0), .int 0, .int 0, .int 0, .ref (u3 1), .ref (u3 2), .ref (u3 3), .ref (u3 4)])), ((u3 0), .inl (cI, 5, .inl (fun _ => 0))), ((u3 1), .inl (cI, 6, .inl (fun _ => 0))), ((u3 2), .inl (cI, 6, .inl (fun _ => 0))), ((u3 3), .inl (cI, 6, .inl (fun _ => 0))), ((u3 4), .inl (cI, 6, .inl (fun _ => 0)))]) rfl rfl ?_
  refine z_putF C (pc := 45) 0 rfl rfl wf_X3 3 (by decide) rfl tyX3 tyX3_ok nmX3 rfl rfl rfl (Nat.le_of_ble_eq_true rfl) (ws' := [(x, .inr (3, [.ref q0, .ref q1, .ref q2, .ref q3, .null, .int 0, .int 0, .int 0])), (q0, .inr (0, [.ref (u0), .int 0])), ((u0), .inl (cI, 15, .inl (fun _ => 0))), (q1, .inr (1, [.ref (u1 0), .int 0, .ref (u1 1), .int 0, .int 0, .int 0, .int 0, .int 0])), ((u1 0), .inl (cI, 6, .inl (fun _ => 0))), ((u1 1), .inl (cI, 5, .inl (fun _ => 0))), (q2, .inr (2, [.int 0, .ref (u2 0), .int 0, .int 0, .int 0, .ref (u2 1), .ref (u2 2), .ref (u2 3), .ref (u2 4)])), ((u2 0), .inl (cI, 5, .inl (fun _ => 0))), ((u2 1), .inl (cI, 6, .inl (fun _ => 0))), ((u2 2), .inl (cI, 6, .inl (fun _ => 0))), ((u2 3), .inl (cI, 6, .inl (fun _ => 0))), ((u2 4), .inl (cI, 6, .inl (fun _ => 0))), (q3, .inr (2, [.int 0, .ref (u3 0), .int 0, .int 0, .int 0, .ref (u3 1), .ref (u3 2), .ref (u3 3), .ref (u3 4)])), ((u3 0), .inl (cI, 5, .inl (fun _ => 0))), ((u3 1), .inl (cI, 6, .inl (fun _ => 0))), ((u3 2), .inl (cI, 6, .inl (fun _ => 0))), ((u3 3), .inl (cI, 6, .inl (fun _ => 0))), ((u3 4), .inl (cI, 6, .inl (fun _ => 0)))]) rfl wl_X3_30 (hin rfl) rfl dX3_init_45 ?_
  refine z_aload_n C (pc := 48) dX3_init_48 rfl ?_
  refine z_iconst C (pc := 49) (v := 5) dX3_init_49 (by decide) ?_
  refine z_newa C (pc := 50) (N := 5) (by decide) (by decide) (by decide) (Nat.le_of_ble_eq_true rfl) (Nat.le_of_ble_eq_true rfl) dX3_init_50 (fun q4 => ?_)
  refine z_ws (ws' := [(x, .inr (3, [.ref q0, .ref q1, .ref q2, .ref q3, .null, .int 0, .int 0, .int 0])), (q0, .inr (0, [.ref (u0), .int 0])), ((u0), .inl (cI, 15, .inl (fun _ => 0))), (q1, .inr (1, [.ref (u1 0), .int 0, .ref (u1 1), .int 0, .int 0, .int 0, .int 0, .int 0])), ((u1 0), .inl (cI, 6, .inl (fun _ => 0))), ((u1 1), .inl (cI, 5, .inl (fun _ => 0))), (q2, .inr (2, [.int 0, .ref (u2 0), .int 0, .int 0, .int 0, .ref (u2 1), .ref (u2 2), .ref (u2 3), .ref (u2 4)])), ((u2 0), .inl (cI, 5, .inl (fun _ => 0))), ((u2 1), .inl (cI, 6, .inl (fun _ => 0))), ((u2 2), .inl (cI, 6, .inl (fun _ => 0))), ((u2 3), .inl (cI, 6, .inl (fun _ => 0))), ((u2 4), .inl (cI, 6, .inl (fun _ => 0))), (q3, .inr (2, [.int 0, .ref (u3 0), .int 0, .int 0, .int 0, .ref (u3 1), .ref (u3 2), .ref (u3 3), .ref (u3 4)])), ((u3 0), .inl (cI, 5, .inl (fun _ => 0))), ((u3 1), .inl (cI, 6, .inl (fun _ => 0))), ((u3 2), .inl (cI, 6, .inl (fun _ => 0))), ((u3 3), .inl (cI, 6, .inl (fun _ => 0))), ((u3 4), .inl (cI, 6, .inl (fun _ => 0))), (q4, .inl (cI, 5, .inl (fun _ => 0)))]) rfl rfl ?_
  refine z_putF C (pc := 52) 0 rfl rfl wf_X3 4 (by decide) rfl tyX3 tyX3_ok nmX3 rfl rfl rfl (Nat.le_of_ble_eq_true rfl) (ws' := [(x, .inr (3, [.ref q0, .ref q1, .ref q2, .ref q3, .ref q4, .int 0, .int 0, .int 0])), (q0, .inr (0, [.ref (u0), .int 0])), ((u0), .inl (cI, 15, .inl (fun _ => 0))), (q1, .inr (1, [.ref (u1 0), .int 0, .ref (u1 1), .int 0, .int 0, .int 0, .int 0, .int 0])), ((u1 0), .inl (cI, 6, .inl (fun _ => 0))), ((u1 1), .inl (cI, 5, .inl (fun _ => 0))), (q2, .inr (2, [.int 0, .ref (u2 0), .int 0, .int 0, .int 0, .ref (u2 1), .ref (u2 2), .ref (u2 3), .ref (u2 4)])), ((u2 0), .inl (cI, 5, .inl (fun _ => 0))), ((u2 1), .inl (cI, 6, .inl (fun _ => 0))), ((u2 2), .inl (cI, 6, .inl (fun _ => 0))), ((u2 3), .inl (cI, 6, .inl (fun _ => 0))), ((u2 4), .inl (cI, 6, .inl (fun _ => 0))), (q3, .inr (2, [.int 0, .ref (u3 0), .int 0, .int 0, .int 0, .ref (u3 1), .ref (u3 2), .ref (u3 3), .ref (u3 4)])), ((u3 0), .inl (cI, 5, .inl (fun _ => 0))), ((u3 1), .inl (cI, 6, .inl (fun _ => 0))), ((u3 2), .inl (cI, 6, .inl (fun _ => 0))), ((u3 3), .inl (cI, 6, .inl (fun _ => 0))), ((u3 4), .inl (cI, 6, .inl (fun _ => 0))), (q4, .inl (cI, 5, .inl (fun _ => 0)))]) rfl wl_X3_33 (hin rfl) rfl dX3_init_52 ?_
  exact z_vretN C (pc := 55) (fun k => match k with | 0 => q0 | 1 => (u0) | 2 => q1 | 3 => (u1 0) | 4 => (u1 1) | 5 => q2 | 6 => (u2 0) | 7 => (u2 1) | 8 => (u2 2) | 9 => (u2 3) | 10 => (u2 4) | 11 => q3 | 12 => (u3 0) | 13 => (u3 1) | 14 => (u3 2) | 15 => (u3 3) | 16 => (u3 4) | _ => q4) dX3_init_55 trivial rfl
end
section
/-! the law's layer: longs, stores, dropped cells -/
section ZO
variable {p : Program} {l : Launch} {e : Env} {R : Room} {s : State} {m : MethodId} {args : Array Value} {below : List Frame} {meth : Method} {c : Code} {D : va_G} {A : Nat → Prop} {n ce sl : Nat} {Q : State → Prop} {own : String} {cc : ByteArray} {rt : Option FieldType} {cI : ClassId} {tt : Nat × Nat × Nat} {pc : Nat} {lv : List (Nat × Value)} {st : List Value} {ws : va_W}
theorem z_setl {x y : Int64} (h : x = y) (k : Z p l e R s m args below meth c D A n ce sl Q pc lv (.long y :: st) ws) : Z p l e R s m args below meth c D A n ce sl Q pc lv (.long x :: st) ws := by subst h; exact k
theorem z_astore (C : Cx p s m args meth c own cc n rt D cI tt A) {j : Nat} {x : Nat} {lv' : List (Nat × Value)} (hd : decode cc pc = .ok (.astore j, 2)) (hn : j < n) (ho : (nodup lv && sok1 j lv) = true) (hl : sto j (.ref x) lv = lv') (k : Z p l e R s m args below meth c D A n ce sl Q (pc + 2) lv' st ws) : Z p l e R s m args below meth c D A n ce sl Q pc lv (.ref x :: st) ws := by
  rw [Bool.and_eq_true] at ho
  subst hl
  exact fun H locs ls h1 h2 h3 h4 => lv_astore C.1 C.2.1 hd h4 hn rfl (fun ls' h5 => k H locs ls' h1 h2 h3 (sto_has1 ho.1 ho.2 h5))
theorem z_lstore (C : Cx p s m args meth c own cc n rt D cI tt A) {j : Nat} {x : Int64} {lv' : List (Nat × Value)} (hd : decode cc pc = .ok (.lstore j, 2)) (hn : j + 1 < n) (ho : (nodup lv && sok2 j lv) = true) (hl : sto j (.long x) lv = lv') (k : Z p l e R s m args below meth c D A n ce sl Q (pc + 2) lv' st ws) : Z p l e R s m args below meth c D A n ce sl Q pc lv (.long x :: st) ws := by
  rw [Bool.and_eq_true] at ho
  subst hl
  exact fun H locs ls h1 h2 h3 h4 => lv_lstore C.1 C.2.1 hd h4 hn rfl (fun ls' h5 => k H locs ls' h1 h2 h3 (sto_has2 ho.1 ho.2 h5))
theorem z_ldiv (C : Cx p s m args meth c own cc n rt D cI tt A) {x y : Int64} (hd : decode cc pc = .ok (.ldiv, 1)) (hne : ¬ y = 0) (k : Z p l e R s m args below meth c D A n ce sl Q (pc + 1) lv (.long (x / y) :: st) ws) : Z p l e R s m args below meth c D A n ce sl Q pc lv (.long y :: .long x :: st) ws := fun H locs ls h1 h2 h3 h4 => lv_ldiv C.1 C.2.1 hd hne (k H locs ls h1 h2 h3 h4)
theorem z_lrem (C : Cx p s m args meth c own cc n rt D cI tt A) {x y : Int64} (hd : decode cc pc = .ok (.lrem, 1)) (hne : ¬ y = 0) (k : Z p l e R s m args below meth c D A n ce sl Q (pc + 1) lv (.long (x - x / y * y) :: st) ws) : Z p l e R s m args below meth c D A n ce sl Q pc lv (.long y :: .long x :: st) ws := fun H locs ls h1 h2 h3 h4 => lv_lrem C.1 C.2.1 hd hne (k H locs ls h1 h2 h3 h4)
/-- cells are left out of sight -/
theorem z_sub {wc : va_W} (isC : List Nat) (hC : isC.map (fun i => ws[i]?) = wc.map some) (hnd : va_nd isC = true) (k : Z p l e R s m args below meth c D A n ce sl Q pc lv st wc) : Z p l e R s m args below meth c D A n ce sl Q pc lv st ws := fun H locs ls h1 h2 h3 h4 => by
  have hm : isC.filterMap (fun i => ws[i]?) = wc := by
    have : isC.filterMap (fun i => ws[i]?) = (isC.map (fun i => ws[i]?)).filterMap id := by rw [List.filterMap_map]; rfl
    rw [this, hC, List.filterMap_map]
    simp [Function.comp_def]
  exact k H locs ls (h1.sub isC hm) (h2.sub isC hnd hC) h3 h4
theorem z_widen {ce' sl' : Nat} (h1 : ce ≤ ce') (h2 : sl ≤ sl') (k : Z p l e R s m args below meth c D A n ce' sl' Q pc lv st ws) : Z p l e R s m args below meth c D A n ce sl Q pc lv st ws := fun H locs ls g1 g2 g3 g4 => W.widen h1 h2 (k H locs ls g1 g2 g3 g4)
end ZO
/-! two worlds side by side -/
theorem app_swap {w wb : va_W} {k : Nat} {q : Nat × va_E} (h : (w ++ wb)[k]? = some q) : (wb ++ w)[if k < w.length then wb.length + k else k - w.length]? = some q ∧ k < w.length + wb.length := by
  by_cases hk : k < w.length
  · rw [if_pos hk]
    rw [List.getElem?_append_left hk] at h
    rw [List.getElem?_append_right (by omega), show wb.length + k - wb.length = k by omega]
    exact ⟨h, by omega⟩
  · rw [if_neg hk]
    rw [List.getElem?_append_right (by omega)] at h
    have h2 := (List.getElem?_eq_some_iff.mp h).1
    rw [List.getElem?_append_left h2]
    exact ⟨h, by omega⟩
theorem va_P_swap {D : va_G} {cl : List vw_C} {w wb : va_W} {H : Heap} (h : va_P D cl (wb ++ w) H) : va_P D cl (w ++ wb) H := fun _ q hk => h _ q (app_swap hk).1
theorem va_D_swap {A : Nat → Prop} {w wb : va_W} (h : va_D A (wb ++ w)) : va_D A (w ++ wb) := by
  refine ⟨fun i j x y hx hy e => ?_, fun k q hk => h.2 _ q (app_swap hk).1⟩
  have h1 := h.1 _ _ x y (app_swap hx).1 (app_swap hy).1 e
  have h2 := (app_swap hx).2
  have h3 := (app_swap hy).2
  split at h1 <;> split at h1 <;> omega
def apR (wa wb : va_W) : List Nat := (List.range wb.length).map (fun i => wa.length + i)
theorem apL_hC (wa wb : va_W) : (List.range wa.length).map (fun i => (wa ++ wb)[i]?) = wa.map some := (List.map_congr_left (fun _ hi => List.getElem?_append_left (List.mem_range.mp hi))).trans (full_hC wa)
theorem apR_hC (wa wb : va_W) : (apR wa wb).map (fun i => (wa ++ wb)[i]?) = wb.map some := by
  unfold apR
  rw [List.map_map]
  refine (List.map_congr_left (fun i _ => ?_)).trans (full_hC wb)
  show (wa ++ wb)[wa.length + i]? = wb[i]?
  rw [List.getElem?_append_right (by omega), show wa.length + i - wa.length = i by omega]
theorem apR_nd (wa wb : va_W) : va_nd (apR wa wb) = true := va_nd_of (List.Pairwise.map (fun i => wa.length + i) (fun a b h e => h (Nat.add_left_cancel e)) List.nodup_range)
theorem apR_L (wa wb : va_W) : ∀ i ∈ apR wa wb, i ∉ List.range wa.length := fun i hi h => by
  obtain ⟨j, -, e⟩ := List.mem_map.mp hi
  have e' : wa.length + j = i := e
  have := List.mem_range.mp h
  omega
section ZL
variable {p : Program} {l : Launch} {e : Env} {R : Room} {s : State} {m : MethodId} {args : Array Value} {below : List Frame} {meth : Method} {c : Code} {D : va_G} {A : Nat → Prop} {n ce sl : Nat} {Q : State → Prop} {own : String} {cc : ByteArray} {rt : Option FieldType} {cI : ClassId} {tt : Nat × Nat × Nat} {pc : Nat} {lv : List (Nat × Value)} {st : List Value} {ws : va_W}
theorem z_calliL {S : Type} {post : Int32 → S → Prop} {wf : S → va_W} {wa wb : va_W} {st0 rest : List Value} (C : Cx p s m args meth c own cc n rt D cI tt A) (he : ∀ u, (wf u).map (·.1) = wa.map (·.1)) (hr : Runs p l e R s m args below meth c D A n ce sl pc st0 rest (wa ++ wb) wa (List.range wa.length) (fun sz => va_Qi post (fun u t => va_P D vwCl (wf u) t.heap) (va_A wa sz)))
    (kk : ∀ (r : Int32) (u : S), post r u → Z p l e R s m args below meth c D A n ce sl Q (pc + 3) lv (.int r :: rest) (wf u ++ wb)) : Z p l e R s m args below meth c D A n ce sl Q pc lv st0 (wa ++ wb) := fun H locs ls h1 h2 h3 h4 => by
  obtain ⟨a, hr⟩ := hr H locs ls h1 h2 h3 h4.1
  have hF := va_free h2 h3 C.2.2.2.2.2.2.2.2.2.2 _ (apL_hC wa wb)
  refine va_calli hr h3 (fun q _ h => hF q h) hF (fun r u t H1 locs1 ht hvm hw hB hz1 hk1 hS => ?_)
  have hB1 : va_P D vwCl (wf u) H1 := by rw [← ht]; exact hB
  have hDa : va_D (va_A wa H.size) (wf u) := va_D_addr (h2.sub _ (full_nd wa) (apL_hC wa wb)).self (he u)
  obtain ⟨g1, g2⟩ := va_join (wr := wb) h1 h2 (List.range wa.length) (apR wa wb) (apL_hC wa wb) (apR_hC wa wb) (apR_nd wa wb) (apR_L wa wb) hk1 hF hB1 hDa
  exact kk r u hw H1 locs1 ls (va_P_swap g1) (va_D_swap g2) hS h4
variable {y : MethodName} {bytes : ByteArray} {nY : Nat} {rY : Option FieldType} {rY' : Room} {wc : va_W} {isC : List Nat} {st0 rest : List Value} {idx mc ms : Nat} {Qa : Nat → Array Value → State → Outcome → State → Prop}
/-- a call that makes cells, which are left out of sight behind it -/
theorem z_calliN {S : Type} {post : Int32 → S → Prop} {wf : S → va_W} (C : Cx p s m args meth c own cc n rt D cI tt A) (hC : isC.map (fun i => ws[i]?) = wc.map some) (he : ∀ u, (wf u).map (·.1) = wc.map (·.1)) (hr : RunsN p l e R s m args below meth c D A n ce sl mc ms pc st0 rest ws wc (fun sz => va_Qi post (fun u t => va_P D vwCl (wf u) t.heap) (va_A wc sz)))
    (kk : ∀ (r : Int32) (u : S), post r u → Z p l e R s m args below meth c D A n (ce + mc) (sl + ms) Q (pc + 3) lv (.int r :: rest) (weave ws isC (wf u))) : Z p l e R s m args below meth c D A n ce sl Q pc lv st0 ws := fun H locs ls h1 h2 h3 h4 => by
  obtain ⟨a, hr⟩ := hr H locs ls h1 h2 h3 h4.1
  have hF := va_free h2 h3 C.2.2.2.2.2.2.2.2.2.2 isC hC
  refine va_calli hr h3 (fun q _ h => hF q h) hF (fun r u t H1 locs1 ht hvm hw hB hz1 hk1 hS => ?_)
  have hB1 : va_P D vwCl (wf u) H1 := by rw [← ht]; exact hB
  obtain ⟨g1, g2⟩ := va_weave h1 h2 isC hC (he u) hk1 hB1
  exact kk r u hw H1 locs1 ls g1 g2 hS h4
theorem runSNw {As : List Value} {nn : Nat} (C : Cx p s m args meth c own cc n rt D cI tt A) (hM : ∀ sz : Nat, Met l y (.code y bytes nY rY :: TB) rY' (va_Pc As (Pre D cI tt wc sz)) (Qa sz) mc ms (va_A wc sz)) (hC : isC.map (fun i => ws[i]?) = wc.map some) (hnd : va_nd isC = true) (hfit : rY'.cells = mc ∧ rY'.slots = ms ∧ (rY'.frames + 1 ≤ R.frames ∧ 8 + (nY + 11) + rY'.locals ≤ R.locals) ∧ ce + mc ≤ R.cells ∧ sl + ms ≤ R.slots)
    (hl : Cond.methodLink own idx y ∈ TB) (hm : Cond.static y ∈ TB) (hi : Cond.initialized y.cls ∈ TB) (hc : Cond.code y bytes nY rY ∈ TB) (hy : y.cls ≠ "java/lang/invoke/MethodHandle" ∧ y.cls ≠ "java/lang/invoke/VarHandle" ∧ (parseMethodDescriptor y.desc).map (fun d => d.parameters.length) = some nn) (hAs : As.length = nn)
    (hst : st0 = As.reverse ++ rest) (hcat : (rest.map fun v => v.category).sum ≤ 8) (hd : decode cc pc = .ok (.invokestatic idx, 3)) :
    RunsN p l e R s m args below meth c D A n ce sl mc ms pc st0 rest ws wc Qa := fun H locs ls h1 h2 h3 h4 => by
  obtain ⟨f1, f2, f3, f4, f5⟩ := hfit
  refine ⟨As.toArray, va_runS (fix_of C) (hM H.size) (n := nn) (va_cwS nn C.2.2.2.2.1 (fun w hw => ?_) rfl f1 f2 hy f3) ⟨pre_blind wc H.size _, fun U hU hW => ⟨rfl, pre_of C h1 h2 h3 hC hnd U hU hW⟩⟩ rfl hAs h4 hst (lv_room hcat) hd ⟨f4, f5⟩⟩
  rcases List.mem_append.mp hw with hw | hw
  · have : w = .methodLink own idx y ∨ w = .static y ∨ w = .initialized y.cls := by simpa using hw
    rcases this with rfl | rfl | rfl
    · exact good_TB hl _ List.mem_cons_self
    · exact good_TB hm _ List.mem_cons_self
    · exact good_TB hi _ List.mem_cons_self
  · exact good_TB hc w hw
end ZL
/-- a contract of a method that makes cells and keeps them for itself -/
abbrev MetW {S : Type} (l : Launch) (y : MethodName) (cc : ByteArray) (n : Nat) (rt : Option FieldType) (R : Room) (D : va_G) (cI : ClassId) (tt : Nat × Nat × Nat) (av : List Value) (ws : va_W) (mc ms : Nat) (post : Int32 → S → Prop) (wf : S → va_W) : Prop :=
  ∀ sz : Nat, Met l y (.code y cc n rt :: TB) R (va_Pc av (Pre D cI tt ws sz)) (va_Qi post (fun u t => va_P D vwCl (wf u) t.heap) (va_A ws sz)) mc ms (va_A ws sz)
theorem met_ofW {S : Type} {l : Launch} {y : MethodName} {cc : ByteArray} {nY : Nat} {rt : Option FieldType} {R : Room} {D : va_G} {cI : ClassId} {tt : Nat × Nat × Nat} {av : List Value} {ws : va_W} {mc ms : Nat} {post : Int32 → S → Prop} {wf : S → va_W} (hy : plainName y.cls = true) (hn : (lg_sl av).length ≤ nY)
    (body : ∀ (p : Program) (e : Env) (s : State) (m : MethodId) (args : Array Value) (below : List Frame) (meth : Method) (c : Code) (A : Nat → Prop), Cx p s m args meth c y.cls cc nY rt D cI tt A → (y.name = "<init>" → meth.name = "<init>") → Z p l e R s m args below meth c D A nY 0 0 (MQ below (va_Qi post (fun u t => va_P D vwCl (wf u) t.heap) A) args s mc ms A) 0 (lv_args 0 av) [] ws) :
    MetW l y cc nY rt R D cI tt av ws mc ms post wf := fun sz => by
  refine Met.ofW (cc := cc) (maxL := nY) (ret := rt) hy rfl ?_
  intro p e s m args below meth c s₁ B hml hv
  obtain ⟨rfl, hsz, hP, hD, hK, hN, hST⟩ := hv
  have hts : ∀ w ∈ (.code y cc nY rt :: TB : List Cond), w.before av.toArray s = true := atoms_spec (ws := .code y cc nY rt :: TB) B.pre
  have hown : s.vm.findClass y.cls = some m.cls := findClass_of_methodNamed B.named
  subst hsz
  have hl := lv_entry av (n := nY) hn
  rw [lg_entry_eq]
  exact body p e s m av.toArray below meth c (va_A ws s.heap.size) ⟨B.exec, B.bytes, hml, hown, fun w hw => hts w (List.mem_cons_of_mem _ hw), hK, hN, hST, B.returns, B.notSynchronized, fun q hq => Or.inr hq⟩ (fun h => by rw [← h]; exact (name_of_methodNamed B.named B.method).1) s.heap [] _ hP hD.self va_S.rf hl
/-! the script: a row that is old -/
section ZX
variable {p : Program} {l : Launch} {e : Env} {R : Room} {s : State} {m : MethodId} {args : Array Value} {below : List Frame} {meth : Method} {c : Code} {D : va_G} {A : Nat → Prop} {n ce sl : Nat} {Q : State → Prop} {own : String} {cc : ByteArray} {rt : Option FieldType} {cI : ClassId} {tt : Nat × Nat × Nat} {pc : Nat} {lv : List (Nat × Value)} {st : List Value} {ws : va_W}
theorem in_nI {q L : Nat} (hq : q < L) (hL : L ≤ 260) : vp_in (nI q) L := fun h => by
  rcases h with h | h
  · rw [Int32.lt_iff_toInt_lt, nI_toInt (by omega)] at h
    have h0 : (0 : Int32).toInt = 0 := rfl
    omega
  · rw [nI_clamp (by omega)] at h
    omega
theorem z_sld (C : Cx p s m args meth c own cc n rt D cI tt A) {b L : Nat} {xs : Nat → Int32} (hX : va_X b L xs s s.heap) (hbl : b < s.heap.size) (hbA : ¬ A b) (hL : L ≤ 260) {q : Nat} (hq : q < L) (hd : decode cc pc = .ok (.iaload, 1)) (k : Z p l e R s m args below meth c D A n ce sl Q (pc + 1) lv (.int (xs q) :: st) ws) : Z p l e R s m args below meth c D A n ce sl Q pc lv (.int (nI q) :: .ref b :: st) ws := fun H locs ls h1 h2 h3 h4 =>
  va_sld C.1 C.2.1 hX hbl hbA h3 (in_nI hq hL) hd (by rw [nI_clamp (by omega)]; exact k H locs ls h1 h2 h3 h4)
theorem z_slen (C : Cx p s m args meth c own cc n rt D cI tt A) {b L : Nat} {xs : Nat → Int32} (hX : va_X b L xs s s.heap) (hbl : b < s.heap.size) (hbA : ¬ A b) (hd : decode cc pc = .ok (.arraylength, 1)) (k : Z p l e R s m args below meth c D A n ce sl Q (pc + 1) lv (.int (nI L) :: st) ws) : Z p l e R s m args below meth c D A n ce sl Q pc lv (.ref b :: st) ws := fun H locs ls h1 h2 h3 h4 =>
  va_slen C.1 C.2.1 hX hbl hbA h3 hd (k H locs ls h1 h2 h3 h4)
/-- what the reader of the script is told -/
def PreX (D : va_G) (cI : ClassId) (tt : Nat × Nat × Nat) (b L : Nat) (xs : Nat → Int32) (sz : Nat) (U : State) : Prop := Pre D cI tt [] sz U ∧ va_X b L xs U U.heap ∧ b < sz
theorem preX_blind (b L : Nat) (xs : Nat → Int32) (sz : Nat) (av : List Value) : FrameBlind (va_Pc av (PreX D cI tt b L xs sz)) := fun a U g mk q => by
  obtain ⟨q0, ⟨q1, q2, q3, q4, q5, q6⟩, q7, q8⟩ := q
  exact ⟨q0, ⟨q1, q2, q3, va_K.moved (u := U) (U := U.calling g mk a) (Vm.Alike.refl U.vm) q4, NN.vm (u := U) (U := U.calling g mk a) rfl q5, ST.moved (u := U) (U := U.calling g mk a) (Vm.Alike.refl U.vm) q6⟩, va_X.moved (u := U) (U := U.calling g mk a) (Vm.Alike.refl U.vm) q7, q8⟩
end ZX
set_option maxHeartbeats 4000000 in
/-- cell(s, k): some number -/
theorem g_cell (l : Launch) (D : va_G) (cI : ClassId) (tt : Nat × Nat × Nat) (b L : Nat) (xs : Nat → Int32) (hL : L ≤ 260) (k : Nat) (hk : k < 1000) : ∀ sz : Nat, Met l yL_cell (.code yL_cell cL_cell 2 (some .int) :: TB) (rm 0 0) (va_Pc [.ref b, .int (nI k)] (PreX D cI tt b L xs sz)) (va_Qi (fun _ (_ : Unit) => True) (fun _ t => va_P D vwCl [] t.heap) (va_A [] sz)) 0 0 (va_A [] sz) := fun sz => by
  refine Met.ofW (cc := cL_cell) (maxL := 2) (ret := some .int) (by decide) rfl ?_
  intro p e s m args below meth c s₁ B hml hv
  obtain ⟨rfl, ⟨hsz, hP, hD, hK, hN, hST⟩, hX, hbl⟩ := hv
  have hts : ∀ w ∈ (.code yL_cell cL_cell 2 (some .int) :: TB : List Cond), w.before [.ref b, .int (nI k)].toArray s = true := atoms_spec (ws := .code yL_cell cL_cell 2 (some .int) :: TB) B.pre
  have hown : s.vm.findClass yL_cell.cls = some m.cls := findClass_of_methodNamed B.named
  subst hsz
  have hl := lv_entry [.ref b, .int (nI k)] (n := 2) (Nat.le_of_ble_eq_true rfl)
  rw [lg_entry_eq]
  have C : Cx p s m [.ref b, .int (nI k)].toArray meth c yL_cell.cls cL_cell 2 (some .int) D cI tt (va_A [] s.heap.size) := ⟨B.exec, B.bytes, hml, hown, fun w hw => hts w (List.mem_cons_of_mem _ hw), hK, hN, hST, B.returns, B.notSynchronized, fun q hq => Or.inr hq⟩
  have hbA : ¬ va_A [] s.heap.size b := fun h => by
    rcases h with h | h
    · obtain ⟨k, q, hq, -⟩ := h
    · omega
  have K : Z p l e (rm 0 0) s m [.ref b, .int (nI k)].toArray below meth c D (va_A [] s.heap.size) 2 0 0 (MQ below (va_Qi (fun _ (_ : Unit) => True) (fun _ t => va_P D vwCl [] t.heap) (va_A [] s.heap.size)) [.ref b, .int (nI k)].toArray s 0 0 (va_A [] s.heap.size)) 0 [(0, .ref b), (1, .int (nI k))] [] [] := by
    refine z_iload_n C (pc := 0) dL_cell_0 rfl ?_
    refine z_aload_n C (pc := 1) dL_cell_1 rfl ?_
    refine z_slen C (pc := 2) hX hbl hbA dL_cell_2 ?_
    refine z_icmp_ge C (pc := 3) (tgt := 12) dL_cell_3 rfl (fun _ => ?_) (fun c1 => ?_)
    · refine z_ldc C (pc := 12) (v := 747796405) wl_L_7 dL_cell_12 ?_
      refine z_iload_n C (pc := 14) dL_cell_14 rfl ?_
      refine z_iconst C (pc := 15) (v := 1) dL_cell_15 (by decide) ?_
      refine z_iadd C (pc := 16) dL_cell_16 ?_
      refine z_imul C (pc := 17) dL_cell_17 ?_
      exact z_iret C (pc := 18) () dL_cell_18 trivial rfl
    · have hkL : k < L := by
        rcases Nat.lt_or_ge k L with q | q
        · exact q
        · exact absurd (nI_le q (by omega)) c1
      refine z_aload_n C (pc := 6) dL_cell_6 rfl ?_
      refine z_iload_n C (pc := 7) dL_cell_7 rfl ?_
      refine z_sld C (pc := 8) hX hbl hbA hL hkL dL_cell_8 ?_
      refine z_goto C (pc := 9) (tgt := 18) dL_cell_9 rfl ?_
      exact z_iret C (pc := 18) () dL_cell_18 trivial rfl
  exact K s.heap [] _ hP hD.self va_S.rf hl
section ZY
variable {p : Program} {l : Launch} {e : Env} {R : Room} {s : State} {m : MethodId} {args : Array Value} {below : List Frame} {meth : Method} {c : Code} {D : va_G} {A : Nat → Prop} {n ce sl : Nat} {Q : State → Prop} {own : String} {cc : ByteArray} {rt : Option FieldType} {cI : ClassId} {tt : Nat × Nat × Nat} {pc : Nat} {lv : List (Nat × Value)} {st : List Value} {ws : va_W}
theorem z_callcell (C : Cx p s m args meth c own cc n rt D cI tt A) {rest : List Value} {b L : Nat} {xs : Nat → Int32} (hX : va_X b L xs s s.heap) (hbl : b < s.heap.size) (hbA : ¬ A b) (hL : L ≤ 260) {k : Nat} (hk : k < 1000) (hR : 1 ≤ R.frames ∧ 21 ≤ R.locals ∧ ce ≤ R.cells ∧ sl ≤ R.slots) (ho : own = RL) (hd : decode cc pc = .ok (.invokestatic 73, 3)) (hcat : (rest.map fun v => v.category).sum ≤ 8)
    (kk : ∀ r : Int32, Z p l e R s m args below meth c D A n ce sl Q (pc + 3) lv (.int r :: rest) ws) : Z p l e R s m args below meth c D A n ce sl Q pc lv (.int (nI k) :: .ref b :: rest) ws := fun H locs ls h1 h2 h3 h4 => by
  subst ho
  have hbH : H[b]? = s.heap[b]? := h3.2.1 b hbl hbA
  have hF := va_free h2 h3 C.2.2.2.2.2.2.2.2.2.2 [] (wc := []) rfl
  have hr : va_Run p l e R s m args below meth c H locs ce sl 0 0 (F0 m pc ls (.int (nI k) :: .ref b :: rest)) rest (va_Qi (fun _ (_ : Unit) => True) (fun _ t => va_P D vwCl [] t.heap) (va_A [] H.size) [.ref b, .int (nI k)].toArray) (va_A [] H.size) := by
    refine va_runS (fix_of C) (g_cell l D cI tt b L xs hL k hk H.size) (n := 2) (va_cwS 2 C.2.2.2.2.1 (fun w hw => ?_) rfl rfl rfl (by decide +kernel) ⟨hR.1, hR.2.1⟩) ⟨preX_blind b L xs H.size _, fun U hU hW => ⟨rfl, pre_of C h1 h2 h3 (isC := []) rfl rfl U hU hW, by rw [hU]; exact va_X.moved hW.alike (hX.kept hbH), Nat.lt_of_lt_of_le hbl h3.1⟩⟩ rfl rfl h4.1 rfl (lv_room hcat) hd ⟨hR.2.2.1, hR.2.2.2⟩
    rcases List.mem_append.mp hw with hw | hw
    · have : w = .methodLink RL 73 yL_cell ∨ w = .static yL_cell ∨ w = .initialized yL_cell.cls := by simpa using hw
      rcases this with rfl | rfl | rfl
      · exact good_TB wl_L_73 _ List.mem_cons_self
      · exact good_TB ws_L_cell _ List.mem_cons_self
      · exact good_TB wi_L _ List.mem_cons_self
    · exact good_TB wc_L_cell w hw
  refine va_calli hr h3 (fun q _ h => hF q h) hF (fun r u t H1 locs1 ht hvm hw hB hz1 hk1 hS => ?_)
  have hB1 : va_P D vwCl [] H1 := by rw [← ht]; exact hB
  obtain ⟨g1, g2⟩ := va_weave h1 h2 [] (wc := []) (w1 := []) rfl rfl hk1 hB1
  exact kk r H1 locs1 ls g1 g2 hS h4
end ZY
end
section
/-! the law's small rows -/
theorem lkl {x y : Int64} (h : x = y) : some (Value.long x) = some (.long y) := by rw [h]
theorem le4 {t : Nat} (h : t ≤ 4) : t = 0 ∨ t = 1 ∨ t = 2 ∨ t = 3 ∨ t = 4 := by omega
/-- b: who the members are -/
def BV (f : Nat → Int32) (kd : Nat → Nat) (n : Nat) : Prop := f 0 = nI n ∧ n ≤ 6 ∧ ∀ k, k < n → f (k + 1) = nI (kd k) ∧ kd k ≤ 4
/-- d: what lies at the cairns -/
def DV (f : Nat → Int32) (c : Nat → Nat) : Prop := ∀ k, k < 5 → f (k + 1) = nI (c k) ∧ c k ≤ 9
def inv (x k : Nat) : Bool := decide (bt x k = 1)
theorem ushr_rem (x : Int32) {m : Nat} (h0 : 0 < m) (hm : m < 2 ^ 31) : ∃ k, k < m ∧ ((x).toUInt32 >>> ((nI 1 : Int32).toUInt32 &&& Int32.toUInt32 31)).toInt32 - ((x).toUInt32 >>> ((nI 1 : Int32).toUInt32 &&& Int32.toUInt32 31)).toInt32 / nI m * nI m = nI k := by
  have h1 := pk_ushr x (nI 1) 1 (by decide)
  have h2 : ((x).toUInt32 >>> ((nI 1 : Int32).toUInt32 &&& Int32.toUInt32 31)).toInt32 = nI (x.toBitVec.toNat / 2 ^ 1) := by
    apply Int32.toBitVec_inj.mp
    apply BitVec.eq_of_toNat_eq
    rw [h1]
    have h3 := x.toBitVec.isLt
    show _ = (BitVec.ofNat 32 _).toNat
    rw [BitVec.toNat_ofNat]
    omega
  have h3 := x.toBitVec.isLt
  rw [h2, pk_rem (by omega) h0 hm]
  exact ⟨_, Nat.mod_lt _ h0, rfl⟩
end
section
set_option maxHeartbeats 4000000 in
set_option maxRecDepth 100000 in
theorem g_at (l : Launch) (D : va_G) (cI : ClassId) (tt : Nat × Nat × Nat) (x : Int32) (m : Nat) (h0 : 0 < m) (hm : m < 2 ^ 31) : MetI (S := Unit) l yL_at cL_at 2 (some .int) (rm 0 0) D cI tt [.int x, .int (nI m)] [] (fun q _ => ∃ k, k < m ∧ q = nI k) (fun _ => []) := by
  refine met_ofI (by decide) (Nat.le_of_ble_eq_true rfl) ?_
  intro pP eE sS mM aV bB mE cC AA C hin
  refine z_conv (lv' := [(0, .int x), (1, .int (nI m))]) ⟨rfl, rfl, trivial⟩ rfl rfl ?_
  refine z_iload_n C (pc := 0) dL_at_0 rfl ?_
  refine z_iconst C (pc := 1) (v := nI 1) dL_at_1 (by decide) ?_
  refine z_iushr C (pc := 2) (v := ((x).toUInt32 >>> (((nI 1) : Int32).toUInt32 &&& Int32.toUInt32 31)).toInt32) dL_at_2 rfl ?_
  refine z_iload_n C (pc := 3) dL_at_3 rfl ?_
  refine z_irem C (pc := 4) dL_at_4 (nI_ne0 h0 hm) ?_
  refine z_iret C (pc := 5) () dL_at_5 ?_ rfl
  exact ushr_rem x h0 hm

set_option maxHeartbeats 4000000 in
set_option maxRecDepth 100000 in
theorem g_in (l : Launch) (D : va_G) (cI : ClassId) (tt : Nat × Nat × Nat) (x k : Nat) (hx : x < 2 ^ 31) (hk : k < 32) : MetI (S := Unit) l yL_in cL_in 2 (some .boolean) (rm 0 0) D cI tt [.int (nI x), .int (nI k)] [] (fun q _ => q = b2 (inv x k)) (fun _ => []) := by
  refine met_ofI (by decide) (Nat.le_of_ble_eq_true rfl) ?_
  intro pP eE sS mM aV bB mE cC AA C hin
  refine z_conv (lv' := [(0, .int (nI x)), (1, .int (nI k))]) ⟨rfl, rfl, trivial⟩ rfl rfl ?_
  refine z_iload_n C (pc := 0) dL_in_0 rfl ?_
  refine z_iload_n C (pc := 1) dL_in_1 rfl ?_
  refine z_ishr C (pc := 2) dL_in_2 ?_
  refine z_iconst C (pc := 3) (v := nI 1) dL_in_3 (by decide) ?_
  refine z_iand C (pc := 4) dL_in_4 ?_
  refine z_seti (y := nI (bt x k)) (shr_bt hk hx) ?_
  refine z_iconst C (pc := 5) (v := nI 1) dL_in_5 (by decide) ?_
  refine z_icmp_ne C (pc := 6) (tgt := 13) dL_in_6 (by decide) (fun c_1 => ?_) (fun c_1 => ?_)
  · refine z_iconst C (pc := 13) (v := nI 0) dL_in_13 (by decide) ?_
    refine z_zret C (pc := 14) () dL_in_14 rfl ?_ rfl
    have h1 : ¬ bt x k = 1 := fun e => c_1 (by rw [e])
    unfold inv b2
    rw [decide_eq_false h1]
    rfl
  · refine z_iconst C (pc := 9) (v := nI 1) dL_in_9 (by decide) ?_
    refine z_goto C (pc := 10) (tgt := 14) dL_in_10 (by decide) ?_
    refine z_zret C (pc := 14) () dL_in_14 rfl ?_ rfl
    have h1 : bt x k = 1 := (nI_eq (by have := bt_lt x k; omega) (by decide)).mp c_1
    unfold inv b2
    rw [decide_eq_true h1]
    rfl

set_option maxHeartbeats 4000000 in
set_option maxRecDepth 100000 in
theorem g_size (l : Launch) (D : va_G) (cI : ClassId) (tt : Nat × Nat × Nat) (x : Nat) (hx : x < 2 ^ 31) : MetI (S := Unit) l yL_size cL_size 3 (some .int) (rm 0 0) D cI tt [.int (nI x)] [] (fun q _ => q = nI (pcn x)) (fun _ => []) := by
  refine met_ofI (by decide) (Nat.le_of_ble_eq_true rfl) ?_
  intro pP eE sS mM aV bB mE cC AA C hin
  refine z_conv (lv' := [(0, .int (nI x))]) ⟨rfl, trivial⟩ rfl rfl ?_
  refine z_iconst C (pc := 0) (v := nI 0) dL_size_0 (by decide) ?_
  refine z_istore_n C (pc := 1) (lv' := [(0, .int (nI x)), (1, .int (nI 0))]) dL_size_1 (Nat.le_of_ble_eq_true rfl) rfl rfl ?_
  refine z_iconst C (pc := 2) (v := nI 0) dL_size_2 (by decide) ?_
  refine z_istore_n C (pc := 3) (lv' := [(0, .int (nI x)), (1, .int (nI 0)), (2, .int (nI 0))]) dL_size_3 (Nat.le_of_ble_eq_true rfl) rfl rfl ?_
  have key4 : ∀ (fu4 : Nat) (k : Nat), 10 - k < fu4 → (k ≤ 10) → Z pP l eE (rm 0 0) sS mM aV bB mE cC D AA 3 0 0 (MQ bB (va_Qi (S := Unit) (fun q _ => q = nI (pcn x)) (fun u t => va_P D vwCl ((fun _ => []) u) t.heap) AA) aV sS 0 0 AA) 4 [(0, .int (nI x)), (1, .int (nI (sumk (fun _ => 1) (fun _ => 0) x k))), (2, .int (nI k))] [] [] := by
    intro fu4
    induction fu4 with
    | zero => intro k hfu4; exact absurd hfu4 (Nat.not_lt_zero _)
    | succ fu4 ih4 =>
      intro k hfu4 hk10
      refine z_iload_n C (pc := 4) dL_size_4 rfl ?_
      refine z_bipush C (pc := 5) (v := nI 10) dL_size_5 (by decide) ?_
      refine z_icmp_ge C (pc := 7) (tgt := 24) dL_size_7 (by decide) (fun c_1 => ?_) (fun c_1 => ?_)
      · refine z_iload_n C (pc := 24) dL_size_24 rfl ?_
        refine z_iret C (pc := 25) () dL_size_25 ?_ rfl
        have hke : k = 10 := by
          have := ge_of_nI (n := 10) c_1 (by decide)
          omega
        rw [hke]; rfl
      · have hk : k < 10 := lt_of_nI (n := 10) c_1 (by omega)
        refine z_iload_n C (pc := 10) dL_size_10 rfl ?_
        refine z_iload_n C (pc := 11) dL_size_11 rfl ?_
        refine z_iload_n C (pc := 12) dL_size_12 rfl ?_
        refine z_ishr C (pc := 13) dL_size_13 ?_
        refine z_iconst C (pc := 14) (v := nI 1) dL_size_14 (by decide) ?_
        refine z_iand C (pc := 15) dL_size_15 ?_
        refine z_seti (y := nI (bt x k)) (shr_bt (by omega) hx) ?_
        refine z_iadd C (pc := 16) dL_size_16 ?_
        refine z_seti (y := nI ((sumk (fun _ => 1) (fun _ => 0) x k) + (bt x k))) (nI_add _ _) ?_
        refine z_istore_n C (pc := 17) (lv' := [(0, .int (nI x)), (1, .int (nI ((sumk (fun _ => 1) (fun _ => 0) x k) + (bt x k)))), (2, .int (nI k))]) dL_size_17 (Nat.le_of_ble_eq_true rfl) rfl rfl ?_
        refine z_iinc C (pc := 18) (v := ((nI k) + 1)) (lv' := [(0, .int (nI x)), (1, .int (nI ((sumk (fun _ => 1) (fun _ => 0) x k) + (bt x k)))), (2, .int ((nI k) + 1))]) dL_size_18 rfl rfl (Nat.le_of_ble_eq_true rfl) rfl rfl ?_
        refine z_goto C (pc := 21) (tgt := 4) dL_size_21 (by decide) ?_
        refine z_lv (lv' := [(0, .int (nI x)), (1, .int (nI (sumk (fun _ => 1) (fun _ => 0) x (k + 1)))), (2, .int (nI (k + 1)))]) ⟨rfl, lki (by simp [sumk]), lki (nI_1 k), trivial⟩ ?_
        exact ih4 (k + 1) (by omega) hk
  refine z_lv (lv' := [(0, .int (nI x)), (1, .int (nI (sumk (fun _ => 1) (fun _ => 0) x 0))), (2, .int (nI 0))]) ⟨rfl, rfl, rfl, trivial⟩ ?_
  exact key4 (_ + 1) 0 (Nat.lt_succ_self _) (Nat.zero_le _)

set_option maxHeartbeats 4000000 in
set_option maxRecDepth 100000 in
theorem g_pulls (l : Launch) (D : va_G) (cI : ClassId) (tt : Nat × Nat × Nat) (t : Nat) (ht : t ≤ 4) : MetI (S := Unit) l yL_pulls cL_pulls 1 (some .int) (rm 0 0) D cI tt [.int (nI t)] [] (fun q _ => q = nI (pls t)) (fun _ => []) := by
  refine met_ofI (by decide) (Nat.le_of_ble_eq_true rfl) ?_
  intro pP eE sS mM aV bB mE cC AA C hin
  refine z_conv (lv' := [(0, .int (nI t))]) ⟨rfl, trivial⟩ rfl rfl ?_
  refine z_iload_n C (pc := 0) dL_pulls_0 rfl ?_
  refine z_if_ne C (pc := 1) (tgt := 8) dL_pulls_1 (by decide) (fun c_1 => ?_) (fun c_1 => ?_)
  · refine z_iload_n C (pc := 8) dL_pulls_8 rfl ?_
    refine z_iconst C (pc := 9) (v := nI 1) dL_pulls_9 (by decide) ?_
    refine z_icmp_ne C (pc := 10) (tgt := 18) dL_pulls_10 (by decide) (fun c_2 => ?_) (fun c_2 => ?_)
    · refine z_iload_n C (pc := 18) dL_pulls_18 rfl ?_
      refine z_iconst C (pc := 19) (v := nI 4) dL_pulls_19 (by decide) ?_
      refine z_icmp_ne C (pc := 20) (tgt := 27) dL_pulls_20 (by decide) (fun c_3 => ?_) (fun c_3 => ?_)
      · refine z_iconst C (pc := 27) (v := nI 2) dL_pulls_27 (by decide) ?_
        refine z_iret C (pc := 28) () dL_pulls_28 ?_ rfl
        rcases le4 ht with rfl | rfl | rfl | rfl | rfl <;> first | rfl | exact absurd rfl c_1 | exact absurd c_1 (by decide) | exact absurd rfl c_2 | exact absurd c_2 (by decide) | exact absurd rfl c_3 | exact absurd c_3 (by decide)
      · refine z_iconst C (pc := 23) (v := nI 3) dL_pulls_23 (by decide) ?_
        refine z_goto C (pc := 24) (tgt := 28) dL_pulls_24 (by decide) ?_
        refine z_iret C (pc := 28) () dL_pulls_28 ?_ rfl
        rcases le4 ht with rfl | rfl | rfl | rfl | rfl <;> first | rfl | exact absurd rfl c_1 | exact absurd c_1 (by decide) | exact absurd rfl c_2 | exact absurd c_2 (by decide) | exact absurd rfl c_3 | exact absurd c_3 (by decide)
    · refine z_bipush C (pc := 13) (v := nI 8) dL_pulls_13 (by decide) ?_
      refine z_goto C (pc := 15) (tgt := 28) dL_pulls_15 (by decide) ?_
      refine z_iret C (pc := 28) () dL_pulls_28 ?_ rfl
      rcases le4 ht with rfl | rfl | rfl | rfl | rfl <;> first | rfl | exact absurd rfl c_1 | exact absurd c_1 (by decide) | exact absurd rfl c_2 | exact absurd c_2 (by decide)
  · refine z_iconst C (pc := 4) (v := nI 4) dL_pulls_4 (by decide) ?_
    refine z_goto C (pc := 5) (tgt := 28) dL_pulls_5 (by decide) ?_
    refine z_iret C (pc := 28) () dL_pulls_28 ?_ rfl
    rcases le4 ht with rfl | rfl | rfl | rfl | rfl <;> first | rfl | exact absurd rfl c_1 | exact absurd c_1 (by decide)

set_option maxHeartbeats 4000000 in
set_option maxRecDepth 100000 in
theorem g_feeds (l : Launch) (D : va_G) (cI : ClassId) (tt : Nat × Nat × Nat) (t : Nat) (ht : t ≤ 4) : MetI (S := Unit) l yL_feeds cL_feeds 1 (some .int) (rm 0 0) D cI tt [.int (nI t)] [] (fun q _ => q = nI (fds t)) (fun _ => []) := by
  refine met_ofI (by decide) (Nat.le_of_ble_eq_true rfl) ?_
  intro pP eE sS mM aV bB mE cC AA C hin
  refine z_conv (lv' := [(0, .int (nI t))]) ⟨rfl, trivial⟩ rfl rfl ?_
  refine z_iload_n C (pc := 0) dL_feeds_0 rfl ?_
  refine z_iconst C (pc := 1) (v := nI 1) dL_feeds_1 (by decide) ?_
  refine z_icmp_ne C (pc := 2) (tgt := 10) dL_feeds_2 (by decide) (fun c_1 => ?_) (fun c_1 => ?_)
  · refine z_iload_n C (pc := 10) dL_feeds_10 rfl ?_
    refine z_iconst C (pc := 11) (v := nI 2) dL_feeds_11 (by decide) ?_
    refine z_icmp_ne C (pc := 12) (tgt := 19) dL_feeds_12 (by decide) (fun c_2 => ?_) (fun c_2 => ?_)
    · refine z_iload_n C (pc := 19) dL_feeds_19 rfl ?_
      refine z_iconst C (pc := 20) (v := nI 4) dL_feeds_20 (by decide) ?_
      refine z_icmp_ne C (pc := 21) (tgt := 28) dL_feeds_21 (by decide) (fun c_3 => ?_) (fun c_3 => ?_)
      · refine z_iconst C (pc := 28) (v := nI 0) dL_feeds_28 (by decide) ?_
        refine z_iret C (pc := 29) () dL_feeds_29 ?_ rfl
        rcases le4 ht with rfl | rfl | rfl | rfl | rfl <;> first | rfl | exact absurd rfl c_1 | exact absurd c_1 (by decide) | exact absurd rfl c_2 | exact absurd c_2 (by decide) | exact absurd rfl c_3 | exact absurd c_3 (by decide)
      · refine z_iconst C (pc := 24) (v := nI 3) dL_feeds_24 (by decide) ?_
        refine z_goto C (pc := 25) (tgt := 29) dL_feeds_25 (by decide) ?_
        refine z_iret C (pc := 29) () dL_feeds_29 ?_ rfl
        rcases le4 ht with rfl | rfl | rfl | rfl | rfl <;> first | rfl | exact absurd rfl c_1 | exact absurd c_1 (by decide) | exact absurd rfl c_2 | exact absurd c_2 (by decide) | exact absurd rfl c_3 | exact absurd c_3 (by decide)
    · refine z_iconst C (pc := 15) (v := nI 2) dL_feeds_15 (by decide) ?_
      refine z_goto C (pc := 16) (tgt := 29) dL_feeds_16 (by decide) ?_
      refine z_iret C (pc := 29) () dL_feeds_29 ?_ rfl
      rcases le4 ht with rfl | rfl | rfl | rfl | rfl <;> first | rfl | exact absurd rfl c_1 | exact absurd c_1 (by decide) | exact absurd rfl c_2 | exact absurd c_2 (by decide)
  · refine z_bipush C (pc := 5) (v := nI 6) dL_feeds_5 (by decide) ?_
    refine z_goto C (pc := 7) (tgt := 29) dL_feeds_7 (by decide) ?_
    refine z_iret C (pc := 29) () dL_feeds_29 ?_ rfl
    rcases le4 ht with rfl | rfl | rfl | rfl | rfl <;> first | rfl | exact absurd rfl c_1 | exact absurd c_1 (by decide)

set_option maxHeartbeats 4000000 in
set_option maxRecDepth 100000 in
theorem g_sumP (l : Launch) (D : va_G) (cI : ClassId) (tt : Nat × Nat × Nat) (ab : Nat) (fb : Nat → Int32) (kd : Nat → Nat) (n : Nat) (hb : BV fb kd n) (x : Nat) (hx : x < 2 ^ 31) : MetI (S := Unit) l yL_sum cL_sum 5 (some .int) (rm 1 21) D cI tt [.ref ab, .int (nI x), .int (nI 0)] [(ab, .inl (cI, 7, .inl fb))] (fun q _ => q = nI (sumk pls kd x n)) (fun _ => [(ab, .inl (cI, 7, .inl fb))]) := by
  have hn6 := hb.2.1
  refine met_ofI (by decide) (Nat.le_of_ble_eq_true rfl) ?_
  intro pP eE sS mM aV bB mE cC AA C hin
  refine z_conv (lv' := [(0, .ref ab), (1, .int (nI x)), (2, .int (nI 0))]) ⟨rfl, rfl, rfl, trivial⟩ rfl rfl ?_
  refine z_iconst C (pc := 0) (v := nI 0) dL_sum_0 (by decide) ?_
  refine z_istore_n C (pc := 1) (lv' := [(0, .ref ab), (1, .int (nI x)), (2, .int (nI 0)), (3, .int (nI 0))]) dL_sum_1 (Nat.le_of_ble_eq_true rfl) rfl rfl ?_
  refine z_iconst C (pc := 2) (v := nI 0) dL_sum_2 (by decide) ?_
  refine z_istore C (pc := 3) (lv' := [(0, .ref ab), (1, .int (nI x)), (2, .int (nI 0)), (3, .int (nI 0)), (4, .int (nI 0))]) dL_sum_3 (Nat.le_of_ble_eq_true rfl) rfl rfl ?_
  have key5 : ∀ (fu5 : Nat) (k : Nat), n - k < fu5 → (k ≤ n) → Z pP l eE (rm 1 21) sS mM aV bB mE cC D AA 5 0 0 (MQ bB (va_Qi (S := Unit) (fun q _ => q = nI (sumk pls kd x n)) (fun u t => va_P D vwCl ((fun _ => [(ab, .inl (cI, 7, .inl fb))]) u) t.heap) AA) aV sS 0 0 AA) 5 [(0, .ref ab), (1, .int (nI x)), (2, .int (nI 0)), (3, .int (nI (sumk pls kd x k))), (4, .int (nI k))] [] [(ab, .inl (cI, 7, .inl fb))] := by
    intro fu5
    induction fu5 with
    | zero => intro k hfu5; exact absurd hfu5 (Nat.not_lt_zero _)
    | succ fu5 ih5 =>
      intro k hfu5 hkn
      refine z_iload C (pc := 5) dL_sum_5 rfl ?_
      refine z_aload_n C (pc := 7) dL_sum_7 rfl ?_
      refine z_iconst C (pc := 8) (v := nI 0) dL_sum_8 (by decide) ?_
      have h_1 : vp_in (nI 0) 7 := by exact vp_in_nI (by omega) (by decide)
      refine z_iald C (pc := 9) 0 rfl h_1 dL_sum_9 ?_
      refine z_seti (y := (fb 0)) (by rw [nI_clamp (by omega)]) ?_
      refine z_seti (y := nI n) hb.1 ?_
      refine z_icmp_ge C (pc := 10) (tgt := 62) dL_sum_10 (by decide) (fun c_2 => ?_) (fun c_2 => ?_)
      · refine z_iload_n C (pc := 62) dL_sum_62 rfl ?_
        refine z_iret C (pc := 63) () dL_sum_63 ?_ rfl
        have hke : k = n := by
          have := ge_of_nI c_2 (by omega)
          omega
        rw [hke]
      · have hk : k < n := lt_of_nI c_2 (by omega)
        have hbk := hb.2.2 k hk
        refine z_iload_n C (pc := 13) dL_sum_13 rfl ?_
        refine z_iload C (pc := 14) dL_sum_14 rfl ?_
        refine z_calli C (isC := []) rfl (by exact fun _ => rfl) (runS C (wc := []) (pc := 16) (rY' := rm 0 0) (nn := 2) (As := [.int (nI x), .int (nI k)]) (rest := []) (g_in l D cI tt x k hx (by omega)) rfl rfl ⟨rfl, rfl, ⟨Nat.le_of_ble_eq_true rfl, Nat.le_of_ble_eq_true rfl⟩, Nat.le_of_ble_eq_true rfl, Nat.le_of_ble_eq_true rfl⟩ wl_L_20 ws_L_in wi_L wc_L_in (by decide +kernel) rfl rfl (Nat.le_of_ble_eq_true rfl) dL_sum_16) (fun r_3 u_3 h_3 => ?_)
        subst h_3
        refine z_ws (st' := [.int (b2 (inv x k))]) (ws' := [(ab, .inl (cI, 7, .inl fb))]) rfl rfl ?_
        refine z_if_eq C (pc := 19) (tgt := 56) dL_sum_19 (by decide) (fun c_4 => ?_) (fun c_4 => ?_)
        · have hin0 : inv x k = false := b2_f c_4
          refine z_iinc C (pc := 56) (v := ((nI k) + 1)) (lv' := [(0, .ref ab), (1, .int (nI x)), (2, .int (nI 0)), (3, .int (nI (sumk pls kd x k))), (4, .int ((nI k) + 1))]) dL_sum_56 rfl rfl (Nat.le_of_ble_eq_true rfl) rfl rfl ?_
          refine z_goto C (pc := 59) (tgt := 5) dL_sum_59 (by decide) ?_
          refine z_lv (lv' := [(0, .ref ab), (1, .int (nI x)), (2, .int (nI 0)), (3, .int (nI (sumk pls kd x (k + 1)))), (4, .int (nI (k + 1)))]) ⟨rfl, rfl, rfl, lki (by have e : bt x k = 0 := (bt_01 x k).resolve_right (of_decide_eq_false hin0); simp [sumk, e]), lki (nI_1 k), trivial⟩ ?_
          exact ih5 (k + 1) (by omega) hk
        · have hin0 : inv x k = true := b2_t c_4
          refine z_iload_n C (pc := 22) dL_sum_22 rfl ?_
          refine z_iload_n C (pc := 23) dL_sum_23 rfl ?_
          refine z_if_ne C (pc := 24) (tgt := 39) dL_sum_24 (by decide) (fun c_5 => ?_) (fun c_5 => ?_)
          · exact absurd c_5 (by decide)
          · refine z_aload_n C (pc := 27) dL_sum_27 rfl ?_
            refine z_iconst C (pc := 28) (v := nI 1) dL_sum_28 (by decide) ?_
            refine z_iload C (pc := 29) dL_sum_29 rfl ?_
            refine z_iadd C (pc := 31) dL_sum_31 ?_
            refine z_seti (y := nI (1 + k)) (nI_add _ _) ?_
            have h_6 : vp_in (nI (1 + k)) 7 := by exact vp_in_nI (by omega) (by decide)
            refine z_iald C (pc := 32) 0 rfl h_6 dL_sum_32 ?_
            refine z_seti (y := (fb (1 + k))) (by rw [nI_clamp (by omega)]) ?_
            refine z_seti (y := nI (kd k)) (by rw [Nat.add_comm]; exact hbk.1) ?_
            refine z_calli C (isC := []) rfl (by exact fun _ => rfl) (runS C (wc := []) (pc := 33) (rY' := rm 0 0) (nn := 1) (As := [.int (nI (kd k))]) (rest := [.int (nI (sumk pls kd x k))]) (g_pulls l D cI tt (kd k) hbk.2) rfl rfl ⟨rfl, rfl, ⟨Nat.le_of_ble_eq_true rfl, Nat.le_of_ble_eq_true rfl⟩, Nat.le_of_ble_eq_true rfl, Nat.le_of_ble_eq_true rfl⟩ wl_L_24 ws_L_pulls wi_L wc_L_pulls (by decide +kernel) rfl rfl (Nat.le_of_ble_eq_true rfl) dL_sum_33) (fun r_7 u_7 h_7 => ?_)
            subst h_7
            refine z_ws (st' := [.int (nI (pls (kd k))), .int (nI (sumk pls kd x k))]) (ws' := [(ab, .inl (cI, 7, .inl fb))]) rfl rfl ?_
            refine z_goto C (pc := 36) (tgt := 54) dL_sum_36 (by decide) ?_
            refine z_iadd C (pc := 54) dL_sum_54 ?_
            refine z_seti (y := nI ((sumk pls kd x k) + (pls (kd k)))) (nI_add _ _) ?_
            refine z_istore_n C (pc := 55) (lv' := [(0, .ref ab), (1, .int (nI x)), (2, .int (nI 0)), (3, .int (nI ((sumk pls kd x k) + (pls (kd k))))), (4, .int (nI k))]) dL_sum_55 (Nat.le_of_ble_eq_true rfl) rfl rfl ?_
            refine z_iinc C (pc := 56) (v := ((nI k) + 1)) (lv' := [(0, .ref ab), (1, .int (nI x)), (2, .int (nI 0)), (3, .int (nI ((sumk pls kd x k) + (pls (kd k))))), (4, .int ((nI k) + 1))]) dL_sum_56 rfl rfl (Nat.le_of_ble_eq_true rfl) rfl rfl ?_
            refine z_goto C (pc := 59) (tgt := 5) dL_sum_59 (by decide) ?_
            refine z_lv (lv' := [(0, .ref ab), (1, .int (nI x)), (2, .int (nI 0)), (3, .int (nI (sumk pls kd x (k + 1)))), (4, .int (nI (k + 1)))]) ⟨rfl, rfl, rfl, lki (by have e : bt x k = 1 := of_decide_eq_true hin0; simp [sumk, e]), lki (nI_1 k), trivial⟩ ?_
            exact ih5 (k + 1) (by omega) hk
  refine z_lv (lv' := [(0, .ref ab), (1, .int (nI x)), (2, .int (nI 0)), (3, .int (nI (sumk pls kd x 0))), (4, .int (nI 0))]) ⟨rfl, rfl, rfl, rfl, rfl, trivial⟩ ?_
  exact key5 (_ + 1) 0 (Nat.lt_succ_self _) (Nat.zero_le _)

set_option maxHeartbeats 4000000 in
set_option maxRecDepth 100000 in
theorem g_sumE (l : Launch) (D : va_G) (cI : ClassId) (tt : Nat × Nat × Nat) (ab : Nat) (fb : Nat → Int32) (kd : Nat → Nat) (n : Nat) (hb : BV fb kd n) (x : Nat) (hx : x < 2 ^ 31) : MetI (S := Unit) l yL_sum cL_sum 5 (some .int) (rm 1 21) D cI tt [.ref ab, .int (nI x), .int (nI 1)] [(ab, .inl (cI, 7, .inl fb))] (fun q _ => q = nI (sumk ets kd x n)) (fun _ => [(ab, .inl (cI, 7, .inl fb))]) := by
  have hn6 := hb.2.1
  refine met_ofI (by decide) (Nat.le_of_ble_eq_true rfl) ?_
  intro pP eE sS mM aV bB mE cC AA C hin
  refine z_conv (lv' := [(0, .ref ab), (1, .int (nI x)), (2, .int (nI 1))]) ⟨rfl, rfl, rfl, trivial⟩ rfl rfl ?_
  refine z_iconst C (pc := 0) (v := nI 0) dL_sum_0 (by decide) ?_
  refine z_istore_n C (pc := 1) (lv' := [(0, .ref ab), (1, .int (nI x)), (2, .int (nI 1)), (3, .int (nI 0))]) dL_sum_1 (Nat.le_of_ble_eq_true rfl) rfl rfl ?_
  refine z_iconst C (pc := 2) (v := nI 0) dL_sum_2 (by decide) ?_
  refine z_istore C (pc := 3) (lv' := [(0, .ref ab), (1, .int (nI x)), (2, .int (nI 1)), (3, .int (nI 0)), (4, .int (nI 0))]) dL_sum_3 (Nat.le_of_ble_eq_true rfl) rfl rfl ?_
  have key5 : ∀ (fu5 : Nat) (k : Nat), n - k < fu5 → (k ≤ n) → Z pP l eE (rm 1 21) sS mM aV bB mE cC D AA 5 0 0 (MQ bB (va_Qi (S := Unit) (fun q _ => q = nI (sumk ets kd x n)) (fun u t => va_P D vwCl ((fun _ => [(ab, .inl (cI, 7, .inl fb))]) u) t.heap) AA) aV sS 0 0 AA) 5 [(0, .ref ab), (1, .int (nI x)), (2, .int (nI 1)), (3, .int (nI (sumk ets kd x k))), (4, .int (nI k))] [] [(ab, .inl (cI, 7, .inl fb))] := by
    intro fu5
    induction fu5 with
    | zero => intro k hfu5; exact absurd hfu5 (Nat.not_lt_zero _)
    | succ fu5 ih5 =>
      intro k hfu5 hkn
      refine z_iload C (pc := 5) dL_sum_5 rfl ?_
      refine z_aload_n C (pc := 7) dL_sum_7 rfl ?_
      refine z_iconst C (pc := 8) (v := nI 0) dL_sum_8 (by decide) ?_
      have h_1 : vp_in (nI 0) 7 := by exact vp_in_nI (by omega) (by decide)
      refine z_iald C (pc := 9) 0 rfl h_1 dL_sum_9 ?_
      refine z_seti (y := (fb 0)) (by rw [nI_clamp (by omega)]) ?_
      refine z_seti (y := nI n) hb.1 ?_
      refine z_icmp_ge C (pc := 10) (tgt := 62) dL_sum_10 (by decide) (fun c_2 => ?_) (fun c_2 => ?_)
      · refine z_iload_n C (pc := 62) dL_sum_62 rfl ?_
        refine z_iret C (pc := 63) () dL_sum_63 ?_ rfl
        have hke : k = n := by
          have := ge_of_nI c_2 (by omega)
          omega
        rw [hke]
      · have hk : k < n := lt_of_nI c_2 (by omega)
        have hbk := hb.2.2 k hk
        refine z_iload_n C (pc := 13) dL_sum_13 rfl ?_
        refine z_iload C (pc := 14) dL_sum_14 rfl ?_
        refine z_calli C (isC := []) rfl (by exact fun _ => rfl) (runS C (wc := []) (pc := 16) (rY' := rm 0 0) (nn := 2) (As := [.int (nI x), .int (nI k)]) (rest := []) (g_in l D cI tt x k hx (by omega)) rfl rfl ⟨rfl, rfl, ⟨Nat.le_of_ble_eq_true rfl, Nat.le_of_ble_eq_true rfl⟩, Nat.le_of_ble_eq_true rfl, Nat.le_of_ble_eq_true rfl⟩ wl_L_20 ws_L_in wi_L wc_L_in (by decide +kernel) rfl rfl (Nat.le_of_ble_eq_true rfl) dL_sum_16) (fun r_3 u_3 h_3 => ?_)
        subst h_3
        refine z_ws (st' := [.int (b2 (inv x k))]) (ws' := [(ab, .inl (cI, 7, .inl fb))]) rfl rfl ?_
        refine z_if_eq C (pc := 19) (tgt := 56) dL_sum_19 (by decide) (fun c_4 => ?_) (fun c_4 => ?_)
        · have hin0 : inv x k = false := b2_f c_4
          refine z_iinc C (pc := 56) (v := ((nI k) + 1)) (lv' := [(0, .ref ab), (1, .int (nI x)), (2, .int (nI 1)), (3, .int (nI (sumk ets kd x k))), (4, .int ((nI k) + 1))]) dL_sum_56 rfl rfl (Nat.le_of_ble_eq_true rfl) rfl rfl ?_
          refine z_goto C (pc := 59) (tgt := 5) dL_sum_59 (by decide) ?_
          refine z_lv (lv' := [(0, .ref ab), (1, .int (nI x)), (2, .int (nI 1)), (3, .int (nI (sumk ets kd x (k + 1)))), (4, .int (nI (k + 1)))]) ⟨rfl, rfl, rfl, lki (by have e : bt x k = 0 := (bt_01 x k).resolve_right (of_decide_eq_false hin0); simp [sumk, e]), lki (nI_1 k), trivial⟩ ?_
          exact ih5 (k + 1) (by omega) hk
        · have hin0 : inv x k = true := b2_t c_4
          refine z_iload_n C (pc := 22) dL_sum_22 rfl ?_
          refine z_iload_n C (pc := 23) dL_sum_23 rfl ?_
          refine z_if_ne C (pc := 24) (tgt := 39) dL_sum_24 (by decide) (fun c_5 => ?_) (fun c_5 => ?_)
          · refine z_aload_n C (pc := 39) dL_sum_39 rfl ?_
            refine z_iconst C (pc := 40) (v := nI 1) dL_sum_40 (by decide) ?_
            refine z_iload C (pc := 41) dL_sum_41 rfl ?_
            refine z_iadd C (pc := 43) dL_sum_43 ?_
            refine z_seti (y := nI (1 + k)) (nI_add _ _) ?_
            have h_6 : vp_in (nI (1 + k)) 7 := by exact vp_in_nI (by omega) (by decide)
            refine z_iald C (pc := 44) 0 rfl h_6 dL_sum_44 ?_
            refine z_seti (y := (fb (1 + k))) (by rw [nI_clamp (by omega)]) ?_
            refine z_seti (y := nI (kd k)) (by rw [Nat.add_comm]; exact hbk.1) ?_
            refine z_iconst C (pc := 45) (v := nI 1) dL_sum_45 (by decide) ?_
            refine z_icmp_ne C (pc := 46) (tgt := 53) dL_sum_46 (by decide) (fun c_7 => ?_) (fun c_7 => ?_)
            · have hke : ¬ kd k = 1 := fun e => c_7 (by rw [e])
              have het : ets (kd k) = 1 := (show ∀ t, t < 5 → ¬ t = 1 → ets t = 1 by decide) _ (by omega) hke
              refine z_iconst C (pc := 53) (v := nI 1) dL_sum_53 (by decide) ?_
              refine z_iadd C (pc := 54) dL_sum_54 ?_
              refine z_seti (y := nI ((sumk ets kd x k) + 1)) (nI_add _ _) ?_
              refine z_istore_n C (pc := 55) (lv' := [(0, .ref ab), (1, .int (nI x)), (2, .int (nI 1)), (3, .int (nI ((sumk ets kd x k) + 1))), (4, .int (nI k))]) dL_sum_55 (Nat.le_of_ble_eq_true rfl) rfl rfl ?_
              refine z_iinc C (pc := 56) (v := ((nI k) + 1)) (lv' := [(0, .ref ab), (1, .int (nI x)), (2, .int (nI 1)), (3, .int (nI ((sumk ets kd x k) + 1))), (4, .int ((nI k) + 1))]) dL_sum_56 rfl rfl (Nat.le_of_ble_eq_true rfl) rfl rfl ?_
              refine z_goto C (pc := 59) (tgt := 5) dL_sum_59 (by decide) ?_
              refine z_lv (lv' := [(0, .ref ab), (1, .int (nI x)), (2, .int (nI 1)), (3, .int (nI (sumk ets kd x (k + 1)))), (4, .int (nI (k + 1)))]) ⟨rfl, rfl, rfl, lki (by have e : bt x k = 1 := of_decide_eq_true hin0; simp [sumk, e, het]), lki (nI_1 k), trivial⟩ ?_
              exact ih5 (k + 1) (by omega) hk
            · have hke : kd k = 1 := (nI_eq (by omega) (by decide)).mp c_7
              have het : ets (kd k) = 2 := by rw [hke]; rfl
              refine z_iconst C (pc := 49) (v := nI 2) dL_sum_49 (by decide) ?_
              refine z_goto C (pc := 50) (tgt := 54) dL_sum_50 (by decide) ?_
              refine z_iadd C (pc := 54) dL_sum_54 ?_
              refine z_seti (y := nI ((sumk ets kd x k) + 2)) (nI_add _ _) ?_
              refine z_istore_n C (pc := 55) (lv' := [(0, .ref ab), (1, .int (nI x)), (2, .int (nI 1)), (3, .int (nI ((sumk ets kd x k) + 2))), (4, .int (nI k))]) dL_sum_55 (Nat.le_of_ble_eq_true rfl) rfl rfl ?_
              refine z_iinc C (pc := 56) (v := ((nI k) + 1)) (lv' := [(0, .ref ab), (1, .int (nI x)), (2, .int (nI 1)), (3, .int (nI ((sumk ets kd x k) + 2))), (4, .int ((nI k) + 1))]) dL_sum_56 rfl rfl (Nat.le_of_ble_eq_true rfl) rfl rfl ?_
              refine z_goto C (pc := 59) (tgt := 5) dL_sum_59 (by decide) ?_
              refine z_lv (lv' := [(0, .ref ab), (1, .int (nI x)), (2, .int (nI 1)), (3, .int (nI (sumk ets kd x (k + 1)))), (4, .int (nI (k + 1)))]) ⟨rfl, rfl, rfl, lki (by have e : bt x k = 1 := of_decide_eq_true hin0; simp [sumk, e, het]), lki (nI_1 k), trivial⟩ ?_
              exact ih5 (k + 1) (by omega) hk
          · exact absurd c_5 (by decide)
  refine z_lv (lv' := [(0, .ref ab), (1, .int (nI x)), (2, .int (nI 1)), (3, .int (nI (sumk ets kd x 0))), (4, .int (nI 0))]) ⟨rfl, rfl, rfl, rfl, rfl, trivial⟩ ?_
  exact key5 (_ + 1) 0 (Nat.lt_succ_self _) (Nat.zero_le _)

set_option maxHeartbeats 4000000 in
set_option maxRecDepth 100000 in
theorem g_lying (l : Launch) (D : va_G) (cI : ClassId) (tt : Nat × Nat × Nat) (ad : Nat) (fd : Nat → Int32) (c : Nat → Nat) (hd : DV fd c) : MetI (S := Unit) l yL_lying cL_lying 1 (some .int) (rm 0 0) D cI tt [.ref ad] [(ad, .inl (cI, 9, .inl fd))] (fun q _ => q = nI (sumN c)) (fun _ => [(ad, .inl (cI, 9, .inl fd))]) := by
  refine met_ofI (by decide) (Nat.le_of_ble_eq_true rfl) ?_
  intro pP eE sS mM aV bB mE cC AA C hin
  refine z_conv (lv' := [(0, .ref ad)]) ⟨rfl, trivial⟩ rfl rfl ?_
  refine z_aload_n C (pc := 0) dL_lying_0 rfl ?_
  refine z_iconst C (pc := 1) (v := nI 1) dL_lying_1 (by decide) ?_
  have h_1 : vp_in (nI 1) 9 := by exact vp_in_nI (by omega) (by decide)
  refine z_iald C (pc := 2) 0 rfl h_1 dL_lying_2 ?_
  refine z_seti (y := (fd 1)) (by rw [nI_clamp (by omega)]) ?_
  refine z_seti (y := nI (c 0)) ((hd 0 (by decide)).1) ?_
  refine z_aload_n C (pc := 3) dL_lying_3 rfl ?_
  refine z_iconst C (pc := 4) (v := nI 2) dL_lying_4 (by decide) ?_
  have h_2 : vp_in (nI 2) 9 := by exact vp_in_nI (by omega) (by decide)
  refine z_iald C (pc := 5) 0 rfl h_2 dL_lying_5 ?_
  refine z_seti (y := (fd 2)) (by rw [nI_clamp (by omega)]) ?_
  refine z_seti (y := nI (c 1)) ((hd 1 (by decide)).1) ?_
  refine z_iadd C (pc := 6) dL_lying_6 ?_
  refine z_seti (y := nI ((c 0) + (c 1))) (nI_add _ _) ?_
  refine z_aload_n C (pc := 7) dL_lying_7 rfl ?_
  refine z_iconst C (pc := 8) (v := nI 3) dL_lying_8 (by decide) ?_
  have h_3 : vp_in (nI 3) 9 := by exact vp_in_nI (by omega) (by decide)
  refine z_iald C (pc := 9) 0 rfl h_3 dL_lying_9 ?_
  refine z_seti (y := (fd 3)) (by rw [nI_clamp (by omega)]) ?_
  refine z_seti (y := nI (c 2)) ((hd 2 (by decide)).1) ?_
  refine z_iadd C (pc := 10) dL_lying_10 ?_
  refine z_seti (y := nI (((c 0) + (c 1)) + (c 2))) (nI_add _ _) ?_
  refine z_aload_n C (pc := 11) dL_lying_11 rfl ?_
  refine z_iconst C (pc := 12) (v := nI 4) dL_lying_12 (by decide) ?_
  have h_4 : vp_in (nI 4) 9 := by exact vp_in_nI (by omega) (by decide)
  refine z_iald C (pc := 13) 0 rfl h_4 dL_lying_13 ?_
  refine z_seti (y := (fd 4)) (by rw [nI_clamp (by omega)]) ?_
  refine z_seti (y := nI (c 3)) ((hd 3 (by decide)).1) ?_
  refine z_iadd C (pc := 14) dL_lying_14 ?_
  refine z_seti (y := nI ((((c 0) + (c 1)) + (c 2)) + (c 3))) (nI_add _ _) ?_
  refine z_aload_n C (pc := 15) dL_lying_15 rfl ?_
  refine z_iconst C (pc := 16) (v := nI 5) dL_lying_16 (by decide) ?_
  have h_5 : vp_in (nI 5) 9 := by exact vp_in_nI (by omega) (by decide)
  refine z_iald C (pc := 17) 0 rfl h_5 dL_lying_17 ?_
  refine z_seti (y := (fd 5)) (by rw [nI_clamp (by omega)]) ?_
  refine z_seti (y := nI (c 4)) ((hd 4 (by decide)).1) ?_
  refine z_iadd C (pc := 18) dL_lying_18 ?_
  refine z_seti (y := nI (((((c 0) + (c 1)) + (c 2)) + (c 3)) + (c 4))) (nI_add _ _) ?_
  refine z_iret C (pc := 19) () dL_lying_19 ?_ rfl
  rfl

def ovv (f1 f2 : Nat → Int32) : Nat → Nat → Int32
  | 0 => f1
  | j + 1 => upd (ovv f1 f2 j) j (f2 j)
theorem ovv_at (f1 f2 : Nat → Int32) : ∀ (n k : Nat), ovv f1 f2 n k = if k < n then f2 k else f1 k
  | 0, k => by simp [ovv]
  | n + 1, k => by
    show upd (ovv f1 f2 n) n (f2 n) k = _
    unfold upd
    by_cases e : k = n
    · subst e; simp
    · rw [if_neg e, ovv_at f1 f2 n k]
      by_cases e2 : k < n
      · rw [if_pos e2, if_pos (by omega)]
      · rw [if_neg e2, if_neg (by omega)]

set_option maxHeartbeats 4000000 in
set_option maxRecDepth 100000 in
theorem g_over (l : Launch) (D : va_G) (cI : ClassId) (tt : Nat × Nat × Nat) (a1 a2 : Nat) (f1 f2 : Nat → Int32) : MetV (S := (Nat → Int32)) l yL_over cL_over 3 none (rm 0 0) D cI tt [.ref a1, .ref a2] [(a1, .inl (cI, 9, .inl f1)), (a2, .inl (cI, 9, .inl f2))] (fun g => ∀ k, k < 9 → g k = f2 k) (fun g => [(a1, .inl (cI, 9, .inl g)), (a2, .inl (cI, 9, .inl f2))]) := by
  refine met_ofV (by decide) (Nat.le_of_ble_eq_true rfl) ?_
  intro pP eE sS mM aV bB mE cC AA C hin
  refine z_conv (lv' := [(0, .ref a1), (1, .ref a2)]) ⟨rfl, rfl, trivial⟩ rfl rfl ?_
  refine z_iconst C (pc := 0) (v := nI 0) dL_over_0 (by decide) ?_
  refine z_istore_n C (pc := 1) (lv' := [(0, .ref a1), (1, .ref a2), (2, .int (nI 0))]) dL_over_1 (Nat.le_of_ble_eq_true rfl) rfl rfl ?_
  have key2 : ∀ (fu2 : Nat) (j : Nat), 9 - j < fu2 → (j ≤ 9) → Z pP l eE (rm 0 0) sS mM aV bB mE cC D AA 3 0 0 (MQ bB (va_Qv (S := (Nat → Int32)) (fun g => ∀ k, k < 9 → g k = f2 k) (fun u t => va_P D vwCl ((fun g => [(a1, .inl (cI, 9, .inl g)), (a2, .inl (cI, 9, .inl f2))]) u) t.heap) AA) aV sS 0 0 AA) 2 [(0, .ref a1), (1, .ref a2), (2, .int (nI j))] [] [(a1, .inl (cI, 9, .inl (ovv f1 f2 j))), (a2, .inl (cI, 9, .inl f2))] := by
    intro fu2
    induction fu2 with
    | zero => intro j hfu2; exact absurd hfu2 (Nat.not_lt_zero _)
    | succ fu2 ih2 =>
      intro j hfu2 hj9
      refine z_iload_n C (pc := 2) dL_over_2 rfl ?_
      refine z_bipush C (pc := 3) (v := nI 9) dL_over_3 (by decide) ?_
      refine z_icmp_ge C (pc := 5) (tgt := 20) dL_over_5 (by decide) (fun c_1 => ?_) (fun c_1 => ?_)
      · refine z_vret C (pc := 20) (ovv f1 f2 j) dL_over_20 ?_ rfl
        have hje : j = 9 := by
          have := ge_of_nI (n := 9) c_1 (by decide)
          omega
        subst hje
        exact fun k hk => by rw [ovv_at, if_pos hk]
      · have hj : j < 9 := lt_of_nI (n := 9) c_1 (by omega)
        refine z_aload_n C (pc := 8) dL_over_8 rfl ?_
        refine z_iload_n C (pc := 9) dL_over_9 rfl ?_
        refine z_aload_n C (pc := 10) dL_over_10 rfl ?_
        refine z_iload_n C (pc := 11) dL_over_11 rfl ?_
        have h_2 : vp_in (nI j) 9 := by exact vp_in_nI (by omega) (by decide)
        refine z_iald C (pc := 12) 1 rfl h_2 dL_over_12 ?_
        refine z_seti (y := (f2 j)) (by rw [nI_clamp (by omega)]) ?_
        have h_3 : vp_in (nI j) 9 := by exact vp_in_nI (by omega) (by decide)
        refine z_iast C (pc := 13) 0 rfl h_3 (ws' := [(a1, .inl (cI, 9, .inl (upd (ovv f1 f2 j) j (f2 j)))), (a2, .inl (cI, 9, .inl f2))]) (by rw [nI_clamp (by omega)]; rfl) dL_over_13 ?_
        refine z_iinc C (pc := 14) (v := ((nI j) + 1)) (lv' := [(0, .ref a1), (1, .ref a2), (2, .int ((nI j) + 1))]) dL_over_14 rfl rfl (Nat.le_of_ble_eq_true rfl) rfl rfl ?_
        refine z_goto C (pc := 17) (tgt := 2) dL_over_17 (by decide) ?_
        refine z_ws (st' := []) (ws' := [(a1, .inl (cI, 9, .inl (ovv f1 f2 (j + 1)))), (a2, .inl (cI, 9, .inl f2))]) (rfl) rfl ?_
        refine z_lv (lv' := [(0, .ref a1), (1, .ref a2), (2, .int (nI (j + 1)))]) ⟨rfl, rfl, lki (nI_1 j), trivial⟩ ?_
        exact ih2 (j + 1) (by omega) hj
  refine z_ws (st' := []) (ws' := [(a1, .inl (cI, 9, .inl (ovv f1 f2 0))), (a2, .inl (cI, 9, .inl f2))]) (rfl) rfl ?_
  refine z_lv (lv' := [(0, .ref a1), (1, .ref a2), (2, .int (nI 0))]) ⟨rfl, rfl, rfl, trivial⟩ ?_
  exact key2 (_ + 1) 0 (Nat.lt_succ_self _) (Nat.zero_le _)
end
section
/-! a march of the law's -/
def pvS (kd : Nat → Nat) (n st j sn k : Nat) (s : Nat × Nat) : Nat × Nat := if sn = 0 then (if j ≤ st ∧ 3 ≤ j - 1 then pon kd n k s else s) else bea kd n k s
def svS (kd : Nat → Nat) (n st j : Nat) : Nat → Nat × Nat → Nat × Nat
  | 0, s => s
  | q + 1, s => pvS kd n st j q n (svS kd n st j q s)
theorem svS_2 {kd : Nat → Nat} {n st j : Nat} {s : Nat × Nat} : svS kd n st j 2 s = outv kd n st j s := by
  show pvS kd n st j 1 n (pvS kd n st j 0 n s) = _
  unfold pvS outv
  rw [if_neg (by decide), if_pos rfl]
def isv (kd : Nat → Nat) (n st j sn k : Nat) (s : Nat × Nat) : Prop := if sn = 0 then (j ≤ st ∧ 3 ≤ j - 1 ∧ kd k = 1) else (isB (kd k) = true ∧ s.2 < sumk ets kd s.1 n)
theorem pv_0 {kd : Nat → Nat} {n st j sn : Nat} {s : Nat × Nat} : pvS kd n st j sn 0 s = s := by
  unfold pvS
  by_cases h : sn = 0
  · rw [if_pos h]
    split <;> rfl
  · rw [if_neg h]; rfl
theorem pv_dev {kd : Nat → Nat} {n st j sn k : Nat} {s : Nat × Nat} (h : isv kd n st j sn k s) : pvS kd n st j sn (k + 1) s = pvS kd n st j sn k (dev kd n k s) := by
  unfold isv at h
  unfold pvS
  by_cases e : sn = 0
  · rw [if_pos e] at h
    rw [if_pos e, if_pos e, if_pos ⟨h.1, h.2.1⟩, if_pos ⟨h.1, h.2.1⟩]
    exact pon_s h.2.2
  · rw [if_neg e] at h
    rw [if_neg e, if_neg e]
    exact bea_s h.2 h.1
theorem pv_not {kd : Nat → Nat} {n st j sn k : Nat} {s : Nat × Nat} (h : ¬ isv kd n st j sn k s) : pvS kd n st j sn (k + 1) s = pvS kd n st j sn k s := by
  unfold isv at h
  unfold pvS
  by_cases e : sn = 0
  · rw [if_pos e] at h
    rw [if_pos e, if_pos e]
    by_cases e2 : j ≤ st ∧ 3 ≤ j - 1
    · rw [if_pos e2, if_pos e2]
      exact pon_n (fun e3 => h ⟨e2.1, e2.2, e3⟩)
    · rw [if_neg e2, if_neg e2]
  · rw [if_neg e] at h
    rw [if_neg e, if_neg e]
    by_cases e0 : s.2 < sumk ets kd s.1 n
    · exact bea_n e0 (fun e1 => h ⟨e1, e0⟩)
    · rw [bea_x e0, bea_x e0]
theorem pv_bt {kd : Nat → Nat} {n st j sn k : Nat} {s : Nat × Nat} (h : ¬ bt s.1 k = 1) : pvS kd n st j sn (k + 1) s = pvS kd n st j sn k s := by
  by_cases e : isv kd n st j sn k s
  · rw [pv_dev e]
    have : dev kd n k s = s := by unfold dev; rw [if_neg h]
    rw [this]
  · exact pv_not e
theorem isB_fds {t : Nat} (h : t ≤ 4) : isB t = decide (0 < fds t) := (show ∀ t, t < 5 → isB t = decide (0 < fds t) by decide) t (by omega)
theorem lwg_dead {kd : Nat → Nat} {n st j xx ff : Nat} {z : MS} (h : (xx, ff) = outv kd n st j (z.1, z.2.1)) (hd : xx = 0 ∨ ff < sumk ets kd xx n) : legv kd n st j z = (0, 0, z.2.2.1, j) := by
  unfold legv
  rw [← h]
  exact if_pos hd
theorem lwg_out {kd : Nat → Nat} {n st j xx ff : Nat} {z : MS} (h : (xx, ff) = outv kd n st j (z.1, z.2.1)) (hd : ¬ (xx = 0 ∨ ff < sumk ets kd xx n)) (hj : j ≤ st) : legv kd n st j z = (xx, ff - sumk ets kd xx n, z.2.2.1, 0) := by
  unfold legv
  rw [← h]
  exact (if_neg hd).trans (if_pos hj)
theorem lwg_home {kd : Nat → Nat} {n st j xx ff : Nat} {z : MS} (h : (xx, ff) = outv kd n st j (z.1, z.2.1)) (hd : ¬ (xx = 0 ∨ ff < sumk ets kd xx n)) (hj : ¬ j ≤ st) : legv kd n st j z = (xx, (takev kd n (2 * st - j) (xx, ff - sumk ets kd xx n) z.2.2.1).1, (takev kd n (2 * st - j) (xx, ff - sumk ets kd xx n) z.2.2.1).2, 0) := by
  unfold legv
  rw [← h]
  exact (if_neg hd).trans (if_neg hj)
theorem lwg_home0 {kd : Nat → Nat} {n st j xx ff : Nat} {z : MS} (h : (xx, ff) = outv kd n st j (z.1, z.2.1)) (hd : ¬ (xx = 0 ∨ ff < sumk ets kd xx n)) (hj : ¬ j ≤ st) (hq : 2 * st - j = 0) : legv kd n st j z = (xx, ff - sumk ets kd xx n, z.2.2.1, 0) := by
  rw [lwg_home h hd hj]
  unfold takev
  rw [if_pos hq]
theorem lwg_home1 {kd : Nat → Nat} {n st j xx ff mu : Nat} {z : MS} (h : (xx, ff) = outv kd n st j (z.1, z.2.1)) (hd : ¬ (xx = 0 ∨ ff < sumk ets kd xx n)) (hj : ¬ j ≤ st) (hq : 2 * st - j ≠ 0) (hm : min (z.2.2.1 (2 * st - j - 1)) (sumk pls kd xx n - (ff - sumk ets kd xx n)) = mu) : legv kd n st j z = (xx, ff - sumk ets kd xx n + mu, upN z.2.2.1 (2 * st - j - 1) (z.2.2.1 (2 * st - j - 1) - mu), 0) := by
  rw [lwg_home h hd hj]
  unfold takev
  rw [if_neg hq, hm]
theorem DV_up {f : Nat → Int32} {c : Nat → Nat} {q v : Nat} (h : DV f c) (h1 : q ≠ 0) (hv : v ≤ 9) : DV (upd f q (nI v)) (upN c (q - 1) v) := fun k hk => by
  unfold upd upN
  by_cases e : k + 1 = q
  · rw [if_pos e, if_pos (by omega)]; exact ⟨rfl, hv⟩
  · rw [if_neg e, if_neg (by omega)]; exact h k hk
/-- behind a march: who lives and what they have, and what lies at the cairns -/
def LM (fd fd' fr' : Nat → Int32) (m : MS) : Prop := fr' 0 = nI m.1 ∧ fr' 1 = nI m.2.1 ∧ fr' 2 = nI m.2.2.2 ∧ DV fd' m.2.2.1 ∧ ∀ k, (k = 0 ∨ 5 < k) → fd' k = fd k
theorem fds_pos {t : Nat} (ht : t ≤ 4) (h : ¬ nI (fds t) ≤ 0) : isB t = true := by
  have := fds_le t
  rw [isB_fds ht]
  exact decide_eq_true (Nat.pos_of_ne_zero (fun e => h (by rw [e]; decide)))
theorem fds_npos {t : Nat} (ht : t ≤ 4) (h : nI (fds t) ≤ 0) : ¬ isB t = true := by
  have := fds_le t
  rw [isB_fds ht]
  have h2 := (nI_leI (a := fds t) (b := 0) (by omega) (by decide)).mp h
  exact fun e => by have := of_decide_eq_true e; omega
set_option maxHeartbeats 4000000 in
set_option maxRecDepth 100000 in
theorem g_march (l : Launch) (D : va_G) (cI : ClassId) (tt : Nat × Nat × Nat) (ab ad ar : Nat) (fb fd fr : Nat → Int32) (kd : Nat → Nat) (n : Nat) (hb : BV fb kd n) (c : Nat → Nat) (hd : DV fd c) (x st f : Nat) (hx : x < 2 ^ n) (hst : st ≤ 6) (hf : f ≤ 40) : MetV (S := ((Nat → Int32) × (Nat → Int32))) l yL_march cL_march 10 none (rm 2 45) D cI tt [.ref ab, .ref ad, .ref ar, .int (nI x), .int (nI st), .int (nI f)] [(ab, .inl (cI, 7, .inl fb)), (ad, .inl (cI, 9, .inl fd)), (ar, .inl (cI, 3, .inl fr))] (fun u => LM fd u.1 u.2 (marv kd n x st f c)) (fun u => [(ab, .inl (cI, 7, .inl fb)), (ad, .inl (cI, 9, .inl u.1)), (ar, .inl (cI, 3, .inl u.2))]) := by
  have hn6 := hb.2.1
  have hx6 := pow_le6 hn6
  have hpl := pl_le (kd := kd) (x := x) hn6
  have hcc : ∀ k, k < 5 → c k ≤ 9 := fun k hk => (hd k hk).2
  refine met_ofV (by decide) (Nat.le_of_ble_eq_true rfl) ?_
  intro pP eE sS mM aV bB mE cC AA C hin
  refine z_conv (lv' := [(0, .ref ab), (1, .ref ad), (2, .ref ar), (3, .int (nI x)), (4, .int (nI st)), (5, .int (nI f))]) ⟨rfl, rfl, rfl, rfl, rfl, rfl, trivial⟩ rfl rfl ?_
  have join29 : ∀ (fr1 : Nat → Int32), (fr1 0 = nI x) → (fr1 1 = nI (min f (sumk pls kd x n))) → Z pP l eE (rm 2 45) sS mM aV bB mE cC D AA 10 0 0 (MQ bB (va_Qv (S := ((Nat → Int32) × (Nat → Int32))) (fun u => LM fd u.1 u.2 (marv kd n x st f c)) (fun u t => va_P D vwCl ((fun u => [(ab, .inl (cI, 7, .inl fb)), (ad, .inl (cI, 9, .inl u.1)), (ar, .inl (cI, 3, .inl u.2))]) u) t.heap) AA) aV sS 0 0 AA) 29 [(0, .ref ab), (1, .ref ad), (2, .ref ar), (3, .int (nI x)), (4, .int (nI st)), (5, .int (nI f))] [] [(ab, .inl (cI, 7, .inl fb)), (ad, .inl (cI, 9, .inl fd)), (ar, .inl (cI, 3, .inl fr1))] := by
    intro fr1 h10 h11
    refine z_aload_n C (pc := 29) dL_march_29 rfl ?_
    refine z_iconst C (pc := 30) (v := nI 2) dL_march_30 (by decide) ?_
    refine z_iconst C (pc := 31) (v := nI 0) dL_march_31 (by decide) ?_
    have h_1 : vp_in (nI 2) 3 := by exact vp_in_nI (by omega) (by decide)
    refine z_iast C (pc := 32) 2 rfl h_1 (ws' := [(ab, .inl (cI, 7, .inl fb)), (ad, .inl (cI, 9, .inl fd)), (ar, .inl (cI, 3, .inl (upd fr1 2 (nI 0))))]) (by rw [nI_clamp (by omega)]; rfl) dL_march_32 ?_
    refine z_iconst C (pc := 33) (v := nI 1) dL_march_33 (by decide) ?_
    refine z_istore C (pc := 34) (lv' := [(0, .ref ab), (1, .ref ad), (2, .ref ar), (3, .int (nI x)), (4, .int (nI st)), (5, .int (nI f)), (6, .int (nI 1))]) dL_march_34 (Nat.le_of_ble_eq_true rfl) rfl rfl ?_
    have key36 : ∀ (fu36 : Nat) (j : Nat) (fd' fr' : Nat → Int32), 2 * st - j < fu36 → (j ≤ 2 * st) → ((runv kd n st j (x, min f (sumk pls kd x n), c, 0)).2.2.2 = 0) → (fr' 0 = nI (runv kd n st j (x, min f (sumk pls kd x n), c, 0)).1) → (fr' 1 = nI (runv kd n st j (x, min f (sumk pls kd x n), c, 0)).2.1) → (fr' 2 = nI 0) → (DV fd' (runv kd n st j (x, min f (sumk pls kd x n), c, 0)).2.2.1) → (∀ k, (k = 0 ∨ 5 < k) → fd' k = fd k) → Z pP l eE (rm 2 45) sS mM aV bB mE cC D AA 10 0 0 (MQ bB (va_Qv (S := ((Nat → Int32) × (Nat → Int32))) (fun u => LM fd u.1 u.2 (marv kd n x st f c)) (fun u t => va_P D vwCl ((fun u => [(ab, .inl (cI, 7, .inl fb)), (ad, .inl (cI, 9, .inl u.1)), (ar, .inl (cI, 3, .inl u.2))]) u) t.heap) AA) aV sS 0 0 AA) 36 [(0, .ref ab), (1, .ref ad), (2, .ref ar), (3, .int (nI x)), (4, .int (nI st)), (5, .int (nI f)), (6, .int (nI (j + 1)))] [] [(ab, .inl (cI, 7, .inl fb)), (ad, .inl (cI, 9, .inl fd')), (ar, .inl (cI, 3, .inl fr'))] := by
      intro fu36
      induction fu36 with
      | zero => intro j fd' fr' hfu36; exact absurd hfu36 (Nat.not_lt_zero _)
      | succ fu36 ih36 =>
        intro j fd' fr' hfu36 hj hz0 hr0 hr1 hr2 hdv hfd
        refine z_iload C (pc := 36) dL_march_36 rfl ?_
        refine z_iconst C (pc := 38) (v := nI 2) dL_march_38 (by decide) ?_
        refine z_iload C (pc := 39) dL_march_39 rfl ?_
        refine z_imul C (pc := 41) dL_march_41 ?_
        refine z_icmp_gt C (pc := 42) (tgt := 340) dL_march_42 (by decide) (fun c_2 => ?_) (fun c_2 => ?_)
        · have hje : j = 2 * st := by
            have h7 : nI (2 * st) < nI (j + 1) := by
              have := c_2
              rwa [show nI 2 * nI st = nI (2 * st) from two_mul_nI st] at this
            have := (nI_ltI (by omega) (by omega)).mp h7
            omega
          subst hje
          refine z_vret C (pc := 340) (fd', fr') dL_march_340 ?_ rfl
          exact ⟨hr0, hr1, hr2.trans (congrArg nI hz0.symm), hdv, hfd⟩
        · have hjl : j + 1 ≤ 2 * st := by
            have h7 : ¬ nI (2 * st) < nI (j + 1) := by
              have := c_2
              rwa [show nI 2 * nI st = nI (2 * st) from two_mul_nI st] at this
            exact Nat.le_of_not_lt (fun h => h7 (nI_lt h (by omega)))
          have hmk := runv_ok (kd := kd) (st := st) hn6 j (x, min f (sumk pls kd x n), c, 0) (mok0 (kd := kd) (f := f) hx hcc)
          have hrs := run_s (j := j) (st := st) (kd := kd) (n := n) hz0
          generalize hzz : (runv kd n st j (x, min f (sumk pls kd x n), c, 0)) = z at hz0 hr0 hr1 hdv hmk hrs
          have hzl : z.1 < 2 ^ n := hmk.1.1
          refine z_iconst C (pc := 45) (v := nI 0) dL_march_45 (by decide) ?_
          refine z_istore C (pc := 46) (lv' := [(0, .ref ab), (1, .ref ad), (2, .ref ar), (3, .int (nI x)), (4, .int (nI st)), (5, .int (nI f)), (6, .int (nI (j + 1))), (7, .int (nI 0))]) dL_march_46 (Nat.le_of_ble_eq_true rfl) rfl rfl ?_
          have key48 : ∀ (fu48 : Nat) (sn xx ff : Nat) (fr2 : Nat → Int32), 2 - sn < fu48 → (sn ≤ 2) → (fr2 0 = nI xx) → (fr2 1 = nI ff) → (fr2 2 = nI 0) → (OK kd n xx ff) → ((xx, ff) = svS kd n st (j + 1) sn (z.1, z.2.1)) → Z pP l eE (rm 2 45) sS mM aV bB mE cC D AA 10 0 0 (MQ bB (va_Qv (S := ((Nat → Int32) × (Nat → Int32))) (fun u => LM fd u.1 u.2 (marv kd n x st f c)) (fun u t => va_P D vwCl ((fun u => [(ab, .inl (cI, 7, .inl fb)), (ad, .inl (cI, 9, .inl u.1)), (ar, .inl (cI, 3, .inl u.2))]) u) t.heap) AA) aV sS 0 0 AA) 48 [(0, .ref ab), (1, .ref ad), (2, .ref ar), (3, .int (nI x)), (4, .int (nI st)), (5, .int (nI f)), (6, .int (nI (j + 1))), (7, .int (nI sn))] [] [(ab, .inl (cI, 7, .inl fb)), (ad, .inl (cI, 9, .inl fd')), (ar, .inl (cI, 3, .inl fr2))] := by
            intro fu48
            induction fu48 with
            | zero => intro sn xx ff fr2 hfu48; exact absurd hfu48 (Nat.not_lt_zero _)
            | succ fu48 ih48 =>
              intro sn xx ff fr2 hfu48 hsn h20 h21 h22 hok hsv
              refine z_iload C (pc := 48) dL_march_48 rfl ?_
              refine z_iconst C (pc := 50) (v := nI 2) dL_march_50 (by decide) ?_
              refine z_icmp_ge C (pc := 51) (tgt := 216) dL_march_51 (by decide) (fun c_3 => ?_) (fun c_3 => ?_)
              · have hse : sn = 2 := by
                  have := ge_of_nI (n := 2) c_3 (by decide)
                  omega
                subst hse
                have hout := hsv.trans svS_2
                have hpp := pl_le (kd := kd) (x := xx) hn6
                have hee := et_le (kd := kd) (x := xx) hn6
                have hxl := hok.1
                have hfl := hok.2
                refine z_aload_n C (pc := 216) dL_march_216 rfl ?_
                refine z_iconst C (pc := 217) (v := nI 0) dL_march_217 (by decide) ?_
                have h_4 : vp_in (nI 0) 3 := by exact vp_in_nI (by omega) (by decide)
                refine z_iald C (pc := 218) 2 rfl h_4 dL_march_218 ?_
                refine z_seti (y := (fr2 0)) (by rw [nI_clamp (by omega)]) ?_
                refine z_seti (y := nI xx) h20 ?_
                refine z_if_eq C (pc := 219) (tgt := 236) dL_march_219 (by decide) (fun c_5 => ?_) (fun c_5 => ?_)
                · have hdd : xx = 0 ∨ ff < sumk ets kd xx n := Or.inl (nI_z (by omega) c_5)
                  refine z_aload_n C (pc := 236) dL_march_236 rfl ?_
                  refine z_iconst C (pc := 237) (v := nI 0) dL_march_237 (by decide) ?_
                  refine z_iconst C (pc := 238) (v := nI 0) dL_march_238 (by decide) ?_
                  have h_6 : vp_in (nI 0) 3 := by exact vp_in_nI (by omega) (by decide)
                  refine z_iast C (pc := 239) 2 rfl h_6 (ws' := [(ab, .inl (cI, 7, .inl fb)), (ad, .inl (cI, 9, .inl fd')), (ar, .inl (cI, 3, .inl (upd fr2 0 (nI 0))))]) (by rw [nI_clamp (by omega)]; rfl) dL_march_239 ?_
                  refine z_aload_n C (pc := 240) dL_march_240 rfl ?_
                  refine z_iconst C (pc := 241) (v := nI 1) dL_march_241 (by decide) ?_
                  refine z_iconst C (pc := 242) (v := nI 0) dL_march_242 (by decide) ?_
                  have h_7 : vp_in (nI 1) 3 := by exact vp_in_nI (by omega) (by decide)
                  refine z_iast C (pc := 243) 2 rfl h_7 (ws' := [(ab, .inl (cI, 7, .inl fb)), (ad, .inl (cI, 9, .inl fd')), (ar, .inl (cI, 3, .inl (upd (upd fr2 0 (nI 0)) 1 (nI 0))))]) (by rw [nI_clamp (by omega)]; rfl) dL_march_243 ?_
                  refine z_aload_n C (pc := 244) dL_march_244 rfl ?_
                  refine z_iconst C (pc := 245) (v := nI 2) dL_march_245 (by decide) ?_
                  refine z_iload C (pc := 246) dL_march_246 rfl ?_
                  have h_8 : vp_in (nI 2) 3 := by exact vp_in_nI (by omega) (by decide)
                  refine z_iast C (pc := 248) 2 rfl h_8 (ws' := [(ab, .inl (cI, 7, .inl fb)), (ad, .inl (cI, 9, .inl fd')), (ar, .inl (cI, 3, .inl (upd (upd (upd fr2 0 (nI 0)) 1 (nI 0)) 2 (nI (j + 1)))))]) (by rw [nI_clamp (by omega)]; rfl) dL_march_248 ?_
                  refine z_vret C (pc := 249) (fd', (upd (upd (upd fr2 0 (nI 0)) 1 (nI 0)) 2 (nI (j + 1)))) dL_march_249 ?_ rfl
                  have hR : (runv kd n st (j + 1) (x, min f (sumk pls kd x n), c, 0)) = (0, 0, z.2.2.1, j + 1) := hrs.trans (lwg_dead hout hdd)
                  have hm : (marv kd n x st f c) = (0, 0, z.2.2.1, j + 1) := (mar_end hjl (by rw [hR]; exact Nat.succ_ne_zero j)).trans hR
                  rw [hm]
                  exact ⟨by simp [upd], by simp [upd], by simp [upd], hdv, hfd⟩
                · have hx0 : xx ≠ 0 := nI_nz c_5
                  refine z_aload_n C (pc := 222) dL_march_222 rfl ?_
                  refine z_iconst C (pc := 223) (v := nI 1) dL_march_223 (by decide) ?_
                  have h_9 : vp_in (nI 1) 3 := by exact vp_in_nI (by omega) (by decide)
                  refine z_iald C (pc := 224) 2 rfl h_9 dL_march_224 ?_
                  refine z_seti (y := (fr2 1)) (by rw [nI_clamp (by omega)]) ?_
                  refine z_seti (y := nI ff) h21 ?_
                  refine z_aload_n C (pc := 225) dL_march_225 rfl ?_
                  refine z_aload_n C (pc := 226) dL_march_226 rfl ?_
                  refine z_iconst C (pc := 227) (v := nI 0) dL_march_227 (by decide) ?_
                  have h_10 : vp_in (nI 0) 3 := by exact vp_in_nI (by omega) (by decide)
                  refine z_iald C (pc := 228) 2 rfl h_10 dL_march_228 ?_
                  refine z_seti (y := (fr2 0)) (by rw [nI_clamp (by omega)]) ?_
                  refine z_seti (y := nI xx) h20 ?_
                  refine z_iconst C (pc := 229) (v := nI 1) dL_march_229 (by decide) ?_
                  refine z_calli C (isC := [0]) rfl (by exact fun _ => rfl) (runS C (wc := [(ab, .inl (cI, 7, .inl fb))]) (pc := 230) (rY' := rm 1 21) (nn := 3) (As := [.ref ab, .int (nI xx), .int (nI 1)]) (rest := [.int (nI ff)]) (g_sumE l D cI tt ab fb kd n hb xx (by omega)) rfl rfl ⟨rfl, rfl, ⟨Nat.le_of_ble_eq_true rfl, Nat.le_of_ble_eq_true rfl⟩, Nat.le_of_ble_eq_true rfl, Nat.le_of_ble_eq_true rfl⟩ wl_L_27 ws_L_sum wi_L wc_L_sum (by decide +kernel) rfl rfl (Nat.le_of_ble_eq_true rfl) dL_march_230) (fun r_11 u_11 h_11 => ?_)
                  subst h_11
                  refine z_ws (st' := [.int (nI (sumk ets kd xx n)), .int (nI ff)]) (ws' := [(ab, .inl (cI, 7, .inl fb)), (ad, .inl (cI, 9, .inl fd')), (ar, .inl (cI, 3, .inl fr2))]) rfl rfl ?_
                  refine z_icmp_ge C (pc := 233) (tgt := 250) dL_march_233 (by decide) (fun c_12 => ?_) (fun c_12 => ?_)
                  · have hge : sumk ets kd xx n ≤ ff := ge_of_nI c_12 (by omega)
                    have hal : ¬ (xx = 0 ∨ ff < sumk ets kd xx n) := fun h => h.elim hx0 (fun h => by omega)
                    refine z_aload_n C (pc := 250) dL_march_250 rfl ?_
                    refine z_iconst C (pc := 251) (v := nI 1) dL_march_251 (by decide) ?_
                    refine z_dup2 C (pc := 252) dL_march_252 rfl rfl ?_
                    have h_13 : vp_in (nI 1) 3 := by exact vp_in_nI (by omega) (by decide)
                    refine z_iald C (pc := 253) 2 rfl h_13 dL_march_253 ?_
                    refine z_seti (y := (fr2 1)) (by rw [nI_clamp (by omega)]) ?_
                    refine z_seti (y := nI ff) h21 ?_
                    refine z_aload_n C (pc := 254) dL_march_254 rfl ?_
                    refine z_aload_n C (pc := 255) dL_march_255 rfl ?_
                    refine z_iconst C (pc := 256) (v := nI 0) dL_march_256 (by decide) ?_
                    have h_14 : vp_in (nI 0) 3 := by exact vp_in_nI (by omega) (by decide)
                    refine z_iald C (pc := 257) 2 rfl h_14 dL_march_257 ?_
                    refine z_seti (y := (fr2 0)) (by rw [nI_clamp (by omega)]) ?_
                    refine z_seti (y := nI xx) h20 ?_
                    refine z_iconst C (pc := 258) (v := nI 1) dL_march_258 (by decide) ?_
                    refine z_calli C (isC := [0]) rfl (by exact fun _ => rfl) (runS C (wc := [(ab, .inl (cI, 7, .inl fb))]) (pc := 259) (rY' := rm 1 21) (nn := 3) (As := [.ref ab, .int (nI xx), .int (nI 1)]) (rest := [.int (nI ff), .int (nI 1), .ref ar]) (g_sumE l D cI tt ab fb kd n hb xx (by omega)) rfl rfl ⟨rfl, rfl, ⟨Nat.le_of_ble_eq_true rfl, Nat.le_of_ble_eq_true rfl⟩, Nat.le_of_ble_eq_true rfl, Nat.le_of_ble_eq_true rfl⟩ wl_L_27 ws_L_sum wi_L wc_L_sum (by decide +kernel) rfl rfl (Nat.le_of_ble_eq_true rfl) dL_march_259) (fun r_15 u_15 h_15 => ?_)
                    subst h_15
                    refine z_ws (st' := [.int (nI (sumk ets kd xx n)), .int (nI ff), .int (nI 1), .ref ar]) (ws' := [(ab, .inl (cI, 7, .inl fb)), (ad, .inl (cI, 9, .inl fd')), (ar, .inl (cI, 3, .inl fr2))]) rfl rfl ?_
                    refine z_isub C (pc := 262) dL_march_262 ?_
                    refine z_seti (y := nI (ff - sumk ets kd xx n)) (pk_sub hge) ?_
                    have h_16 : vp_in (nI 1) 3 := by exact vp_in_nI (by omega) (by decide)
                    refine z_iast C (pc := 263) 2 rfl h_16 (ws' := [(ab, .inl (cI, 7, .inl fb)), (ad, .inl (cI, 9, .inl fd')), (ar, .inl (cI, 3, .inl (upd fr2 1 (nI (ff - sumk ets kd xx n)))))]) (by rw [nI_clamp (by omega)]; rfl) dL_march_263 ?_
                    refine z_iconst C (pc := 264) (v := nI 2) dL_march_264 (by decide) ?_
                    refine z_iload C (pc := 265) dL_march_265 rfl ?_
                    refine z_imul C (pc := 267) dL_march_267 ?_
                    refine z_iload C (pc := 268) dL_march_268 rfl ?_
                    refine z_isub C (pc := 270) dL_march_270 ?_
                    refine z_seti (y := nI (2 * st - (j + 1))) (by rw [show nI 2 * nI st = nI (2 * st) from two_mul_nI st]; exact pk_sub hjl) ?_
                    refine z_istore C (pc := 271) (lv' := [(0, .ref ab), (1, .ref ad), (2, .ref ar), (3, .int (nI x)), (4, .int (nI st)), (5, .int (nI f)), (6, .int (nI (j + 1))), (7, .int (nI (2 * st - (j + 1))))]) dL_march_271 (Nat.le_of_ble_eq_true rfl) rfl rfl ?_
                    refine z_iload C (pc := 273) dL_march_273 rfl ?_
                    refine z_iload C (pc := 275) dL_march_275 rfl ?_
                    refine z_icmp_le C (pc := 277) (tgt := 334) dL_march_277 (by decide) (fun c_17 => ?_) (fun c_17 => ?_)
                    · have hjs : j + 1 ≤ st := (nI_leI (by omega) (by omega)).mp c_17
                      refine z_iinc C (pc := 334) (v := ((nI (j + 1)) + 1)) (lv' := [(0, .ref ab), (1, .ref ad), (2, .ref ar), (3, .int (nI x)), (4, .int (nI st)), (5, .int (nI f)), (6, .int ((nI (j + 1)) + 1)), (7, .int (nI (2 * st - (j + 1))))]) dL_march_334 rfl rfl (Nat.le_of_ble_eq_true rfl) rfl rfl ?_
                      refine z_goto C (pc := 337) (tgt := 36) dL_march_337 (by decide) ?_
                      have hR : (runv kd n st (j + 1) (x, min f (sumk pls kd x n), c, 0)) = (xx, (ff - sumk ets kd xx n), z.2.2.1, 0) := hrs.trans (lwg_out hout hal hjs)
                      refine z_lv (lv' := [(0, .ref ab), (1, .ref ad), (2, .ref ar), (3, .int (nI x)), (4, .int (nI st)), (5, .int (nI f)), (6, .int (nI ((j + 1) + 1)))]) ⟨rfl, rfl, rfl, rfl, rfl, rfl, lki (nI_1 _), trivial⟩ ?_
                      exact ih36 (j + 1) fd' (upd fr2 1 (nI (ff - sumk ets kd xx n))) (by omega) hjl (by rw [hR]) (by rw [hR]; exact (upd_n (by decide)).trans h20) (by rw [hR, upd_s]) ((upd_n (by decide)).trans h22) (by rw [hR]; exact hdv) hfd
                    · have hjs : ¬ j + 1 ≤ st := fun h => c_17 (nI_le h (by omega))
                      refine z_iload C (pc := 280) dL_march_280 rfl ?_
                      refine z_if_ne C (pc := 282) (tgt := 288) dL_march_282 (by decide) (fun c_18 => ?_) (fun c_18 => ?_)
                      · have hq0 : 2 * st - (j + 1) ≠ 0 := nI_nz c_18
                        have hdq : fd' (2 * st - (j + 1)) = nI (z.2.2.1 (2 * st - (j + 1) - 1)) ∧ z.2.2.1 (2 * st - (j + 1) - 1) ≤ 9 := by
                          have := hdv (2 * st - (j + 1) - 1) (by omega)
                          rwa [show 2 * st - (j + 1) - 1 + 1 = 2 * st - (j + 1) by omega] at this
                        have hd9 := hdq.2
                        refine z_aload_n C (pc := 288) dL_march_288 rfl ?_
                        refine z_aload_n C (pc := 289) dL_march_289 rfl ?_
                        refine z_iconst C (pc := 290) (v := nI 0) dL_march_290 (by decide) ?_
                        have h_19 : vp_in (nI 0) 3 := by exact vp_in_nI (by omega) (by decide)
                        refine z_iald C (pc := 291) 2 rfl h_19 dL_march_291 ?_
                        refine z_seti (y := ((upd fr2 1 (nI (ff - sumk ets kd xx n))) 0)) (by rw [nI_clamp (by omega)]) ?_
                        refine z_seti (y := nI xx) ((upd_n (by decide)).trans h20) ?_
                        refine z_iconst C (pc := 292) (v := nI 0) dL_march_292 (by decide) ?_
                        refine z_calli C (isC := [0]) rfl (by exact fun _ => rfl) (runS C (wc := [(ab, .inl (cI, 7, .inl fb))]) (pc := 293) (rY' := rm 1 21) (nn := 3) (As := [.ref ab, .int (nI xx), .int (nI 0)]) (rest := []) (g_sumP l D cI tt ab fb kd n hb xx (by omega)) rfl rfl ⟨rfl, rfl, ⟨Nat.le_of_ble_eq_true rfl, Nat.le_of_ble_eq_true rfl⟩, Nat.le_of_ble_eq_true rfl, Nat.le_of_ble_eq_true rfl⟩ wl_L_27 ws_L_sum wi_L wc_L_sum (by decide +kernel) rfl rfl (Nat.le_of_ble_eq_true rfl) dL_march_293) (fun r_20 u_20 h_20 => ?_)
                        subst h_20
                        refine z_ws (st' := [.int (nI (sumk pls kd xx n))]) (ws' := [(ab, .inl (cI, 7, .inl fb)), (ad, .inl (cI, 9, .inl fd')), (ar, .inl (cI, 3, .inl (upd fr2 1 (nI (ff - sumk ets kd xx n)))))]) rfl rfl ?_
                        refine z_aload_n C (pc := 296) dL_march_296 rfl ?_
                        refine z_iconst C (pc := 297) (v := nI 1) dL_march_297 (by decide) ?_
                        have h_21 : vp_in (nI 1) 3 := by exact vp_in_nI (by omega) (by decide)
                        refine z_iald C (pc := 298) 2 rfl h_21 dL_march_298 ?_
                        refine z_seti (y := ((upd fr2 1 (nI (ff - sumk ets kd xx n))) 1)) (by rw [nI_clamp (by omega)]) ?_
                        refine z_seti (y := nI (ff - sumk ets kd xx n)) upd_s ?_
                        refine z_isub C (pc := 299) dL_march_299 ?_
                        refine z_seti (y := nI (sumk pls kd xx n - (ff - sumk ets kd xx n))) (pk_sub (by omega)) ?_
                        refine z_istore C (pc := 300) (lv' := [(0, .ref ab), (1, .ref ad), (2, .ref ar), (3, .int (nI x)), (4, .int (nI st)), (5, .int (nI f)), (6, .int (nI (j + 1))), (7, .int (nI (2 * st - (j + 1)))), (8, .int (nI (sumk pls kd xx n - (ff - sumk ets kd xx n))))]) dL_march_300 (Nat.le_of_ble_eq_true rfl) rfl rfl ?_
                        refine z_iload C (pc := 302) dL_march_302 rfl ?_
                        refine z_aload_n C (pc := 304) dL_march_304 rfl ?_
                        refine z_iload C (pc := 305) dL_march_305 rfl ?_
                        have h_22 : vp_in (nI (2 * st - (j + 1))) 9 := by exact vp_in_nI (by omega) (by decide)
                        refine z_iald C (pc := 307) 1 rfl h_22 dL_march_307 ?_
                        refine z_seti (y := (fd' (2 * st - (j + 1)))) (by rw [nI_clamp (by omega)]) ?_
                        refine z_seti (y := nI (z.2.2.1 (2 * st - (j + 1) - 1))) hdq.1 ?_
                        refine z_icmp_le C (pc := 308) (tgt := 317) dL_march_308 (by decide) (fun c_23 => ?_) (fun c_23 => ?_)
                        · have hml : sumk pls kd xx n - (ff - sumk ets kd xx n) ≤ z.2.2.1 (2 * st - (j + 1) - 1) := (nI_leI (by omega) (by omega)).mp c_23
                          have hmu : min (z.2.2.1 (2 * st - (j + 1) - 1)) (sumk pls kd xx n - (ff - sumk ets kd xx n)) = sumk pls kd xx n - (ff - sumk ets kd xx n) := Nat.min_eq_right hml
                          refine z_aload_n C (pc := 317) dL_march_317 rfl ?_
                          refine z_iload C (pc := 318) dL_march_318 rfl ?_
                          refine z_dup2 C (pc := 320) dL_march_320 rfl rfl ?_
                          have h_24 : vp_in (nI (2 * st - (j + 1))) 9 := by exact vp_in_nI (by omega) (by decide)
                          refine z_iald C (pc := 321) 1 rfl h_24 dL_march_321 ?_
                          refine z_seti (y := (fd' (2 * st - (j + 1)))) (by rw [nI_clamp (by omega)]) ?_
                          refine z_seti (y := nI (z.2.2.1 (2 * st - (j + 1) - 1))) hdq.1 ?_
                          refine z_iload C (pc := 322) dL_march_322 rfl ?_
                          refine z_isub C (pc := 324) dL_march_324 ?_
                          refine z_seti (y := nI (z.2.2.1 (2 * st - (j + 1) - 1) - (sumk pls kd xx n - (ff - sumk ets kd xx n)))) (pk_sub (by omega)) ?_
                          have h_25 : vp_in (nI (2 * st - (j + 1))) 9 := by exact vp_in_nI (by omega) (by decide)
                          refine z_iast C (pc := 325) 1 rfl h_25 (ws' := [(ab, .inl (cI, 7, .inl fb)), (ad, .inl (cI, 9, .inl (upd fd' (2 * st - (j + 1)) (nI (z.2.2.1 (2 * st - (j + 1) - 1) - (sumk pls kd xx n - (ff - sumk ets kd xx n))))))), (ar, .inl (cI, 3, .inl (upd fr2 1 (nI (ff - sumk ets kd xx n)))))]) (by rw [nI_clamp (by omega)]; rfl) dL_march_325 ?_
                          refine z_aload_n C (pc := 326) dL_march_326 rfl ?_
                          refine z_iconst C (pc := 327) (v := nI 1) dL_march_327 (by decide) ?_
                          refine z_dup2 C (pc := 328) dL_march_328 rfl rfl ?_
                          have h_26 : vp_in (nI 1) 3 := by exact vp_in_nI (by omega) (by decide)
                          refine z_iald C (pc := 329) 2 rfl h_26 dL_march_329 ?_
                          refine z_seti (y := ((upd fr2 1 (nI (ff - sumk ets kd xx n))) 1)) (by rw [nI_clamp (by omega)]) ?_
                          refine z_seti (y := nI (ff - sumk ets kd xx n)) upd_s ?_
                          refine z_iload C (pc := 330) dL_march_330 rfl ?_
                          refine z_iadd C (pc := 332) dL_march_332 ?_
                          refine z_seti (y := nI ((ff - sumk ets kd xx n) + (sumk pls kd xx n - (ff - sumk ets kd xx n)))) (nI_add _ _) ?_
                          have h_27 : vp_in (nI 1) 3 := by exact vp_in_nI (by omega) (by decide)
                          refine z_iast C (pc := 333) 2 rfl h_27 (ws' := [(ab, .inl (cI, 7, .inl fb)), (ad, .inl (cI, 9, .inl (upd fd' (2 * st - (j + 1)) (nI (z.2.2.1 (2 * st - (j + 1) - 1) - (sumk pls kd xx n - (ff - sumk ets kd xx n))))))), (ar, .inl (cI, 3, .inl (upd (upd fr2 1 (nI (ff - sumk ets kd xx n))) 1 (nI ((ff - sumk ets kd xx n) + (sumk pls kd xx n - (ff - sumk ets kd xx n)))))))]) (by rw [nI_clamp (by omega)]; rfl) dL_march_333 ?_
                          refine z_iinc C (pc := 334) (v := ((nI (j + 1)) + 1)) (lv' := [(0, .ref ab), (1, .ref ad), (2, .ref ar), (3, .int (nI x)), (4, .int (nI st)), (5, .int (nI f)), (6, .int ((nI (j + 1)) + 1)), (7, .int (nI (2 * st - (j + 1)))), (8, .int (nI (sumk pls kd xx n - (ff - sumk ets kd xx n))))]) dL_march_334 rfl rfl (Nat.le_of_ble_eq_true rfl) rfl rfl ?_
                          refine z_goto C (pc := 337) (tgt := 36) dL_march_337 (by decide) ?_
                          have hR : (runv kd n st (j + 1) (x, min f (sumk pls kd x n), c, 0)) = (xx, (ff - sumk ets kd xx n + (sumk pls kd xx n - (ff - sumk ets kd xx n))), (upN z.2.2.1 (2 * st - (j + 1) - 1) (z.2.2.1 (2 * st - (j + 1) - 1) - (sumk pls kd xx n - (ff - sumk ets kd xx n)))), 0) := hrs.trans (lwg_home1 hout hal hjs hq0 hmu)
                          refine z_lv (lv' := [(0, .ref ab), (1, .ref ad), (2, .ref ar), (3, .int (nI x)), (4, .int (nI st)), (5, .int (nI f)), (6, .int (nI ((j + 1) + 1)))]) ⟨rfl, rfl, rfl, rfl, rfl, rfl, lki (nI_1 _), trivial⟩ ?_
                          exact ih36 (j + 1) (upd fd' (2 * st - (j + 1)) (nI (z.2.2.1 (2 * st - (j + 1) - 1) - (sumk pls kd xx n - (ff - sumk ets kd xx n))))) (upd (upd fr2 1 (nI (ff - sumk ets kd xx n))) 1 (nI ((ff - sumk ets kd xx n) + (sumk pls kd xx n - (ff - sumk ets kd xx n))))) (by omega) hjl (by rw [hR]) (by rw [hR]; exact (upd_n (by decide)).trans ((upd_n (by decide)).trans h20)) (by rw [hR, upd_s]) ((upd_n (by decide)).trans ((upd_n (by decide)).trans h22)) (by rw [hR]; exact DV_up hdv hq0 (by omega)) (fun k hk => by rw [upd_n (by omega)]; exact hfd k hk)
                        · have hml : z.2.2.1 (2 * st - (j + 1) - 1) ≤ sumk pls kd xx n - (ff - sumk ets kd xx n) := Nat.le_of_not_le (fun h => c_23 (nI_le h (by omega)))
                          have hmu : min (z.2.2.1 (2 * st - (j + 1) - 1)) (sumk pls kd xx n - (ff - sumk ets kd xx n)) = z.2.2.1 (2 * st - (j + 1) - 1) := Nat.min_eq_left hml
                          refine z_aload_n C (pc := 311) dL_march_311 rfl ?_
                          refine z_iload C (pc := 312) dL_march_312 rfl ?_
                          have h_28 : vp_in (nI (2 * st - (j + 1))) 9 := by exact vp_in_nI (by omega) (by decide)
                          refine z_iald C (pc := 314) 1 rfl h_28 dL_march_314 ?_
                          refine z_seti (y := (fd' (2 * st - (j + 1)))) (by rw [nI_clamp (by omega)]) ?_
                          refine z_seti (y := nI (z.2.2.1 (2 * st - (j + 1) - 1))) hdq.1 ?_
                          refine z_istore C (pc := 315) (lv' := [(0, .ref ab), (1, .ref ad), (2, .ref ar), (3, .int (nI x)), (4, .int (nI st)), (5, .int (nI f)), (6, .int (nI (j + 1))), (7, .int (nI (2 * st - (j + 1)))), (8, .int (nI (z.2.2.1 (2 * st - (j + 1) - 1))))]) dL_march_315 (Nat.le_of_ble_eq_true rfl) rfl rfl ?_
                          refine z_aload_n C (pc := 317) dL_march_317 rfl ?_
                          refine z_iload C (pc := 318) dL_march_318 rfl ?_
                          refine z_dup2 C (pc := 320) dL_march_320 rfl rfl ?_
                          have h_29 : vp_in (nI (2 * st - (j + 1))) 9 := by exact vp_in_nI (by omega) (by decide)
                          refine z_iald C (pc := 321) 1 rfl h_29 dL_march_321 ?_
                          refine z_seti (y := (fd' (2 * st - (j + 1)))) (by rw [nI_clamp (by omega)]) ?_
                          refine z_seti (y := nI (z.2.2.1 (2 * st - (j + 1) - 1))) hdq.1 ?_
                          refine z_iload C (pc := 322) dL_march_322 rfl ?_
                          refine z_isub C (pc := 324) dL_march_324 ?_
                          refine z_seti (y := nI (z.2.2.1 (2 * st - (j + 1) - 1) - (z.2.2.1 (2 * st - (j + 1) - 1)))) (pk_sub (by omega)) ?_
                          have h_30 : vp_in (nI (2 * st - (j + 1))) 9 := by exact vp_in_nI (by omega) (by decide)
                          refine z_iast C (pc := 325) 1 rfl h_30 (ws' := [(ab, .inl (cI, 7, .inl fb)), (ad, .inl (cI, 9, .inl (upd fd' (2 * st - (j + 1)) (nI (z.2.2.1 (2 * st - (j + 1) - 1) - (z.2.2.1 (2 * st - (j + 1) - 1))))))), (ar, .inl (cI, 3, .inl (upd fr2 1 (nI (ff - sumk ets kd xx n)))))]) (by rw [nI_clamp (by omega)]; rfl) dL_march_325 ?_
                          refine z_aload_n C (pc := 326) dL_march_326 rfl ?_
                          refine z_iconst C (pc := 327) (v := nI 1) dL_march_327 (by decide) ?_
                          refine z_dup2 C (pc := 328) dL_march_328 rfl rfl ?_
                          have h_31 : vp_in (nI 1) 3 := by exact vp_in_nI (by omega) (by decide)
                          refine z_iald C (pc := 329) 2 rfl h_31 dL_march_329 ?_
                          refine z_seti (y := ((upd fr2 1 (nI (ff - sumk ets kd xx n))) 1)) (by rw [nI_clamp (by omega)]) ?_
                          refine z_seti (y := nI (ff - sumk ets kd xx n)) upd_s ?_
                          refine z_iload C (pc := 330) dL_march_330 rfl ?_
                          refine z_iadd C (pc := 332) dL_march_332 ?_
                          refine z_seti (y := nI ((ff - sumk ets kd xx n) + (z.2.2.1 (2 * st - (j + 1) - 1)))) (nI_add _ _) ?_
                          have h_32 : vp_in (nI 1) 3 := by exact vp_in_nI (by omega) (by decide)
                          refine z_iast C (pc := 333) 2 rfl h_32 (ws' := [(ab, .inl (cI, 7, .inl fb)), (ad, .inl (cI, 9, .inl (upd fd' (2 * st - (j + 1)) (nI (z.2.2.1 (2 * st - (j + 1) - 1) - (z.2.2.1 (2 * st - (j + 1) - 1))))))), (ar, .inl (cI, 3, .inl (upd (upd fr2 1 (nI (ff - sumk ets kd xx n))) 1 (nI ((ff - sumk ets kd xx n) + (z.2.2.1 (2 * st - (j + 1) - 1)))))))]) (by rw [nI_clamp (by omega)]; rfl) dL_march_333 ?_
                          refine z_iinc C (pc := 334) (v := ((nI (j + 1)) + 1)) (lv' := [(0, .ref ab), (1, .ref ad), (2, .ref ar), (3, .int (nI x)), (4, .int (nI st)), (5, .int (nI f)), (6, .int ((nI (j + 1)) + 1)), (7, .int (nI (2 * st - (j + 1)))), (8, .int (nI (z.2.2.1 (2 * st - (j + 1) - 1))))]) dL_march_334 rfl rfl (Nat.le_of_ble_eq_true rfl) rfl rfl ?_
                          refine z_goto C (pc := 337) (tgt := 36) dL_march_337 (by decide) ?_
                          have hR : (runv kd n st (j + 1) (x, min f (sumk pls kd x n), c, 0)) = (xx, (ff - sumk ets kd xx n + (z.2.2.1 (2 * st - (j + 1) - 1))), (upN z.2.2.1 (2 * st - (j + 1) - 1) (z.2.2.1 (2 * st - (j + 1) - 1) - (z.2.2.1 (2 * st - (j + 1) - 1)))), 0) := hrs.trans (lwg_home1 hout hal hjs hq0 hmu)
                          refine z_lv (lv' := [(0, .ref ab), (1, .ref ad), (2, .ref ar), (3, .int (nI x)), (4, .int (nI st)), (5, .int (nI f)), (6, .int (nI ((j + 1) + 1)))]) ⟨rfl, rfl, rfl, rfl, rfl, rfl, lki (nI_1 _), trivial⟩ ?_
                          exact ih36 (j + 1) (upd fd' (2 * st - (j + 1)) (nI (z.2.2.1 (2 * st - (j + 1) - 1) - (z.2.2.1 (2 * st - (j + 1) - 1))))) (upd (upd fr2 1 (nI (ff - sumk ets kd xx n))) 1 (nI ((ff - sumk ets kd xx n) + (z.2.2.1 (2 * st - (j + 1) - 1))))) (by omega) hjl (by rw [hR]) (by rw [hR]; exact (upd_n (by decide)).trans ((upd_n (by decide)).trans h20)) (by rw [hR, upd_s]) ((upd_n (by decide)).trans ((upd_n (by decide)).trans h22)) (by rw [hR]; exact DV_up hdv hq0 (by omega)) (fun k hk => by rw [upd_n (by omega)]; exact hfd k hk)
                      · have hq0 : 2 * st - (j + 1) = 0 := nI_z (by omega) c_18
                        refine z_goto C (pc := 285) (tgt := 334) dL_march_285 (by decide) ?_
                        refine z_iinc C (pc := 334) (v := ((nI (j + 1)) + 1)) (lv' := [(0, .ref ab), (1, .ref ad), (2, .ref ar), (3, .int (nI x)), (4, .int (nI st)), (5, .int (nI f)), (6, .int ((nI (j + 1)) + 1)), (7, .int (nI (2 * st - (j + 1))))]) dL_march_334 rfl rfl (Nat.le_of_ble_eq_true rfl) rfl rfl ?_
                        refine z_goto C (pc := 337) (tgt := 36) dL_march_337 (by decide) ?_
                        have hR : (runv kd n st (j + 1) (x, min f (sumk pls kd x n), c, 0)) = (xx, (ff - sumk ets kd xx n), z.2.2.1, 0) := hrs.trans (lwg_home0 hout hal hjs hq0)
                        refine z_lv (lv' := [(0, .ref ab), (1, .ref ad), (2, .ref ar), (3, .int (nI x)), (4, .int (nI st)), (5, .int (nI f)), (6, .int (nI ((j + 1) + 1)))]) ⟨rfl, rfl, rfl, rfl, rfl, rfl, lki (nI_1 _), trivial⟩ ?_
                        exact ih36 (j + 1) fd' (upd fr2 1 (nI (ff - sumk ets kd xx n))) (by omega) hjl (by rw [hR]) (by rw [hR]; exact (upd_n (by decide)).trans h20) (by rw [hR, upd_s]) ((upd_n (by decide)).trans h22) (by rw [hR]; exact hdv) hfd
                  · have hdd : xx = 0 ∨ ff < sumk ets kd xx n := Or.inr (lt_of_nI c_12 (by omega))
                    refine z_aload_n C (pc := 236) dL_march_236 rfl ?_
                    refine z_iconst C (pc := 237) (v := nI 0) dL_march_237 (by decide) ?_
                    refine z_iconst C (pc := 238) (v := nI 0) dL_march_238 (by decide) ?_
                    have h_33 : vp_in (nI 0) 3 := by exact vp_in_nI (by omega) (by decide)
                    refine z_iast C (pc := 239) 2 rfl h_33 (ws' := [(ab, .inl (cI, 7, .inl fb)), (ad, .inl (cI, 9, .inl fd')), (ar, .inl (cI, 3, .inl (upd fr2 0 (nI 0))))]) (by rw [nI_clamp (by omega)]; rfl) dL_march_239 ?_
                    refine z_aload_n C (pc := 240) dL_march_240 rfl ?_
                    refine z_iconst C (pc := 241) (v := nI 1) dL_march_241 (by decide) ?_
                    refine z_iconst C (pc := 242) (v := nI 0) dL_march_242 (by decide) ?_
                    have h_34 : vp_in (nI 1) 3 := by exact vp_in_nI (by omega) (by decide)
                    refine z_iast C (pc := 243) 2 rfl h_34 (ws' := [(ab, .inl (cI, 7, .inl fb)), (ad, .inl (cI, 9, .inl fd')), (ar, .inl (cI, 3, .inl (upd (upd fr2 0 (nI 0)) 1 (nI 0))))]) (by rw [nI_clamp (by omega)]; rfl) dL_march_243 ?_
                    refine z_aload_n C (pc := 244) dL_march_244 rfl ?_
                    refine z_iconst C (pc := 245) (v := nI 2) dL_march_245 (by decide) ?_
                    refine z_iload C (pc := 246) dL_march_246 rfl ?_
                    have h_35 : vp_in (nI 2) 3 := by exact vp_in_nI (by omega) (by decide)
                    refine z_iast C (pc := 248) 2 rfl h_35 (ws' := [(ab, .inl (cI, 7, .inl fb)), (ad, .inl (cI, 9, .inl fd')), (ar, .inl (cI, 3, .inl (upd (upd (upd fr2 0 (nI 0)) 1 (nI 0)) 2 (nI (j + 1)))))]) (by rw [nI_clamp (by omega)]; rfl) dL_march_248 ?_
                    refine z_vret C (pc := 249) (fd', (upd (upd (upd fr2 0 (nI 0)) 1 (nI 0)) 2 (nI (j + 1)))) dL_march_249 ?_ rfl
                    have hR : (runv kd n st (j + 1) (x, min f (sumk pls kd x n), c, 0)) = (0, 0, z.2.2.1, j + 1) := hrs.trans (lwg_dead hout hdd)
                    have hm : (marv kd n x st f c) = (0, 0, z.2.2.1, j + 1) := (mar_end hjl (by rw [hR]; exact Nat.succ_ne_zero j)).trans hR
                    rw [hm]
                    exact ⟨by simp [upd], by simp [upd], by simp [upd], hdv, hfd⟩
              · have hs2 : sn < 2 := lt_of_nI (n := 2) c_3 (by omega)
                refine z_aload_n C (pc := 54) dL_march_54 rfl ?_
                refine z_iconst C (pc := 55) (v := nI 0) dL_march_55 (by decide) ?_
                have h_36 : vp_in (nI 0) 7 := by exact vp_in_nI (by omega) (by decide)
                refine z_iald C (pc := 56) 0 rfl h_36 dL_march_56 ?_
                refine z_seti (y := (fb 0)) (by rw [nI_clamp (by omega)]) ?_
                refine z_seti (y := nI n) hb.1 ?_
                refine z_iconst C (pc := 57) (v := nI 1) dL_march_57 (by decide) ?_
                refine z_isub C (pc := 58) dL_march_58 ?_
                refine z_seti (y := nI n - 1) rfl ?_
                refine z_istore C (pc := 59) (lv' := [(0, .ref ab), (1, .ref ad), (2, .ref ar), (3, .int (nI x)), (4, .int (nI st)), (5, .int (nI f)), (6, .int (nI (j + 1))), (7, .int (nI sn)), (8, .int (nI n - 1))]) dL_march_59 (Nat.le_of_ble_eq_true rfl) rfl rfl ?_
                have key61 : ∀ (fu61 : Nat) (m xx ff : Nat) (fr2 : Nat → Int32), m < fu61 → (m ≤ n) → (fr2 0 = nI xx) → (fr2 1 = nI ff) → (fr2 2 = nI 0) → (OK kd n xx ff) → (pvS kd n st (j + 1) sn m (xx, ff) = svS kd n st (j + 1) (sn + 1) (z.1, z.2.1)) → Z pP l eE (rm 2 45) sS mM aV bB mE cC D AA 10 0 0 (MQ bB (va_Qv (S := ((Nat → Int32) × (Nat → Int32))) (fun u => LM fd u.1 u.2 (marv kd n x st f c)) (fun u t => va_P D vwCl ((fun u => [(ab, .inl (cI, 7, .inl fb)), (ad, .inl (cI, 9, .inl u.1)), (ar, .inl (cI, 3, .inl u.2))]) u) t.heap) AA) aV sS 0 0 AA) 61 [(0, .ref ab), (1, .ref ad), (2, .ref ar), (3, .int (nI x)), (4, .int (nI st)), (5, .int (nI f)), (6, .int (nI (j + 1))), (7, .int (nI sn)), (8, .int (nI m - 1))] [] [(ab, .inl (cI, 7, .inl fb)), (ad, .inl (cI, 9, .inl fd')), (ar, .inl (cI, 3, .inl fr2))] := by
                  intro fu61
                  induction fu61 with
                  | zero => intro m xx ff fr2 hfu61; exact absurd hfu61 (Nat.not_lt_zero _)
                  | succ fu61 ih61 =>
                    intro m xx ff fr2 hfu61 hm h20 h21 h22 hok heq
                    refine z_iload C (pc := 61) dL_march_61 rfl ?_
                    refine z_if_lt C (pc := 63) (tgt := 210) dL_march_63 (by decide) (fun c_37 => ?_) (fun c_37 => ?_)
                    · have hm0 := (neg_pred m (by omega)).mp c_37
                      subst hm0
                      refine z_iinc C (pc := 210) (v := ((nI sn) + 1)) (lv' := [(0, .ref ab), (1, .ref ad), (2, .ref ar), (3, .int (nI x)), (4, .int (nI st)), (5, .int (nI f)), (6, .int (nI (j + 1))), (7, .int ((nI sn) + 1)), (8, .int (nI 0 - 1))]) dL_march_210 rfl rfl (Nat.le_of_ble_eq_true rfl) rfl rfl ?_
                      refine z_goto C (pc := 213) (tgt := 48) dL_march_213 (by decide) ?_
                      refine z_lv (lv' := [(0, .ref ab), (1, .ref ad), (2, .ref ar), (3, .int (nI x)), (4, .int (nI st)), (5, .int (nI f)), (6, .int (nI (j + 1))), (7, .int (nI (sn + 1)))]) ⟨rfl, rfl, rfl, rfl, rfl, rfl, rfl, lki (nI_1 _), trivial⟩ ?_
                      exact ih48 (sn + 1) xx ff fr2 (by omega) hs2 h20 h21 h22 hok (pv_0.symm.trans heq)
                    · obtain ⟨k, rfl⟩ : ∃ k, m = k + 1 := ⟨m - 1, by have hm0 : m ≠ 0 := (fun h => c_37 ((neg_pred m (by omega)).mpr h)); omega⟩
                      refine z_lv (lv' := [(0, .ref ab), (1, .ref ad), (2, .ref ar), (3, .int (nI x)), (4, .int (nI st)), (5, .int (nI f)), (6, .int (nI (j + 1))), (7, .int (nI sn)), (8, .int (nI k))]) ⟨rfl, rfl, rfl, rfl, rfl, rfl, rfl, rfl, lki (nI_pred k), trivial⟩ ?_
                      have hk : k < n := by omega
                      have hbk := hb.2.2 k hk
                      have hxl := hok.1
                      have hfl := hok.2
                      have hpp := pl_le (kd := kd) (x := xx) hn6
                      have hee := et_le (kd := kd) (x := xx) hn6
                      have join135 : ∀ (w : Int32), ((w = nI 1 ∧ isv kd n st (j + 1) sn k (xx, ff)) ∨ (w = nI 0 ∧ ¬ isv kd n st (j + 1) sn k (xx, ff))) → Z pP l eE (rm 2 45) sS mM aV bB mE cC D AA 10 0 0 (MQ bB (va_Qv (S := ((Nat → Int32) × (Nat → Int32))) (fun u => LM fd u.1 u.2 (marv kd n x st f c)) (fun u t => va_P D vwCl ((fun u => [(ab, .inl (cI, 7, .inl fb)), (ad, .inl (cI, 9, .inl u.1)), (ar, .inl (cI, 3, .inl u.2))]) u) t.heap) AA) aV sS 0 0 AA) 135 [(0, .ref ab), (1, .ref ad), (2, .ref ar), (3, .int (nI x)), (4, .int (nI st)), (5, .int (nI f)), (6, .int (nI (j + 1))), (7, .int (nI sn)), (8, .int (nI k)), (9, .int w)] [] [(ab, .inl (cI, 7, .inl fb)), (ad, .inl (cI, 9, .inl fd')), (ar, .inl (cI, 3, .inl fr2))] := by
                        intro w hw
                        refine z_aload_n C (pc := 135) dL_march_135 rfl ?_
                        refine z_iconst C (pc := 136) (v := nI 0) dL_march_136 (by decide) ?_
                        have h_38 : vp_in (nI 0) 3 := by exact vp_in_nI (by omega) (by decide)
                        refine z_iald C (pc := 137) 2 rfl h_38 dL_march_137 ?_
                        refine z_seti (y := (fr2 0)) (by rw [nI_clamp (by omega)]) ?_
                        refine z_seti (y := nI xx) h20 ?_
                        refine z_iload C (pc := 138) dL_march_138 rfl ?_
                        refine z_calli C (isC := []) rfl (by exact fun _ => rfl) (runS C (wc := []) (pc := 140) (rY' := rm 0 0) (nn := 2) (As := [.int (nI xx), .int (nI k)]) (rest := []) (g_in l D cI tt xx k (by omega) (by omega)) rfl rfl ⟨rfl, rfl, ⟨Nat.le_of_ble_eq_true rfl, Nat.le_of_ble_eq_true rfl⟩, Nat.le_of_ble_eq_true rfl, Nat.le_of_ble_eq_true rfl⟩ wl_L_20 ws_L_in wi_L wc_L_in (by decide +kernel) rfl rfl (Nat.le_of_ble_eq_true rfl) dL_march_140) (fun r_39 u_39 h_39 => ?_)
                        subst h_39
                        refine z_ws (st' := [.int (b2 (inv xx k))]) (ws' := [(ab, .inl (cI, 7, .inl fb)), (ad, .inl (cI, 9, .inl fd')), (ar, .inl (cI, 3, .inl fr2))]) rfl rfl ?_
                        refine z_if_eq C (pc := 143) (tgt := 204) dL_march_143 (by decide) (fun c_40 => ?_) (fun c_40 => ?_)
                        · have hbt : ¬ bt (xx, ff).1 k = 1 := of_decide_eq_false (b2_f c_40)
                          refine z_iinc C (pc := 204) (v := ((nI k) + (-1))) (lv' := [(0, .ref ab), (1, .ref ad), (2, .ref ar), (3, .int (nI x)), (4, .int (nI st)), (5, .int (nI f)), (6, .int (nI (j + 1))), (7, .int (nI sn)), (8, .int ((nI k) + (-1))), (9, .int w)]) dL_march_204 rfl rfl (Nat.le_of_ble_eq_true rfl) rfl rfl ?_
                          refine z_goto C (pc := 207) (tgt := 61) dL_march_207 (by decide) ?_
                          refine z_lv (lv' := [(0, .ref ab), (1, .ref ad), (2, .ref ar), (3, .int (nI x)), (4, .int (nI st)), (5, .int (nI f)), (6, .int (nI (j + 1))), (7, .int (nI sn)), (8, .int (nI k - 1))]) ⟨rfl, rfl, rfl, rfl, rfl, rfl, rfl, rfl, lki (add_m1 _), trivial⟩ ?_
                          exact ih61 k xx ff fr2 (by omega) (by omega) h20 h21 h22 hok ((pv_bt hbt).symm.trans heq)
                        · have hbt : bt xx k = 1 := of_decide_eq_true (b2_t c_40)
                          have hx64 : xx < 64 := by omega
                          have hbl := bit_le xx hx64 k (by omega) hbt
                          have h2k := Nat.two_pow_pos k
                          refine z_iload C (pc := 146) dL_march_146 rfl ?_
                          refine z_if_ne C (pc := 148) (tgt := 154) dL_march_148 (by decide) (fun c_41 => ?_) (fun c_41 => ?_)
                          · have his : isv kd n st (j + 1) sn k (xx, ff) := hw.elim (fun h => h.2) (fun h => absurd h.1 c_41)
                            refine z_aload_n C (pc := 154) dL_march_154 rfl ?_
                            refine z_iconst C (pc := 155) (v := nI 0) dL_march_155 (by decide) ?_
                            refine z_dup2 C (pc := 156) dL_march_156 rfl rfl ?_
                            have h_42 : vp_in (nI 0) 3 := by exact vp_in_nI (by omega) (by decide)
                            refine z_iald C (pc := 157) 2 rfl h_42 dL_march_157 ?_
                            refine z_seti (y := (fr2 0)) (by rw [nI_clamp (by omega)]) ?_
                            refine z_seti (y := nI xx) h20 ?_
                            refine z_iconst C (pc := 158) (v := nI 1) dL_march_158 (by decide) ?_
                            refine z_iload C (pc := 159) dL_march_159 rfl ?_
                            refine z_ishl C (pc := 161) dL_march_161 ?_
                            refine z_isub C (pc := 162) dL_march_162 ?_
                            refine z_seti (y := nI (xx - 2 ^ k)) (sub_bit xx hx64 k (by omega) hbt) ?_
                            have h_43 : vp_in (nI 0) 3 := by exact vp_in_nI (by omega) (by decide)
                            refine z_iast C (pc := 163) 2 rfl h_43 (ws' := [(ab, .inl (cI, 7, .inl fb)), (ad, .inl (cI, 9, .inl fd')), (ar, .inl (cI, 3, .inl (upd fr2 0 (nI (xx - 2 ^ k)))))]) (by rw [nI_clamp (by omega)]; rfl) dL_march_163 ?_
                            refine z_aload_n C (pc := 164) dL_march_164 rfl ?_
                            refine z_iconst C (pc := 165) (v := nI 1) dL_march_165 (by decide) ?_
                            refine z_dup2 C (pc := 166) dL_march_166 rfl rfl ?_
                            have h_44 : vp_in (nI 1) 3 := by exact vp_in_nI (by omega) (by decide)
                            refine z_iald C (pc := 167) 2 rfl h_44 dL_march_167 ?_
                            refine z_seti (y := ((upd fr2 0 (nI (xx - 2 ^ k))) 1)) (by rw [nI_clamp (by omega)]) ?_
                            refine z_seti (y := nI ff) ((upd_n (by decide)).trans h21) ?_
                            refine z_aload_n C (pc := 168) dL_march_168 rfl ?_
                            refine z_iconst C (pc := 169) (v := nI 1) dL_march_169 (by decide) ?_
                            refine z_iload C (pc := 170) dL_march_170 rfl ?_
                            refine z_iadd C (pc := 172) dL_march_172 ?_
                            refine z_seti (y := nI (1 + k)) (nI_add _ _) ?_
                            have h_45 : vp_in (nI (1 + k)) 7 := by exact vp_in_nI (by omega) (by decide)
                            refine z_iald C (pc := 173) 0 rfl h_45 dL_march_173 ?_
                            refine z_seti (y := (fb (1 + k))) (by rw [nI_clamp (by omega)]) ?_
                            refine z_seti (y := nI (kd k)) (by rw [Nat.add_comm]; exact hbk.1) ?_
                            refine z_calli C (isC := []) rfl (by exact fun _ => rfl) (runS C (wc := []) (pc := 174) (rY' := rm 0 0) (nn := 1) (As := [.int (nI (kd k))]) (rest := [.int (nI ff), .int (nI 1), .ref ar]) (g_feeds l D cI tt (kd k) hbk.2) rfl rfl ⟨rfl, rfl, ⟨Nat.le_of_ble_eq_true rfl, Nat.le_of_ble_eq_true rfl⟩, Nat.le_of_ble_eq_true rfl, Nat.le_of_ble_eq_true rfl⟩ wl_L_31 ws_L_feeds wi_L wc_L_feeds (by decide +kernel) rfl rfl (Nat.le_of_ble_eq_true rfl) dL_march_174) (fun r_46 u_46 h_46 => ?_)
                            subst h_46
                            refine z_ws (st' := [.int (nI (fds (kd k))), .int (nI ff), .int (nI 1), .ref ar]) (ws' := [(ab, .inl (cI, 7, .inl fb)), (ad, .inl (cI, 9, .inl fd')), (ar, .inl (cI, 3, .inl (upd fr2 0 (nI (xx - 2 ^ k)))))]) rfl rfl ?_
                            refine z_iadd C (pc := 177) dL_march_177 ?_
                            refine z_seti (y := nI (ff + (fds (kd k)))) (nI_add _ _) ?_
                            have h_47 : vp_in (nI 1) 3 := by exact vp_in_nI (by omega) (by decide)
                            refine z_iast C (pc := 178) 2 rfl h_47 (ws' := [(ab, .inl (cI, 7, .inl fb)), (ad, .inl (cI, 9, .inl fd')), (ar, .inl (cI, 3, .inl (upd (upd fr2 0 (nI (xx - 2 ^ k))) 1 (nI (ff + (fds (kd k)))))))]) (by rw [nI_clamp (by omega)]; rfl) dL_march_178 ?_
                            have hp2 := pl_le (kd := kd) (x := xx - 2 ^ k) hn6
                            have hfd6 := fds_le (kd k)
                            refine z_aload_n C (pc := 179) dL_march_179 rfl ?_
                            refine z_iconst C (pc := 180) (v := nI 1) dL_march_180 (by decide) ?_
                            have h_48 : vp_in (nI 1) 3 := by exact vp_in_nI (by omega) (by decide)
                            refine z_iald C (pc := 181) 2 rfl h_48 dL_march_181 ?_
                            refine z_seti (y := ((upd (upd fr2 0 (nI (xx - 2 ^ k))) 1 (nI (ff + (fds (kd k))))) 1)) (by rw [nI_clamp (by omega)]) ?_
                            refine z_seti (y := nI (ff + fds (kd k))) upd_s ?_
                            refine z_aload_n C (pc := 182) dL_march_182 rfl ?_
                            refine z_aload_n C (pc := 183) dL_march_183 rfl ?_
                            refine z_iconst C (pc := 184) (v := nI 0) dL_march_184 (by decide) ?_
                            have h_49 : vp_in (nI 0) 3 := by exact vp_in_nI (by omega) (by decide)
                            refine z_iald C (pc := 185) 2 rfl h_49 dL_march_185 ?_
                            refine z_seti (y := ((upd (upd fr2 0 (nI (xx - 2 ^ k))) 1 (nI (ff + (fds (kd k))))) 0)) (by rw [nI_clamp (by omega)]) ?_
                            refine z_seti (y := nI (xx - 2 ^ k)) ((upd_n (by decide)).trans upd_s) ?_
                            refine z_iconst C (pc := 186) (v := nI 0) dL_march_186 (by decide) ?_
                            refine z_calli C (isC := [0]) rfl (by exact fun _ => rfl) (runS C (wc := [(ab, .inl (cI, 7, .inl fb))]) (pc := 187) (rY' := rm 1 21) (nn := 3) (As := [.ref ab, .int (nI (xx - 2 ^ k)), .int (nI 0)]) (rest := [.int (nI (ff + fds (kd k)))]) (g_sumP l D cI tt ab fb kd n hb (xx - 2 ^ k) (by omega)) rfl rfl ⟨rfl, rfl, ⟨Nat.le_of_ble_eq_true rfl, Nat.le_of_ble_eq_true rfl⟩, Nat.le_of_ble_eq_true rfl, Nat.le_of_ble_eq_true rfl⟩ wl_L_27 ws_L_sum wi_L wc_L_sum (by decide +kernel) rfl rfl (Nat.le_of_ble_eq_true rfl) dL_march_187) (fun r_50 u_50 h_50 => ?_)
                            subst h_50
                            refine z_ws (st' := [.int (nI (sumk pls kd (xx - 2 ^ k) n)), .int (nI (ff + fds (kd k)))]) (ws' := [(ab, .inl (cI, 7, .inl fb)), (ad, .inl (cI, 9, .inl fd')), (ar, .inl (cI, 3, .inl (upd (upd fr2 0 (nI (xx - 2 ^ k))) 1 (nI (ff + (fds (kd k)))))))]) rfl rfl ?_
                            refine z_icmp_le C (pc := 190) (tgt := 204) dL_march_190 (by decide) (fun c_51 => ?_) (fun c_51 => ?_)
                            · have hle : ff + fds (kd k) ≤ sumk pls kd (xx - 2 ^ k) n := (nI_leI (by omega) (by omega)).mp c_51
                              have hmn : min (ff + fds (kd k)) (sumk pls kd (xx - 2 ^ k) n) = ff + fds (kd k) := Nat.min_eq_left hle
                              refine z_iinc C (pc := 204) (v := ((nI k) + (-1))) (lv' := [(0, .ref ab), (1, .ref ad), (2, .ref ar), (3, .int (nI x)), (4, .int (nI st)), (5, .int (nI f)), (6, .int (nI (j + 1))), (7, .int (nI sn)), (8, .int ((nI k) + (-1))), (9, .int w)]) dL_march_204 rfl rfl (Nat.le_of_ble_eq_true rfl) rfl rfl ?_
                              refine z_goto C (pc := 207) (tgt := 61) dL_march_207 (by decide) ?_
                              have hdev : dev kd n k (xx, ff) = (xx - 2 ^ k, ff + fds (kd k)) := by
                                unfold dev
                                rw [if_pos hbt]
                                show (xx - 2 ^ k, min (ff + fds (kd k)) (sumk pls kd (xx - 2 ^ k) n)) = _
                                rw [hmn]
                              have hok2 : OK kd n (xx - 2 ^ k) (ff + fds (kd k)) := by
                                have := dev_ok (s := (xx, ff)) hn6 hk hok
                                rw [hdev] at this
                                exact this
                              refine z_lv (lv' := [(0, .ref ab), (1, .ref ad), (2, .ref ar), (3, .int (nI x)), (4, .int (nI st)), (5, .int (nI f)), (6, .int (nI (j + 1))), (7, .int (nI sn)), (8, .int (nI k - 1))]) ⟨rfl, rfl, rfl, rfl, rfl, rfl, rfl, rfl, lki (add_m1 _), trivial⟩ ?_
                              exact ih61 k (xx - 2 ^ k) (ff + fds (kd k)) (upd (upd fr2 0 (nI (xx - 2 ^ k))) 1 (nI (ff + (fds (kd k))))) (by omega) (by omega) ((upd_n (by decide)).trans upd_s) upd_s ((upd_n (by decide)).trans ((upd_n (by decide)).trans h22)) hok2 (by rw [← hdev]; exact (pv_dev his).symm.trans heq)
                            · have hle : sumk pls kd (xx - 2 ^ k) n ≤ ff + fds (kd k) := Nat.le_of_not_le (fun h => c_51 (nI_le h (by omega)))
                              have hmn : min (ff + fds (kd k)) (sumk pls kd (xx - 2 ^ k) n) = sumk pls kd (xx - 2 ^ k) n := Nat.min_eq_right hle
                              refine z_aload_n C (pc := 193) dL_march_193 rfl ?_
                              refine z_iconst C (pc := 194) (v := nI 1) dL_march_194 (by decide) ?_
                              refine z_aload_n C (pc := 195) dL_march_195 rfl ?_
                              refine z_aload_n C (pc := 196) dL_march_196 rfl ?_
                              refine z_iconst C (pc := 197) (v := nI 0) dL_march_197 (by decide) ?_
                              have h_52 : vp_in (nI 0) 3 := by exact vp_in_nI (by omega) (by decide)
                              refine z_iald C (pc := 198) 2 rfl h_52 dL_march_198 ?_
                              refine z_seti (y := ((upd (upd fr2 0 (nI (xx - 2 ^ k))) 1 (nI (ff + (fds (kd k))))) 0)) (by rw [nI_clamp (by omega)]) ?_
                              refine z_seti (y := nI (xx - 2 ^ k)) ((upd_n (by decide)).trans upd_s) ?_
                              refine z_iconst C (pc := 199) (v := nI 0) dL_march_199 (by decide) ?_
                              refine z_calli C (isC := [0]) rfl (by exact fun _ => rfl) (runS C (wc := [(ab, .inl (cI, 7, .inl fb))]) (pc := 200) (rY' := rm 1 21) (nn := 3) (As := [.ref ab, .int (nI (xx - 2 ^ k)), .int (nI 0)]) (rest := [.int (nI 1), .ref ar]) (g_sumP l D cI tt ab fb kd n hb (xx - 2 ^ k) (by omega)) rfl rfl ⟨rfl, rfl, ⟨Nat.le_of_ble_eq_true rfl, Nat.le_of_ble_eq_true rfl⟩, Nat.le_of_ble_eq_true rfl, Nat.le_of_ble_eq_true rfl⟩ wl_L_27 ws_L_sum wi_L wc_L_sum (by decide +kernel) rfl rfl (Nat.le_of_ble_eq_true rfl) dL_march_200) (fun r_53 u_53 h_53 => ?_)
                              subst h_53
                              refine z_ws (st' := [.int (nI (sumk pls kd (xx - 2 ^ k) n)), .int (nI 1), .ref ar]) (ws' := [(ab, .inl (cI, 7, .inl fb)), (ad, .inl (cI, 9, .inl fd')), (ar, .inl (cI, 3, .inl (upd (upd fr2 0 (nI (xx - 2 ^ k))) 1 (nI (ff + (fds (kd k)))))))]) rfl rfl ?_
                              have h_54 : vp_in (nI 1) 3 := by exact vp_in_nI (by omega) (by decide)
                              refine z_iast C (pc := 203) 2 rfl h_54 (ws' := [(ab, .inl (cI, 7, .inl fb)), (ad, .inl (cI, 9, .inl fd')), (ar, .inl (cI, 3, .inl (upd (upd (upd fr2 0 (nI (xx - 2 ^ k))) 1 (nI (ff + (fds (kd k))))) 1 (nI (sumk pls kd (xx - 2 ^ k) n)))))]) (by rw [nI_clamp (by omega)]; rfl) dL_march_203 ?_
                              refine z_iinc C (pc := 204) (v := ((nI k) + (-1))) (lv' := [(0, .ref ab), (1, .ref ad), (2, .ref ar), (3, .int (nI x)), (4, .int (nI st)), (5, .int (nI f)), (6, .int (nI (j + 1))), (7, .int (nI sn)), (8, .int ((nI k) + (-1))), (9, .int w)]) dL_march_204 rfl rfl (Nat.le_of_ble_eq_true rfl) rfl rfl ?_
                              refine z_goto C (pc := 207) (tgt := 61) dL_march_207 (by decide) ?_
                              have hdev : dev kd n k (xx, ff) = (xx - 2 ^ k, sumk pls kd (xx - 2 ^ k) n) := by
                                unfold dev
                                rw [if_pos hbt]
                                show (xx - 2 ^ k, min (ff + fds (kd k)) (sumk pls kd (xx - 2 ^ k) n)) = _
                                rw [hmn]
                              have hok2 : OK kd n (xx - 2 ^ k) (sumk pls kd (xx - 2 ^ k) n) := by
                                have := dev_ok (s := (xx, ff)) hn6 hk hok
                                rw [hdev] at this
                                exact this
                              refine z_lv (lv' := [(0, .ref ab), (1, .ref ad), (2, .ref ar), (3, .int (nI x)), (4, .int (nI st)), (5, .int (nI f)), (6, .int (nI (j + 1))), (7, .int (nI sn)), (8, .int (nI k - 1))]) ⟨rfl, rfl, rfl, rfl, rfl, rfl, rfl, rfl, lki (add_m1 _), trivial⟩ ?_
                              exact ih61 k (xx - 2 ^ k) (sumk pls kd (xx - 2 ^ k) n) (upd (upd (upd fr2 0 (nI (xx - 2 ^ k))) 1 (nI (ff + (fds (kd k))))) 1 (nI (sumk pls kd (xx - 2 ^ k) n))) (by omega) (by omega) ((upd_n (by decide)).trans ((upd_n (by decide)).trans upd_s)) upd_s ((upd_n (by decide)).trans ((upd_n (by decide)).trans ((upd_n (by decide)).trans h22))) hok2 (by rw [← hdev]; exact (pv_dev his).symm.trans heq)
                          · have hni : ¬ isv kd n st (j + 1) sn k (xx, ff) := hw.elim (fun h => absurd (h.1.symm.trans c_41) (by decide)) (fun h => h.2)
                            refine z_goto C (pc := 151) (tgt := 204) dL_march_151 (by decide) ?_
                            refine z_iinc C (pc := 204) (v := ((nI k) + (-1))) (lv' := [(0, .ref ab), (1, .ref ad), (2, .ref ar), (3, .int (nI x)), (4, .int (nI st)), (5, .int (nI f)), (6, .int (nI (j + 1))), (7, .int (nI sn)), (8, .int ((nI k) + (-1))), (9, .int w)]) dL_march_204 rfl rfl (Nat.le_of_ble_eq_true rfl) rfl rfl ?_
                            refine z_goto C (pc := 207) (tgt := 61) dL_march_207 (by decide) ?_
                            refine z_lv (lv' := [(0, .ref ab), (1, .ref ad), (2, .ref ar), (3, .int (nI x)), (4, .int (nI st)), (5, .int (nI f)), (6, .int (nI (j + 1))), (7, .int (nI sn)), (8, .int (nI k - 1))]) ⟨rfl, rfl, rfl, rfl, rfl, rfl, rfl, rfl, lki (add_m1 _), trivial⟩ ?_
                            exact ih61 k xx ff fr2 (by omega) (by omega) h20 h21 h22 hok ((pv_not hni).symm.trans heq)
                      refine z_iload C (pc := 66) dL_march_66 rfl ?_
                      refine z_if_ne C (pc := 68) (tgt := 102) dL_march_68 (by decide) (fun c_55 => ?_) (fun c_55 => ?_)
                      · have hs0 : ¬ sn = 0 := nI_nz c_55
                        refine z_aload_n C (pc := 102) dL_march_102 rfl ?_
                        refine z_iconst C (pc := 103) (v := nI 1) dL_march_103 (by decide) ?_
                        refine z_iload C (pc := 104) dL_march_104 rfl ?_
                        refine z_iadd C (pc := 106) dL_march_106 ?_
                        refine z_seti (y := nI (1 + k)) (nI_add _ _) ?_
                        have h_56 : vp_in (nI (1 + k)) 7 := by exact vp_in_nI (by omega) (by decide)
                        refine z_iald C (pc := 107) 0 rfl h_56 dL_march_107 ?_
                        refine z_seti (y := (fb (1 + k))) (by rw [nI_clamp (by omega)]) ?_
                        refine z_seti (y := nI (kd k)) (by rw [Nat.add_comm]; exact hbk.1) ?_
                        refine z_calli C (isC := []) rfl (by exact fun _ => rfl) (runS C (wc := []) (pc := 108) (rY' := rm 0 0) (nn := 1) (As := [.int (nI (kd k))]) (rest := []) (g_feeds l D cI tt (kd k) hbk.2) rfl rfl ⟨rfl, rfl, ⟨Nat.le_of_ble_eq_true rfl, Nat.le_of_ble_eq_true rfl⟩, Nat.le_of_ble_eq_true rfl, Nat.le_of_ble_eq_true rfl⟩ wl_L_31 ws_L_feeds wi_L wc_L_feeds (by decide +kernel) rfl rfl (Nat.le_of_ble_eq_true rfl) dL_march_108) (fun r_57 u_57 h_57 => ?_)
                        subst h_57
                        refine z_ws (st' := [.int (nI (fds (kd k)))]) (ws' := [(ab, .inl (cI, 7, .inl fb)), (ad, .inl (cI, 9, .inl fd')), (ar, .inl (cI, 3, .inl fr2))]) rfl rfl ?_
                        refine z_if_le C (pc := 111) (tgt := 132) dL_march_111 (by decide) (fun c_58 => ?_) (fun c_58 => ?_)
                        · have h6 := fds_npos hbk.2 c_58
                          have hisv : ¬ isv kd n st (j + 1) sn k (xx, ff) := by
                            unfold isv
                            rw [if_neg hs0]
                            exact fun h => h6 h.1
                          refine z_iconst C (pc := 132) (v := nI 0) dL_march_132 (by decide) ?_
                          refine z_istore C (pc := 133) (lv' := [(0, .ref ab), (1, .ref ad), (2, .ref ar), (3, .int (nI x)), (4, .int (nI st)), (5, .int (nI f)), (6, .int (nI (j + 1))), (7, .int (nI sn)), (8, .int (nI k)), (9, .int (nI 0))]) dL_march_133 (Nat.le_of_ble_eq_true rfl) rfl rfl ?_
                          refine z_lv (lv' := [(0, .ref ab), (1, .ref ad), (2, .ref ar), (3, .int (nI x)), (4, .int (nI st)), (5, .int (nI f)), (6, .int (nI (j + 1))), (7, .int (nI sn)), (8, .int (nI k)), (9, .int (nI 0))]) ⟨rfl, rfl, rfl, rfl, rfl, rfl, rfl, rfl, rfl, rfl, trivial⟩ ?_
                          exact join135 (nI 0) (Or.inr ⟨rfl, hisv⟩)
                        · have h6 := fds_pos hbk.2 c_58
                          refine z_aload_n C (pc := 114) dL_march_114 rfl ?_
                          refine z_iconst C (pc := 115) (v := nI 1) dL_march_115 (by decide) ?_
                          have h_59 : vp_in (nI 1) 3 := by exact vp_in_nI (by omega) (by decide)
                          refine z_iald C (pc := 116) 2 rfl h_59 dL_march_116 ?_
                          refine z_seti (y := (fr2 1)) (by rw [nI_clamp (by omega)]) ?_
                          refine z_seti (y := nI ff) h21 ?_
                          refine z_aload_n C (pc := 117) dL_march_117 rfl ?_
                          refine z_aload_n C (pc := 118) dL_march_118 rfl ?_
                          refine z_iconst C (pc := 119) (v := nI 0) dL_march_119 (by decide) ?_
                          have h_60 : vp_in (nI 0) 3 := by exact vp_in_nI (by omega) (by decide)
                          refine z_iald C (pc := 120) 2 rfl h_60 dL_march_120 ?_
                          refine z_seti (y := (fr2 0)) (by rw [nI_clamp (by omega)]) ?_
                          refine z_seti (y := nI xx) h20 ?_
                          refine z_iconst C (pc := 121) (v := nI 1) dL_march_121 (by decide) ?_
                          refine z_calli C (isC := [0]) rfl (by exact fun _ => rfl) (runS C (wc := [(ab, .inl (cI, 7, .inl fb))]) (pc := 122) (rY' := rm 1 21) (nn := 3) (As := [.ref ab, .int (nI xx), .int (nI 1)]) (rest := [.int (nI ff)]) (g_sumE l D cI tt ab fb kd n hb xx (by omega)) rfl rfl ⟨rfl, rfl, ⟨Nat.le_of_ble_eq_true rfl, Nat.le_of_ble_eq_true rfl⟩, Nat.le_of_ble_eq_true rfl, Nat.le_of_ble_eq_true rfl⟩ wl_L_27 ws_L_sum wi_L wc_L_sum (by decide +kernel) rfl rfl (Nat.le_of_ble_eq_true rfl) dL_march_122) (fun r_61 u_61 h_61 => ?_)
                          subst h_61
                          refine z_ws (st' := [.int (nI (sumk ets kd xx n)), .int (nI ff)]) (ws' := [(ab, .inl (cI, 7, .inl fb)), (ad, .inl (cI, 9, .inl fd')), (ar, .inl (cI, 3, .inl fr2))]) rfl rfl ?_
                          refine z_icmp_ge C (pc := 125) (tgt := 132) dL_march_125 (by decide) (fun c_62 => ?_) (fun c_62 => ?_)
                          · have h7 : sumk ets kd xx n ≤ ff := ge_of_nI c_62 (by omega)
                            have hisv : ¬ isv kd n st (j + 1) sn k (xx, ff) := by
                              unfold isv
                              rw [if_neg hs0]
                              exact fun h => by have h8 : ff < sumk ets kd xx n := h.2; omega
                            refine z_iconst C (pc := 132) (v := nI 0) dL_march_132 (by decide) ?_
                            refine z_istore C (pc := 133) (lv' := [(0, .ref ab), (1, .ref ad), (2, .ref ar), (3, .int (nI x)), (4, .int (nI st)), (5, .int (nI f)), (6, .int (nI (j + 1))), (7, .int (nI sn)), (8, .int (nI k)), (9, .int (nI 0))]) dL_march_133 (Nat.le_of_ble_eq_true rfl) rfl rfl ?_
                            refine z_lv (lv' := [(0, .ref ab), (1, .ref ad), (2, .ref ar), (3, .int (nI x)), (4, .int (nI st)), (5, .int (nI f)), (6, .int (nI (j + 1))), (7, .int (nI sn)), (8, .int (nI k)), (9, .int (nI 0))]) ⟨rfl, rfl, rfl, rfl, rfl, rfl, rfl, rfl, rfl, rfl, trivial⟩ ?_
                            exact join135 (nI 0) (Or.inr ⟨rfl, hisv⟩)
                          · have h7 : ff < sumk ets kd xx n := lt_of_nI c_62 (by omega)
                            have hisv : isv kd n st (j + 1) sn k (xx, ff) := by
                              unfold isv
                              rw [if_neg hs0]
                              exact ⟨h6, h7⟩
                            refine z_iconst C (pc := 128) (v := nI 1) dL_march_128 (by decide) ?_
                            refine z_goto C (pc := 129) (tgt := 133) dL_march_129 (by decide) ?_
                            refine z_istore C (pc := 133) (lv' := [(0, .ref ab), (1, .ref ad), (2, .ref ar), (3, .int (nI x)), (4, .int (nI st)), (5, .int (nI f)), (6, .int (nI (j + 1))), (7, .int (nI sn)), (8, .int (nI k)), (9, .int (nI 1))]) dL_march_133 (Nat.le_of_ble_eq_true rfl) rfl rfl ?_
                            refine z_lv (lv' := [(0, .ref ab), (1, .ref ad), (2, .ref ar), (3, .int (nI x)), (4, .int (nI st)), (5, .int (nI f)), (6, .int (nI (j + 1))), (7, .int (nI sn)), (8, .int (nI k)), (9, .int (nI 1))]) ⟨rfl, rfl, rfl, rfl, rfl, rfl, rfl, rfl, rfl, rfl, trivial⟩ ?_
                            exact join135 (nI 1) (Or.inl ⟨rfl, hisv⟩)
                      · have hs0 : sn = 0 := nI_z (by omega) c_55
                        refine z_iload C (pc := 71) dL_march_71 rfl ?_
                        refine z_iconst C (pc := 73) (v := nI 3) dL_march_73 (by decide) ?_
                        refine z_icmp_le C (pc := 74) (tgt := 98) dL_march_74 (by decide) (fun c_63 => ?_) (fun c_63 => ?_)
                        · have h3 : j + 1 ≤ 3 := (nI_leI (by omega) (by decide)).mp c_63
                          have hisv : ¬ isv kd n st (j + 1) sn k (xx, ff) := by
                            unfold isv
                            rw [if_pos hs0]
                            exact fun h => by have := h.2.1; omega
                          refine z_iconst C (pc := 98) (v := nI 0) dL_march_98 (by decide) ?_
                          refine z_goto C (pc := 99) (tgt := 133) dL_march_99 (by decide) ?_
                          refine z_istore C (pc := 133) (lv' := [(0, .ref ab), (1, .ref ad), (2, .ref ar), (3, .int (nI x)), (4, .int (nI st)), (5, .int (nI f)), (6, .int (nI (j + 1))), (7, .int (nI sn)), (8, .int (nI k)), (9, .int (nI 0))]) dL_march_133 (Nat.le_of_ble_eq_true rfl) rfl rfl ?_
                          refine z_lv (lv' := [(0, .ref ab), (1, .ref ad), (2, .ref ar), (3, .int (nI x)), (4, .int (nI st)), (5, .int (nI f)), (6, .int (nI (j + 1))), (7, .int (nI sn)), (8, .int (nI k)), (9, .int (nI 0))]) ⟨rfl, rfl, rfl, rfl, rfl, rfl, rfl, rfl, rfl, rfl, trivial⟩ ?_
                          exact join135 (nI 0) (Or.inr ⟨rfl, hisv⟩)
                        · have h3 : ¬ j + 1 ≤ 3 := fun h => c_63 (nI_le h (by decide))
                          refine z_iload C (pc := 77) dL_march_77 rfl ?_
                          refine z_iload C (pc := 79) dL_march_79 rfl ?_
                          refine z_icmp_gt C (pc := 81) (tgt := 98) dL_march_81 (by decide) (fun c_64 => ?_) (fun c_64 => ?_)
                          · have h4 : ¬ j + 1 ≤ st := by
                              have := (nI_ltI (by omega) (by omega)).mp c_64
                              omega
                            have hisv : ¬ isv kd n st (j + 1) sn k (xx, ff) := by
                              unfold isv
                              rw [if_pos hs0]
                              exact fun h => h4 h.1
                            refine z_iconst C (pc := 98) (v := nI 0) dL_march_98 (by decide) ?_
                            refine z_goto C (pc := 99) (tgt := 133) dL_march_99 (by decide) ?_
                            refine z_istore C (pc := 133) (lv' := [(0, .ref ab), (1, .ref ad), (2, .ref ar), (3, .int (nI x)), (4, .int (nI st)), (5, .int (nI f)), (6, .int (nI (j + 1))), (7, .int (nI sn)), (8, .int (nI k)), (9, .int (nI 0))]) dL_march_133 (Nat.le_of_ble_eq_true rfl) rfl rfl ?_
                            refine z_lv (lv' := [(0, .ref ab), (1, .ref ad), (2, .ref ar), (3, .int (nI x)), (4, .int (nI st)), (5, .int (nI f)), (6, .int (nI (j + 1))), (7, .int (nI sn)), (8, .int (nI k)), (9, .int (nI 0))]) ⟨rfl, rfl, rfl, rfl, rfl, rfl, rfl, rfl, rfl, rfl, trivial⟩ ?_
                            exact join135 (nI 0) (Or.inr ⟨rfl, hisv⟩)
                          · have h4 : j + 1 ≤ st := Nat.le_of_not_lt (fun h => c_64 (nI_lt h (by omega)))
                            refine z_aload_n C (pc := 84) dL_march_84 rfl ?_
                            refine z_iconst C (pc := 85) (v := nI 1) dL_march_85 (by decide) ?_
                            refine z_iload C (pc := 86) dL_march_86 rfl ?_
                            refine z_iadd C (pc := 88) dL_march_88 ?_
                            refine z_seti (y := nI (1 + k)) (nI_add _ _) ?_
                            have h_65 : vp_in (nI (1 + k)) 7 := by exact vp_in_nI (by omega) (by decide)
                            refine z_iald C (pc := 89) 0 rfl h_65 dL_march_89 ?_
                            refine z_seti (y := (fb (1 + k))) (by rw [nI_clamp (by omega)]) ?_
                            refine z_seti (y := nI (kd k)) (by rw [Nat.add_comm]; exact hbk.1) ?_
                            refine z_iconst C (pc := 90) (v := nI 1) dL_march_90 (by decide) ?_
                            refine z_icmp_ne C (pc := 91) (tgt := 98) dL_march_91 (by decide) (fun c_66 => ?_) (fun c_66 => ?_)
                            · have h5 : ¬ kd k = 1 := fun e => c_66 (by rw [e])
                              have hisv : ¬ isv kd n st (j + 1) sn k (xx, ff) := by
                                unfold isv
                                rw [if_pos hs0]
                                exact fun h => h5 h.2.2
                              refine z_iconst C (pc := 98) (v := nI 0) dL_march_98 (by decide) ?_
                              refine z_goto C (pc := 99) (tgt := 133) dL_march_99 (by decide) ?_
                              refine z_istore C (pc := 133) (lv' := [(0, .ref ab), (1, .ref ad), (2, .ref ar), (3, .int (nI x)), (4, .int (nI st)), (5, .int (nI f)), (6, .int (nI (j + 1))), (7, .int (nI sn)), (8, .int (nI k)), (9, .int (nI 0))]) dL_march_133 (Nat.le_of_ble_eq_true rfl) rfl rfl ?_
                              refine z_lv (lv' := [(0, .ref ab), (1, .ref ad), (2, .ref ar), (3, .int (nI x)), (4, .int (nI st)), (5, .int (nI f)), (6, .int (nI (j + 1))), (7, .int (nI sn)), (8, .int (nI k)), (9, .int (nI 0))]) ⟨rfl, rfl, rfl, rfl, rfl, rfl, rfl, rfl, rfl, rfl, trivial⟩ ?_
                              exact join135 (nI 0) (Or.inr ⟨rfl, hisv⟩)
                            · have h5 : kd k = 1 := (nI_eq (by omega) (by decide)).mp c_66
                              have hisv : isv kd n st (j + 1) sn k (xx, ff) := by
                                unfold isv
                                rw [if_pos hs0]
                                exact ⟨h4, by omega, h5⟩
                              refine z_iconst C (pc := 94) (v := nI 1) dL_march_94 (by decide) ?_
                              refine z_goto C (pc := 95) (tgt := 133) dL_march_95 (by decide) ?_
                              refine z_istore C (pc := 133) (lv' := [(0, .ref ab), (1, .ref ad), (2, .ref ar), (3, .int (nI x)), (4, .int (nI st)), (5, .int (nI f)), (6, .int (nI (j + 1))), (7, .int (nI sn)), (8, .int (nI k)), (9, .int (nI 1))]) dL_march_133 (Nat.le_of_ble_eq_true rfl) rfl rfl ?_
                              refine z_lv (lv' := [(0, .ref ab), (1, .ref ad), (2, .ref ar), (3, .int (nI x)), (4, .int (nI st)), (5, .int (nI f)), (6, .int (nI (j + 1))), (7, .int (nI sn)), (8, .int (nI k)), (9, .int (nI 1))]) ⟨rfl, rfl, rfl, rfl, rfl, rfl, rfl, rfl, rfl, rfl, trivial⟩ ?_
                              exact join135 (nI 1) (Or.inl ⟨rfl, hisv⟩)
                refine z_lv (lv' := [(0, .ref ab), (1, .ref ad), (2, .ref ar), (3, .int (nI x)), (4, .int (nI st)), (5, .int (nI f)), (6, .int (nI (j + 1))), (7, .int (nI sn)), (8, .int (nI n - 1))]) ⟨rfl, rfl, rfl, rfl, rfl, rfl, rfl, rfl, rfl, trivial⟩ ?_
                exact key61 (_ + 1) n xx ff fr2 (Nat.lt_succ_self _) (Nat.le_refl _) h20 h21 h22 hok (by rw [hsv]; rfl)
          refine z_lv (lv' := [(0, .ref ab), (1, .ref ad), (2, .ref ar), (3, .int (nI x)), (4, .int (nI st)), (5, .int (nI f)), (6, .int (nI (j + 1))), (7, .int (nI 0))]) ⟨rfl, rfl, rfl, rfl, rfl, rfl, rfl, rfl, trivial⟩ ?_
          exact key48 (_ + 1) 0 z.1 z.2.1 fr' (Nat.lt_succ_self _) (Nat.zero_le _) hr0 hr1 hr2 hmk.1 rfl
    refine z_lv (lv' := [(0, .ref ab), (1, .ref ad), (2, .ref ar), (3, .int (nI x)), (4, .int (nI st)), (5, .int (nI f)), (6, .int (nI (0 + 1)))]) ⟨rfl, rfl, rfl, rfl, rfl, rfl, rfl, trivial⟩ ?_
    exact key36 (_ + 1) 0 fd (upd fr1 2 (nI 0)) (Nat.lt_succ_self _) (Nat.zero_le _) rfl (by rw [upd_n (by decide)]; exact h10) (by rw [upd_n (by decide)]; exact h11) upd_s hd (fun _ _ => rfl)
  refine z_aload_n C (pc := 0) dL_march_0 rfl ?_
  refine z_iconst C (pc := 1) (v := nI 0) dL_march_1 (by decide) ?_
  refine z_iload_n C (pc := 2) dL_march_2 rfl ?_
  have h_67 : vp_in (nI 0) 3 := by exact vp_in_nI (by omega) (by decide)
  refine z_iast C (pc := 3) 2 rfl h_67 (ws' := [(ab, .inl (cI, 7, .inl fb)), (ad, .inl (cI, 9, .inl fd)), (ar, .inl (cI, 3, .inl (upd fr 0 (nI x))))]) (by rw [nI_clamp (by omega)]; rfl) dL_march_3 ?_
  refine z_aload_n C (pc := 4) dL_march_4 rfl ?_
  refine z_iconst C (pc := 5) (v := nI 1) dL_march_5 (by decide) ?_
  refine z_iload C (pc := 6) dL_march_6 rfl ?_
  refine z_aload_n C (pc := 8) dL_march_8 rfl ?_
  refine z_iload_n C (pc := 9) dL_march_9 rfl ?_
  refine z_iconst C (pc := 10) (v := nI 0) dL_march_10 (by decide) ?_
  refine z_calli C (isC := [0]) rfl (by exact fun _ => rfl) (runS C (wc := [(ab, .inl (cI, 7, .inl fb))]) (pc := 11) (rY' := rm 1 21) (nn := 3) (As := [.ref ab, .int (nI x), .int (nI 0)]) (rest := [.int (nI f), .int (nI 1), .ref ar]) (g_sumP l D cI tt ab fb kd n hb x (by omega)) rfl rfl ⟨rfl, rfl, ⟨Nat.le_of_ble_eq_true rfl, Nat.le_of_ble_eq_true rfl⟩, Nat.le_of_ble_eq_true rfl, Nat.le_of_ble_eq_true rfl⟩ wl_L_27 ws_L_sum wi_L wc_L_sum (by decide +kernel) rfl rfl (Nat.le_of_ble_eq_true rfl) dL_march_11) (fun r_68 u_68 h_68 => ?_)
  subst h_68
  refine z_ws (st' := [.int (nI (sumk pls kd x n)), .int (nI f), .int (nI 1), .ref ar]) (ws' := [(ab, .inl (cI, 7, .inl fb)), (ad, .inl (cI, 9, .inl fd)), (ar, .inl (cI, 3, .inl (upd fr 0 (nI x))))]) rfl rfl ?_
  refine z_icmp_ge C (pc := 14) (tgt := 22) dL_march_14 (by decide) (fun c_69 => ?_) (fun c_69 => ?_)
  · have hfp : sumk pls kd x n ≤ f := ge_of_nI c_69 (by omega)
    have hmin : min f (sumk pls kd x n) = sumk pls kd x n := Nat.min_eq_right hfp
    refine z_aload_n C (pc := 22) dL_march_22 rfl ?_
    refine z_iload_n C (pc := 23) dL_march_23 rfl ?_
    refine z_iconst C (pc := 24) (v := nI 0) dL_march_24 (by decide) ?_
    refine z_calli C (isC := [0]) rfl (by exact fun _ => rfl) (runS C (wc := [(ab, .inl (cI, 7, .inl fb))]) (pc := 25) (rY' := rm 1 21) (nn := 3) (As := [.ref ab, .int (nI x), .int (nI 0)]) (rest := [.int (nI 1), .ref ar]) (g_sumP l D cI tt ab fb kd n hb x (by omega)) rfl rfl ⟨rfl, rfl, ⟨Nat.le_of_ble_eq_true rfl, Nat.le_of_ble_eq_true rfl⟩, Nat.le_of_ble_eq_true rfl, Nat.le_of_ble_eq_true rfl⟩ wl_L_27 ws_L_sum wi_L wc_L_sum (by decide +kernel) rfl rfl (Nat.le_of_ble_eq_true rfl) dL_march_25) (fun r_70 u_70 h_70 => ?_)
    subst h_70
    refine z_ws (st' := [.int (nI (sumk pls kd x n)), .int (nI 1), .ref ar]) (ws' := [(ab, .inl (cI, 7, .inl fb)), (ad, .inl (cI, 9, .inl fd)), (ar, .inl (cI, 3, .inl (upd fr 0 (nI x))))]) rfl rfl ?_
    have h_71 : vp_in (nI 1) 3 := by exact vp_in_nI (by omega) (by decide)
    refine z_iast C (pc := 28) 2 rfl h_71 (ws' := [(ab, .inl (cI, 7, .inl fb)), (ad, .inl (cI, 9, .inl fd)), (ar, .inl (cI, 3, .inl (upd (upd fr 0 (nI x)) 1 (nI (sumk pls kd x n)))))]) (by rw [nI_clamp (by omega)]; rfl) dL_march_28 ?_
    refine z_lv (lv' := [(0, .ref ab), (1, .ref ad), (2, .ref ar), (3, .int (nI x)), (4, .int (nI st)), (5, .int (nI f))]) ⟨rfl, rfl, rfl, rfl, rfl, rfl, trivial⟩ ?_
    exact join29 (upd (upd fr 0 (nI x)) 1 (nI (sumk pls kd x n))) (by rw [upd_n (by decide), upd_s]) (by rw [upd_s, hmin])
  · have hfp : f < sumk pls kd x n := lt_of_nI c_69 (by omega)
    have hmin : min f (sumk pls kd x n) = f := Nat.min_eq_left (by omega)
    refine z_iload C (pc := 17) dL_march_17 rfl ?_
    refine z_goto C (pc := 19) (tgt := 28) dL_march_19 (by decide) ?_
    have h_72 : vp_in (nI 1) 3 := by exact vp_in_nI (by omega) (by decide)
    refine z_iast C (pc := 28) 2 rfl h_72 (ws' := [(ab, .inl (cI, 7, .inl fb)), (ad, .inl (cI, 9, .inl fd)), (ar, .inl (cI, 3, .inl (upd (upd fr 0 (nI x)) 1 (nI f))))]) (by rw [nI_clamp (by omega)]; rfl) dL_march_28 ?_
    refine z_lv (lv' := [(0, .ref ab), (1, .ref ad), (2, .ref ar), (3, .int (nI x)), (4, .int (nI st)), (5, .int (nI f))]) ⟨rfl, rfl, rfl, rfl, rfl, rfl, trivial⟩ ?_
    exact join29 (upd (upd fr 0 (nI x)) 1 (nI f)) (by rw [upd_n (by decide), upd_s]) (by rw [upd_s, hmin])
end
