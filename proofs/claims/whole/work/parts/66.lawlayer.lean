/-! the law's layer: two worlds side by side, its script -/
theorem app_swap {w wb : va_W} {k : Nat} {q : Nat × va_E} (h : (w ++ wb)[k]? = some q) : (wb ++ w)[if k < w.length then wb.length + k else k - w.length]? = some q ∧ k < w.length + wb.length := by
  by_cases hk : k < w.length
  · rw [if_pos hk]
    rw [List.getElem?_append_left hk] at h
    rw [List.getElem?_append_right (by omega), show wb.length + k - wb.length = k by omega]
    exact ⟨h, by omega⟩
  · rw [if_neg hk]
    rw [List.getElem?_append_right (by omega)] at h
    have h2 := (List.getElem?_eq_some_iff.mp h).1
    rw [List.getElem?_append_left h2]
    exact ⟨h, by omega⟩
theorem va_P_swap {D : va_G} {cl : List vw_C} {w wb : va_W} {H : Heap} (h : va_P D cl (wb ++ w) H) : va_P D cl (w ++ wb) H := fun _ q hk => h _ q (app_swap hk).1
theorem va_D_swap {A : Nat → Prop} {w wb : va_W} (h : va_D A (wb ++ w)) : va_D A (w ++ wb) := by
  refine ⟨fun i j x y hx hy e => ?_, fun k q hk => h.2 _ q (app_swap hk).1⟩
  have h1 := h.1 _ _ x y (app_swap hx).1 (app_swap hy).1 e
  have h2 := (app_swap hx).2
  have h3 := (app_swap hy).2
  split at h1 <;> split at h1 <;> omega
def apR (wa wb : va_W) : List Nat := (List.range wb.length).map (fun i => wa.length + i)
theorem apL_hC (wa wb : va_W) : (List.range wa.length).map (fun i => (wa ++ wb)[i]?) = wa.map some := (List.map_congr_left (fun _ hi => List.getElem?_append_left (List.mem_range.mp hi))).trans (full_hC wa)
theorem apR_hC (wa wb : va_W) : (apR wa wb).map (fun i => (wa ++ wb)[i]?) = wb.map some := by
  unfold apR
  rw [List.map_map]
  refine (List.map_congr_left (fun i _ => ?_)).trans (full_hC wb)
  show (wa ++ wb)[wa.length + i]? = wb[i]?
  rw [List.getElem?_append_right (by omega), show wa.length + i - wa.length = i by omega]
theorem apR_nd (wa wb : va_W) : va_nd (apR wa wb) = true := va_nd_of (List.Pairwise.map (fun i => wa.length + i) (fun a b h e => h (Nat.add_left_cancel e)) List.nodup_range)
theorem apR_L (wa wb : va_W) : ∀ i ∈ apR wa wb, i ∉ List.range wa.length := fun i hi h => by
  obtain ⟨j, -, e⟩ := List.mem_map.mp hi
  have e' : wa.length + j = i := e
  have := List.mem_range.mp h
  omega
section ZL
variable {p : Program} {l : Launch} {e : Env} {R : Room} {s : State} {m : MethodId} {args : Array Value} {below : List Frame} {meth : Method} {c : Code} {D : va_G} {A : Nat → Prop} {n ce sl : Nat} {Q : State → Prop} {own : String} {cc : ByteArray} {rt : Option FieldType} {cI : ClassId} {tt : Nat × Nat × Nat} {pc : Nat} {lv : List (Nat × Value)} {st : List Value} {ws : va_W}
theorem z_calliL {S : Type} {post : Int32 → S → Prop} {wf : S → va_W} {wa wb : va_W} {st0 rest : List Value} (C : Cx p s m args meth c own cc n rt D cI tt A) (he : ∀ u, (wf u).map (·.1) = wa.map (·.1)) (hr : Runs p l e R s m args below meth c D A n ce sl pc st0 rest (wa ++ wb) wa (List.range wa.length) (fun sz => va_Qi post (fun u t => va_P D vwCl (wf u) t.heap) (va_A wa sz)))
    (kk : ∀ (r : Int32) (u : S), post r u → Z p l e R s m args below meth c D A n ce sl Q (pc + 3) lv (.int r :: rest) (wf u ++ wb)) : Z p l e R s m args below meth c D A n ce sl Q pc lv st0 (wa ++ wb) := fun H locs ls h1 h2 h3 h4 => by
  obtain ⟨a, hr⟩ := hr H locs ls h1 h2 h3 h4.1
  have hF := va_free h2 h3 C.2.2.2.2.2.2.2.2.2.2 _ (apL_hC wa wb)
  refine va_calli hr h3 (fun q _ h => hF q h) hF (fun r u t H1 locs1 ht hvm hw hB hz1 hk1 hS => ?_)
  have hB1 : va_P D vwCl (wf u) H1 := by rw [← ht]; exact hB
  have hDa : va_D (va_A wa H.size) (wf u) := va_D_addr (h2.sub _ (full_nd wa) (apL_hC wa wb)).self (he u)
  obtain ⟨g1, g2⟩ := va_join (wr := wb) h1 h2 (List.range wa.length) (apR wa wb) (apL_hC wa wb) (apR_hC wa wb) (apR_nd wa wb) (apR_L wa wb) hk1 hF hB1 hDa
  exact kk r u hw H1 locs1 ls (va_P_swap g1) (va_D_swap g2) hS h4
theorem z_calllL {S : Type} {post : Int64 → S → Prop} {wf : S → va_W} {wa wb : va_W} {st0 rest : List Value} (C : Cx p s m args meth c own cc n rt D cI tt A) (he : ∀ u, (wf u).map (·.1) = wa.map (·.1)) (hr : Runs p l e R s m args below meth c D A n ce sl pc st0 rest (wa ++ wb) wa (List.range wa.length) (fun sz => va_Ql post (fun u t => va_P D vwCl (wf u) t.heap) (va_A wa sz)))
    (kk : ∀ (r : Int64) (u : S), post r u → Z p l e R s m args below meth c D A n ce sl Q (pc + 3) lv (.long r :: rest) (wf u ++ wb)) : Z p l e R s m args below meth c D A n ce sl Q pc lv st0 (wa ++ wb) := fun H locs ls h1 h2 h3 h4 => by
  obtain ⟨a, hr⟩ := hr H locs ls h1 h2 h3 h4.1
  have hF := va_free h2 h3 C.2.2.2.2.2.2.2.2.2.2 _ (apL_hC wa wb)
  refine va_calll hr h3 (fun q _ h => hF q h) hF (fun r u t H1 locs1 ht hvm hw hB hz1 hk1 hS => ?_)
  have hB1 : va_P D vwCl (wf u) H1 := by rw [← ht]; exact hB
  have hDa : va_D (va_A wa H.size) (wf u) := va_D_addr (h2.sub _ (full_nd wa) (apL_hC wa wb)).self (he u)
  obtain ⟨g1, g2⟩ := va_join (wr := wb) h1 h2 (List.range wa.length) (apR wa wb) (apL_hC wa wb) (apR_hC wa wb) (apR_nd wa wb) (apR_L wa wb) hk1 hF hB1 hDa
  exact kk r u hw H1 locs1 ls (va_P_swap g1) (va_D_swap g2) hS h4
theorem z_calliR {S : Type} {post : Int32 → S → Prop} {wf : S → va_W} {wa wb : va_W} {st0 rest : List Value} (C : Cx p s m args meth c own cc n rt D cI tt A) (he : ∀ u, (wf u).map (·.1) = wb.map (·.1)) (hr : Runs p l e R s m args below meth c D A n ce sl pc st0 rest (wa ++ wb) wb (apR wa wb) (fun sz => va_Qi post (fun u t => va_P D vwCl (wf u) t.heap) (va_A wb sz)))
    (kk : ∀ (r : Int32) (u : S), post r u → Z p l e R s m args below meth c D A n ce sl Q (pc + 3) lv (.int r :: rest) (wa ++ wf u)) : Z p l e R s m args below meth c D A n ce sl Q pc lv st0 (wa ++ wb) := fun H locs ls h1 h2 h3 h4 => by
  obtain ⟨a, hr⟩ := hr H locs ls h1 h2 h3 h4.1
  have hF := va_free h2 h3 C.2.2.2.2.2.2.2.2.2.2 _ (apR_hC wa wb)
  refine va_calli hr h3 (fun q _ h => hF q h) hF (fun r u t H1 locs1 ht hvm hw hB hz1 hk1 hS => ?_)
  have hB1 : va_P D vwCl (wf u) H1 := by rw [← ht]; exact hB
  have hDa : va_D (va_A wb H.size) (wf u) := va_D_addr (h2.sub _ (apR_nd wa wb) (apR_hC wa wb)).self (he u)
  obtain ⟨g1, g2⟩ := va_join (wr := wa) h1 h2 (apR wa wb) (List.range wa.length) (apR_hC wa wb) (apL_hC wa wb) (full_nd wa) (fun i hi h => apR_L wa wb i h hi) hk1 hF hB1 hDa
  exact kk r u hw H1 locs1 ls g1 g2 hS h4
theorem z_calllR {S : Type} {post : Int64 → S → Prop} {wf : S → va_W} {wa wb : va_W} {st0 rest : List Value} (C : Cx p s m args meth c own cc n rt D cI tt A) (he : ∀ u, (wf u).map (·.1) = wb.map (·.1)) (hr : Runs p l e R s m args below meth c D A n ce sl pc st0 rest (wa ++ wb) wb (apR wa wb) (fun sz => va_Ql post (fun u t => va_P D vwCl (wf u) t.heap) (va_A wb sz)))
    (kk : ∀ (r : Int64) (u : S), post r u → Z p l e R s m args below meth c D A n ce sl Q (pc + 3) lv (.long r :: rest) (wa ++ wf u)) : Z p l e R s m args below meth c D A n ce sl Q pc lv st0 (wa ++ wb) := fun H locs ls h1 h2 h3 h4 => by
  obtain ⟨a, hr⟩ := hr H locs ls h1 h2 h3 h4.1
  have hF := va_free h2 h3 C.2.2.2.2.2.2.2.2.2.2 _ (apR_hC wa wb)
  refine va_calll hr h3 (fun q _ h => hF q h) hF (fun r u t H1 locs1 ht hvm hw hB hz1 hk1 hS => ?_)
  have hB1 : va_P D vwCl (wf u) H1 := by rw [← ht]; exact hB
  have hDa : va_D (va_A wb H.size) (wf u) := va_D_addr (h2.sub _ (apR_nd wa wb) (apR_hC wa wb)).self (he u)
  obtain ⟨g1, g2⟩ := va_join (wr := wa) h1 h2 (apR wa wb) (List.range wa.length) (apR_hC wa wb) (apL_hC wa wb) (full_nd wa) (fun i hi h => apR_L wa wb i h hi) hk1 hF hB1 hDa
  exact kk r u hw H1 locs1 ls g1 g2 hS h4
theorem in_nI {q L : Nat} (hq : q < L) (hL : L ≤ 2560) : vp_in (nI q) L := fun h => by
  rcases h with h | h
  · rw [Int32.lt_iff_toInt_lt, nI_toInt (by omega)] at h
    have h0 : (0 : Int32).toInt = 0 := rfl
    omega
  · rw [nI_clamp (by omega)] at h
    omega
theorem z_sld (C : Cx p s m args meth c own cc n rt D cI tt A) {b L : Nat} {xs : Nat → Int32} (hX : va_X b L xs s s.heap) (hbl : b < s.heap.size) (hbA : ¬ A b) (hL : L ≤ 2560) {q : Nat} (hq : q < L) (hd : decode cc pc = .ok (.iaload, 1)) (k : Z p l e R s m args below meth c D A n ce sl Q (pc + 1) lv (.int (xs q) :: st) ws) : Z p l e R s m args below meth c D A n ce sl Q pc lv (.int (nI q) :: .ref b :: st) ws := fun H locs ls h1 h2 h3 h4 =>
  va_sld C.1 C.2.1 hX hbl hbA h3 (in_nI hq hL) hd (by rw [nI_clamp (by omega)]; exact k H locs ls h1 h2 h3 h4)
theorem z_slen (C : Cx p s m args meth c own cc n rt D cI tt A) {b L : Nat} {xs : Nat → Int32} (hX : va_X b L xs s s.heap) (hbl : b < s.heap.size) (hbA : ¬ A b) (hd : decode cc pc = .ok (.arraylength, 1)) (k : Z p l e R s m args below meth c D A n ce sl Q (pc + 1) lv (.int (nI L) :: st) ws) : Z p l e R s m args below meth c D A n ce sl Q pc lv (.ref b :: st) ws := fun H locs ls h1 h2 h3 h4 =>
  va_slen C.1 C.2.1 hX hbl hbA h3 hd (k H locs ls h1 h2 h3 h4)
/-- script[i + j] -/
theorem z_arg (C : Cx p s m args meth c own cc n rt D cI tt A) {b L : Nat} {xs : Nat → Int32} (hX : va_X b L xs s s.heap) (hbl : b < s.heap.size) (hbA : ¬ A b) (hL : L ≤ 2560) {q : Nat} (hq : q + 5 ≤ L) (h0 : lk lv 0 = some (.ref b)) (h3' : lk lv 3 = some (.int (nI q))) (j : Nat) (hj : j < 5) {k0 : Int} (hk : Int32.ofInt k0 = nI j) (d0 : decode cc pc = .ok (.aload_n 0, 1)) (d1 : decode cc (pc + 1) = .ok (.iload_n 3, 1)) (d2 : decode cc (pc + 1 + 1) = .ok (.iconst k0, 1)) (d3 : decode cc (pc + 1 + 1 + 1) = .ok (.iadd, 1)) (d4 : decode cc (pc + 1 + 1 + 1 + 1) = .ok (.iaload, 1)) (k : Z p l e R s m args below meth c D A n ce sl Q (pc + 1 + 1 + 1 + 1 + 1) lv (.int (xs (q + j)) :: st) ws) : Z p l e R s m args below meth c D A n ce sl Q pc lv st ws := by
  refine z_aload_n C d0 h0 ?_
  refine z_iload_n C d1 h3' ?_
  refine z_iconst C d2 hk ?_
  refine z_iadd C d3 ?_
  refine z_seti (nI_add q j) ?_
  exact z_sld C hX hbl hbA hL (by omega) d4 k
/-- w != 0 -/
theorem z_ne0 (C : Cx p s m args meth c own cc n rt D cI tt A) {w : Int32} {o1 o2 : Int} {t0 t1 : Nat} (d0 : decode cc pc = .ok (.ifCond .eq o1, 3)) (e0 : (pc : Int) + o1 = (t0 : Int)) (d1 : decode cc (pc + 3) = .ok (.iconst 1, 1)) (d2 : decode cc (pc + 3 + 1) = .ok (.goto o2, 3)) (e1 : ((pc + 3 + 1 : Nat) : Int) + o2 = (t1 : Int)) (d3 : decode cc t0 = .ok (.iconst 0, 1)) (e2 : t0 + 1 = t1) (k : Z p l e R s m args below meth c D A n ce sl Q t1 lv (.int (if w = 0 then 0 else 1) :: st) ws) : Z p l e R s m args below meth c D A n ce sl Q pc lv (.int w :: st) ws := by
  subst e2
  refine z_if_eq C d0 e0 (fun h => ?_) (fun h => ?_)
  · rw [if_pos h] at k
    exact z_iconst C (v := 0) d3 (by decide) k
  · rw [if_neg h] at k
    exact z_iconst C (v := 1) d1 (by decide) (z_goto C d2 e1 k)
end ZL
theorem lgc_self (x : Int64) : lg_cmp x x = 0 := by
  unfold lg_cmp
  rw [if_neg (by simp only [gt_iff_lt, Int64.lt_iff_toInt_lt]; omega), if_pos rfl]
theorem g1_letter (z : SG) (x : Int32) : (letterF z x).2.1 1 ≤ z.1 1 + 1 := by
  unfold letterF
  repeat' split
  all_goals first | exact Nat.le_succ (z.1 1) | exact Nat.le_refl (z.1 1 + 1)
theorem g1_blank (z : SG) : (blankF z).2.1 1 ≤ z.1 1 + 1 := by
  unfold blankF
  repeat' split
  all_goals first | exact Nat.le_succ (z.1 1) | exact Nat.le_refl (z.1 1 + 1)
theorem g1_camp (z : SG) : (campF z).2.1 1 ≤ z.1 1 + 1 := by
  unfold campF
  repeat' split
  all_goals first | exact Nat.le_succ (z.1 1) | exact Nat.le_refl (z.1 1 + 1)
theorem g1_lay (z : SG) (x : Int32) (f : Int32) : (layF z x f).2.1 1 ≤ z.1 1 + 1 := by
  unfold layF
  repeat' split
  all_goals first | exact Nat.le_succ (z.1 1) | exact Nat.le_refl (z.1 1 + 1)
theorem g1_march (z : SG) (x : Int32) (y : Int32) (f : Int32) : (marchF z x y f).2.1 1 ≤ z.1 1 + 1 := by
  unfold marchF
  repeat' split
  all_goals first | exact Nat.le_succ (z.1 1) | exact Nat.le_refl (z.1 1 + 1)
theorem g1_team (z : SG) (y : Int32) : (teamF z y).2.1 1 ≤ z.1 1 + 1 := by
  unfold teamF
  repeat' split
  all_goals first | exact Nat.le_succ (z.1 1) | exact Nat.le_refl (z.1 1 + 1)
theorem g1_hear (z : SG) (x : Int32) (y : Int32) (f : Int32) (h : Int32) : (hearF z x y f h).2.1 1 ≤ z.1 1 + 1 := by
  unfold hearF
  repeat' split
  all_goals first | exact Nat.le_succ (z.1 1) | exact Nat.le_refl (z.1 1 + 1)
theorem g1_forget (z : SG) : (forgetF z).2.1 1 ≤ z.1 1 + 1 := by
  unfold forgetF
  repeat' split
  all_goals first | exact Nat.le_succ (z.1 1) | exact Nat.le_refl (z.1 1 + 1)
theorem g1_image (z : SG) : (imageF z).2.1 1 ≤ z.1 1 + 1 := by
  unfold imageF
  repeat' split
  all_goals first | exact Nat.le_succ (z.1 1) | exact Nat.le_refl (z.1 1 + 1)
theorem g1_restore (z : SG) : (restoreF z).2.1 1 ≤ z.1 1 + 1 := by
  unfold restoreF
  repeat' split
  all_goals first | exact Nat.le_succ (z.1 1) | exact Nat.le_refl (z.1 1 + 1)
