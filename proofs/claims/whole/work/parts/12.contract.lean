/-! ===== a method's contract over its world, its entry, its ends, its calls ===== -/
abbrev jj_B (l : Launch) (D : va_G) (tys : List (ClassId × FieldType)) (ws : va_W) (sz : Nat) (As : List Value) : Array Value → State → Prop := va_Pc As (fun U => U.heap.size = sz ∧ va_P D vwCl ws U.heap ∧ va_K D vwCl tys U ∧ va_D (fun _ => True) ws)
/-- answers an int (or a boolean) -/
def jj_M (l : Launch) (D : va_G) (tys : List (ClassId × FieldType)) (y : MethodName) (wsC : List Cond) (rm : Room) (As : List Value) (ws : va_W) (S : Type) (post : Int32 → S → Prop) (wsS : S → va_W) : Prop :=
  ∀ sz : Nat, Met l y wsC rm (jj_B l D tys ws sz As) (va_Qi post (fun u t => va_P D vwCl (wsS u) t.heap ∧ va_D (va_A ws sz) (wsS u)) (va_A ws sz)) rm.cells rm.slots (va_A ws sz)
def jj_Mv (l : Launch) (D : va_G) (tys : List (ClassId × FieldType)) (y : MethodName) (wsC : List Cond) (rm : Room) (As : List Value) (ws : va_W) (S : Type) (post : S → Prop) (wsS : S → va_W) : Prop :=
  ∀ sz : Nat, Met l y wsC rm (jj_B l D tys ws sz As) (va_Qv post (fun u t => va_P D vwCl (wsS u) t.heap ∧ va_D (va_A ws sz) (wsS u)) (va_A ws sz)) rm.cells rm.slots (va_A ws sz)
def jj_Ml (l : Launch) (D : va_G) (tys : List (ClassId × FieldType)) (y : MethodName) (wsC : List Cond) (rm : Room) (As : List Value) (ws : va_W) (S : Type) (post : Int64 → S → Prop) (wsS : S → va_W) : Prop :=
  ∀ sz : Nat, Met l y wsC rm (jj_B l D tys ws sz As) (va_Ql post (fun u t => va_P D vwCl (wsS u) t.heap ∧ va_D (va_A ws sz) (wsS u)) (va_A ws sz)) rm.cells rm.slots (va_A ws sz)
def jj_Md (l : Launch) (D : va_G) (tys : List (ClassId × FieldType)) (y : MethodName) (wsC : List Cond) (rm : Room) (As : List Value) (ws : va_W) (S : Type) (post : UInt64 → S → Prop) (wsS : S → va_W) : Prop :=
  ∀ sz : Nat, Met l y wsC rm (jj_B l D tys ws sz As) (va_Qd post (fun u t => va_P D vwCl (wsS u) t.heap ∧ va_D (va_A ws sz) (wsS u)) (va_A ws sz)) rm.cells rm.slots (va_A ws sz)
theorem jj_blind {l : Launch} {D : va_G} {tys : List (ClassId × FieldType)} {ws : va_W} {sz : Nat} {As : List Value} : FrameBlind (jj_B l D tys ws sz As) := fun a U g mk q => by
  obtain ⟨q0, q1, qP, qK, qD⟩ := q
  exact ⟨q0, q1, qP, va_K.moved (u := U) (U := U.calling g mk a) (Vm.Alike.refl U.vm) qK, qD⟩
/-- the entry: from Met.ofW's body to the judgement -/
theorem jj_enter {p : Program} {l : Launch} {e : Env} {s : State} {m : MethodId} {args : Array Value} {below : List Frame} {meth : Method} {c : Code} {s₁ : State} {y : MethodName} {wsC : List Cond} {rm : Room} {cc : ByteArray} {maxL : Nat} {ret : Option FieldType} {Q : State → Prop} {D : va_G} {tys : List (ClassId × FieldType)} {As : List Value} {ws : va_W} {sz : Nat}
    (hlen : (lg_sl As).length ≤ maxL) (B : BodyLoose p l y (headSpec wsC rm) cc maxL ret e s m args below meth c s₁) (hml : c.maxLocals = maxL) (hv : jj_B l D tys ws sz As args s)
    (body : ∀ (E : jj_E), E.2.1.1 = s → E = ((p, l, e, rm), (s, m, args, below, meth, c), (D, va_A ws sz)) → jj_C cc maxL ret wsC y.cls rm tys E → E.2.1.2.2.2.2.1.name = y.name → va_D (va_A ws sz) ws → jj_J E 0 0 Q ws 0 (lv_args 0 As) []) : W p l e (headSpec wsC rm).room s m args below meth c s.heap [] 0 0 Q (entryFrame m args maxL) := by
  obtain ⟨rfl, rfl, hP, hK, hD0⟩ := hv
  have hl := lv_entry As (n := maxL) hlen
  rw [lg_entry_eq]
  generalize (lg_sl As ++ List.replicate (maxL - (lg_sl As).length) Slot.unset).toArray = ls at hl ⊢
  exact body ((p, l, e, rm), (s, m, As.toArray, below, meth, c), (D, va_A ws s.heap.size)) rfl rfl ⟨B.exec, B.bytes, hml, findClass_of_methodNamed B.named, atoms_spec (ws := wsC) B.pre, hK, fun q h => Or.inr h, B.returns, B.notSynchronized, rfl⟩ (name_of_methodNamed B.named B.method).1 hD0.self s.heap [] ls hP hD0.self va_S.rf (by rw [show (((p, l, e, rm), (s, m, As.toArray, below, meth, c), (D, va_A ws s.heap.size)) : jj_E).2.1.2.2.2.2.2.maxLocals = maxL from hml]; exact hl)
section ENDS
variable {cc : ByteArray} {nL : Nat} {Ts : List Cond} {own : String} {rm : Room} {tys : List (ClassId × FieldType)} {E : jj_E} {ws : va_W} {l : Launch} {D : va_G} {y : MethodName} {wsC ws' : List Cond} {As : List Value} {S : Type} {wsS : S → va_W}
theorem jj_met {post : Int32 → S → Prop} {ty : FieldType} (hy : plainName y.cls = true) (hw : wsC = .code y cc nL (some ty) :: ws') (hlen : (lg_sl As).length ≤ nL)
    (body : ∀ (E : jj_E) (Q : State → Prop), jj_C cc nL (some ty) wsC y.cls rm tys E → E.1.2.1 = l → E.2.2.1 = D → va_D E.2.2.2 ws → (∀ (pc : Nat) (lv : List (Nat × Value)) (x : Int32) (u : S), decode cc pc = .ok (.ireturn, 1) → narrow ty (.int x) = .int x → post x u → jj_J E rm.cells rm.slots Q (wsS u) pc lv [.int x]) → jj_J E 0 0 Q ws 0 (lv_args 0 As) []) : jj_M l D tys y wsC rm As ws S post wsS := by
  intro sz
  refine Met.ofW (cc := cc) (maxL := nL) (ret := some ty) hy hw ?_
  intro p e s m args below meth c s₁ B hml hv
  have hsz := hv.2.1
  refine jj_enter hlen B hml hv (fun E hs hE hC hnm hD0 => body E _ hC (by rw [hE]) (by rw [hE]) (by rw [hE]; exact hD0) ?_)
  intro pc lv x u hd hn hp H locs ls hP hD hS hl
  subst hE
  exact W.zret hC.1 hC.2.1 hC.2.2.2.2.2.2.2.1 hn (fun t ht hW => ⟨⟨x, u, rfl, hp, by rw [ht]; exact hP, hD⟩, hS.F ht⟩) hS.2.2 hd hC.2.2.2.2.2.2.2.2.1
theorem jj_metv {post : S → Prop} (hy : plainName y.cls = true) (hw : wsC = .code y cc nL none :: ws') (hlen : (lg_sl As).length ≤ nL)
    (body : ∀ (E : jj_E) (Q : State → Prop), jj_C cc nL none wsC y.cls rm tys E → E.1.2.1 = l → E.2.2.1 = D → va_D E.2.2.2 ws → E.2.1.2.2.2.2.1.name = y.name → (∀ (pc : Nat) (lv : List (Nat × Value)) (u : S), decode cc pc = .ok (.return_, 1) → post u → jj_J E rm.cells rm.slots Q (wsS u) pc lv []) → jj_J E 0 0 Q ws 0 (lv_args 0 As) []) : jj_Mv l D tys y wsC rm As ws S post wsS := by
  intro sz
  refine Met.ofW (cc := cc) (maxL := nL) (ret := none) hy hw ?_
  intro p e s m args below meth c s₁ B hml hv
  refine jj_enter hlen B hml hv (fun E hs hE hC hnm hD0 => body E _ hC (by rw [hE]) (by rw [hE]) (by rw [hE]; exact hD0) hnm ?_)
  intro pc lv u hd hp H locs ls hP hD hS hl
  subst hE
  exact W.vret hC.1 hC.2.1 hC.2.2.2.2.2.2.2.1 (fun t ht hW => ⟨⟨u, rfl, hp, by rw [ht]; exact hP, hD⟩, hS.F ht⟩) hS.2.2 hd hC.2.2.2.2.2.2.2.2.1
theorem jj_metl {post : Int64 → S → Prop} (hy : plainName y.cls = true) (hw : wsC = .code y cc nL (some .long) :: ws') (hlen : (lg_sl As).length ≤ nL)
    (body : ∀ (E : jj_E) (Q : State → Prop), jj_C cc nL (some .long) wsC y.cls rm tys E → E.1.2.1 = l → E.2.2.1 = D → va_D E.2.2.2 ws → (∀ (pc : Nat) (lv : List (Nat × Value)) (x : Int64) (u : S), decode cc pc = .ok (.lreturn, 1) → post x u → jj_J E rm.cells rm.slots Q (wsS u) pc lv [.long x]) → jj_J E 0 0 Q ws 0 (lv_args 0 As) []) : jj_Ml l D tys y wsC rm As ws S post wsS := by
  intro sz
  refine Met.ofW (cc := cc) (maxL := nL) (ret := some .long) hy hw ?_
  intro p e s m args below meth c s₁ B hml hv
  refine jj_enter hlen B hml hv (fun E hs hE hC hnm hD0 => body E _ hC (by rw [hE]) (by rw [hE]) (by rw [hE]; exact hD0) ?_)
  intro pc lv x u hd hp H locs ls hP hD hS hl
  subst hE
  exact W.lret hC.1 hC.2.1 hC.2.2.2.2.2.2.2.1 (fun t ht hW => ⟨⟨x, u, rfl, hp, by rw [ht]; exact hP, hD⟩, hS.F ht⟩) hS.2.2 hd hC.2.2.2.2.2.2.2.2.1
theorem jj_metd {post : UInt64 → S → Prop} (hy : plainName y.cls = true) (hw : wsC = .code y cc nL (some .double) :: ws') (hlen : (lg_sl As).length ≤ nL)
    (body : ∀ (E : jj_E) (Q : State → Prop), jj_C cc nL (some .double) wsC y.cls rm tys E → E.1.2.1 = l → E.2.2.1 = D → va_D E.2.2.2 ws → (∀ (pc : Nat) (lv : List (Nat × Value)) (x : UInt64) (u : S), decode cc pc = .ok (.dreturn, 1) → post x u → jj_J E rm.cells rm.slots Q (wsS u) pc lv [.double x]) → jj_J E 0 0 Q ws 0 (lv_args 0 As) []) : jj_Md l D tys y wsC rm As ws S post wsS := by
  intro sz
  refine Met.ofW (cc := cc) (maxL := nL) (ret := some .double) hy hw ?_
  intro p e s m args below meth c s₁ B hml hv
  refine jj_enter hlen B hml hv (fun E hs hE hC hnm hD0 => body E _ hC (by rw [hE]) (by rw [hE]) (by rw [hE]; exact hD0) ?_)
  intro pc lv x u hd hp H locs ls hP hD hS hl
  subst hE
  exact W.dret hC.1 hC.2.1 hC.2.2.2.2.2.2.2.1 (fun t ht hW => ⟨⟨x, u, rfl, hp, by rw [ht]; exact hP, hD⟩, hS.F ht⟩) hS.2.2 hd hC.2.2.2.2.2.2.2.2.1
end ENDS
/-! two worlds side by side -/
theorem jj_Pl {D : va_G} {cl : List vw_C} {w1 w2 : va_W} {H : Heap} (h : va_P D cl (w1 ++ w2) H) : va_P D cl w1 H := fun k q hk => h k q (by rw [List.getElem?_append_left (List.getElem?_eq_some_iff.mp hk).1]; exact hk)
theorem jj_Pr {D : va_G} {cl : List vw_C} {w1 w2 : va_W} {H : Heap} (h : va_P D cl (w1 ++ w2) H) : va_P D cl w2 H := fun k q hk => h (w1.length + k) q (by rw [List.getElem?_append_right (by omega), Nat.add_sub_cancel_left]; exact hk)
theorem jj_Dl {A : Nat → Prop} {w1 w2 : va_W} (h : va_D A (w1 ++ w2)) : va_D A w1 := ⟨fun i j p q hi hj e => h.1 i j p q (by rw [List.getElem?_append_left (List.getElem?_eq_some_iff.mp hi).1]; exact hi) (by rw [List.getElem?_append_left (List.getElem?_eq_some_iff.mp hj).1]; exact hj) e, fun k q hk => h.2 k q (by rw [List.getElem?_append_left (List.getElem?_eq_some_iff.mp hk).1]; exact hk)⟩
theorem jj_Dr {A : Nat → Prop} {w1 w2 : va_W} (h : va_D A (w1 ++ w2)) : va_D A w2 := ⟨fun i j p q hi hj e => by
  have := h.1 (w1.length + i) (w1.length + j) p q (by rw [List.getElem?_append_right (by omega), Nat.add_sub_cancel_left]; exact hi) (by rw [List.getElem?_append_right (by omega), Nat.add_sub_cancel_left]; exact hj) e
  omega, fun k q hk => h.2 (w1.length + k) q (by rw [List.getElem?_append_right (by omega), Nat.add_sub_cancel_left]; exact hk)⟩
theorem jj_Dx {A : Nat → Prop} {w1 w2 : va_W} (h : va_D A (w1 ++ w2)) (i j : Nat) (p q : Nat × va_E) (hi : w1[i]? = some p) (hj : w2[j]? = some q) : p.1 ≠ q.1 := by
  intro e
  have hl := (List.getElem?_eq_some_iff.mp hi).1
  have := h.1 i (w1.length + j) p q (by rw [List.getElem?_append_left hl]; exact hi) (by rw [List.getElem?_append_right (by omega), Nat.add_sub_cancel_left]; exact hj) e
  omega
/-- behind a call that had the left, the right part -/
theorem jj_joinL {A0 : Nat → Prop} {D : va_G} {cl : List vw_C} {wc wr w1 : va_W} {H H1 : Heap} (hP : va_P D cl (wc ++ wr) H) (hD : va_D A0 (wc ++ wr)) (hk : ∀ q : Nat, q < H.size → ¬ va_A wc H.size q → H1[q]? = H[q]?) (hF : ∀ q, va_A wc H.size q → A0 q) (hP1 : va_P D cl w1 H1) (hD1 : va_D (va_A wc H.size) w1) : va_P D cl (w1 ++ wr) H1 ∧ va_D A0 (w1 ++ wr) := by
  have hne : ∀ (k : Nat) (q : Nat × va_E), wr[k]? = some q → ¬ va_A wc H.size q.1 := by
    intro k q hq h
    rcases h with ⟨k2, e, h⟩ | h
    · exact jj_Dx hD k2 k (q.1, e) q h hq rfl
    · have := (jj_Pr hP k q hq).lt
      omega
  refine ⟨hP1.app (fun k q hq => ((jj_Pr hP) k q hq).kept (hk q.1 ((jj_Pr hP k q hq).lt) (hne k q hq))), va_D.app (hD1.weaken (fun k q _ h => hF q.1 h)) (jj_Dr hD) (fun i j x y hx hy hxy => hne j y hy (by rw [← hxy]; exact hD1.2 i x hx))⟩
theorem jj_joinR {A0 : Nat → Prop} {D : va_G} {cl : List vw_C} {wc wr w1 : va_W} {H H1 : Heap} (hP : va_P D cl (wr ++ wc) H) (hD : va_D A0 (wr ++ wc)) (hk : ∀ q : Nat, q < H.size → ¬ va_A wc H.size q → H1[q]? = H[q]?) (hF : ∀ q, va_A wc H.size q → A0 q) (hP1 : va_P D cl w1 H1) (hD1 : va_D (va_A wc H.size) w1) : va_P D cl (wr ++ w1) H1 ∧ va_D A0 (wr ++ w1) := by
  have hne : ∀ (k : Nat) (q : Nat × va_E), wr[k]? = some q → ¬ va_A wc H.size q.1 := by
    intro k q hq h
    rcases h with ⟨k2, e, h⟩ | h
    · exact jj_Dx hD k k2 q (q.1, e) hq h rfl
    · have := (jj_Pl hP k q hq).lt
      omega
  refine ⟨va_P.app (fun k q hq => ((jj_Pl hP) k q hq).kept (hk q.1 ((jj_Pl hP k q hq).lt) (hne k q hq))) hP1, va_D.app (jj_Dl hD) (hD1.weaken (fun k q _ h => hF q.1 h)) (fun i j x y hx hy hxy => hne i x hx (by rw [hxy]; exact hD1.2 j y hy))⟩
theorem jj_own {A0 : Nat → Prop} {wc : va_W} {H0 H : Heap} {locs : List Loc} (hD : va_D A0 wc) (hS : va_S A0 H0 H locs) (hA : ∀ q, H0.size ≤ q → A0 q) : ∀ q, va_A wc H.size q → A0 q := by
  intro q h
  rcases h with ⟨k, e, h⟩ | h
  · exact hD.2 k (q, e) h
  · exact hA q (Nat.le_trans hS.1 h)
