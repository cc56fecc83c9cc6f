/-! ===== methods that return or throw ===== -/
abbrev jj_IO : String := "java/lang/IndexOutOfBoundsException"
abbrev jj_IA : String := "java/lang/IllegalArgumentException"
abbrev jj_IS : String := "java/lang/IllegalStateException"
abbrev jj_nm : List String := ["java/lang/RuntimeException", "java/lang/Exception"]
def jj_XW (U : State) : Prop := va_Nw (.castable "java/lang/IndexOutOfBoundsException" "java/lang/IndexOutOfBoundsException") U ∧ va_Nw (.castable "java/lang/IllegalArgumentException" "java/lang/IllegalArgumentException") U ∧ va_Nw (.castable "java/lang/IllegalStateException" "java/lang/IllegalStateException") U ∧ va_Nw (.declares ⟨"java/lang/RuntimeException", "<init>", "(Ljava/lang/String;)V"⟩) U ∧ va_Nw (.declares ⟨"java/lang/Exception", "<init>", "(Ljava/lang/String;)V"⟩) U ∧ va_Nw (.declares ⟨"java/lang/Throwable", "<init>", "(Ljava/lang/String;)V"⟩) U
def jj_strs : List (Nat × String) := [(51, "there are 7 collectors"), (72, "no thimble is like this"), (78, "there are 36 thimbles"), (83, "a liking is 0 to 5"), (134, "a collector does not swap alone"), (142, "swaps are 1 to 10"), (148, "weeks are 1 to 30"), (173, "weeks are 1 to 60"), (209, "no such collector"), (212, "no such thimble"), (214, "a set is 0 to 7"), (216, "this is not told"), (218, "both belong to the same collector"), (224, "the thimble is lent")]
def jj_XV (U : State) : Prop := jj_XW U ∧ ∀ q ∈ jj_strs, ∃ a : Nat, vk_R RX0 q.1 q.2 a U
theorem jj_XV.warm {s U : State} (hW : s.WarmedH U.vm) (h : jj_XV s) : jj_XV U := ⟨⟨va_Nw.warmC hW h.1.1, va_Nw.warmC hW h.1.2.1, va_Nw.warmC hW h.1.2.2.1, va_Nw.warmD hW h.1.2.2.2.1, va_Nw.warmD hW h.1.2.2.2.2.1, va_Nw.warmD hW h.1.2.2.2.2.2⟩, fun q hq => by
  obtain ⟨a, ha⟩ := h.2 q hq
  exact ⟨a, vk_R.warm hW ha⟩⟩
theorem jj_XV.same {s U : State} (hv : U.vm = s.vm) (h : jj_XV s) : jj_XV U := ⟨⟨va_Nw.same rfl hv.symm h.1.1, va_Nw.same rfl hv.symm h.1.2.1, va_Nw.same rfl hv.symm h.1.2.2.1, va_Nw.same rfl hv.symm h.1.2.2.2.1, va_Nw.same rfl hv.symm h.1.2.2.2.2.1, va_Nw.same rfl hv.symm h.1.2.2.2.2.2⟩, fun q hq => by
  obtain ⟨a, ha⟩ := h.2 q hq
  exact ⟨a, vk_R.same hv ha⟩⟩
def jj_XH (A : Nat → Prop) (U : State) (H : Heap) : Prop := vx_Zq Bundle.tN "UNASSIGNED_STACK" Bundle.steD A U H ∧ vx_Zq Bundle.tN "SUPPRESSED_SENTINEL" Bundle.listD A U H
theorem jj_XH.moved {A : Nat → Prop} {u U : State} {H : Heap} (hvm : u.vm.Alike U.vm) (h : jj_XH A u H) : jj_XH A U H := ⟨h.1.moved hvm, h.2.moved hvm⟩
theorem jj_XH.kept {A : Nat → Prop} {U : State} {H H1 : Heap} (h : jj_XH A U H) (hq : ∀ a : Nat, a < H.size → ¬ A a → H1[a]? = H[a]?) : jj_XH A U H1 := ⟨h.1.kept hq, h.2.kept hq⟩
theorem jj_XH.narrow {A B : Nat → Prop} {U : State} {H : Heap} (h : jj_XH A U H) (hAB : ∀ q, B q → A q) : jj_XH B U H := ⟨h.1.narrow hAB, h.2.narrow hAB⟩
abbrev jj_BX (l : Launch) (D : va_G) (tys : List (ClassId × FieldType)) (ws : va_W) (sz : Nat) (As : List Value) : Array Value → State → Prop := va_Pc As (fun U => U.heap.size = sz ∧ va_P D vwCl ws U.heap ∧ va_K D vwCl tys U ∧ va_D (fun _ => True) ws ∧ jj_XH (va_A ws sz) U U.heap ∧ jj_XV U)
theorem jj_blindX {l : Launch} {D : va_G} {tys : List (ClassId × FieldType)} {ws : va_W} {sz : Nat} {As : List Value} : FrameBlind (jj_BX l D tys ws sz As) := fun a U g mk q => by
  obtain ⟨q0, q1, qP, qK, qD, qH, qV⟩ := q
  exact ⟨q0, q1, qP, va_K.moved (u := U) (U := U.calling g mk a) (Vm.Alike.refl U.vm) qK, qD, jj_XH.moved (u := U) (U := U.calling g mk a) (Vm.Alike.refl U.vm) qH, jj_XV.same (s := U) (U := U.calling g mk a) rfl qV⟩
/-- thrown: the exception's class by its name, the world as it was -/
abbrev jj_XC (D : va_G) (ws : va_W) (sz : Nat) (oc : Option String) : String → State → State → Prop := vx_X (S := Unit) (fun _ => True) (fun Ex _ t => oc = some Ex ∧ va_P D vwCl ws t.heap ∧ va_D (va_A ws sz) ws) (va_A ws sz)
def jj_Mx (l : Launch) (D : va_G) (tys : List (ClassId × FieldType)) (y : MethodName) (wsC : List Cond) (rm : Room) (As : List Value) (ws : va_W) (oc : Option String) (S : Type) (post : Int32 → S → Prop) (wsS : S → va_W) : Prop :=
  ∀ sz : Nat, vx_Met l y wsC rm (jj_BX l D tys ws sz As) (va_Qi (fun x u => oc = none ∧ post x u) (fun u t => va_P D vwCl (wsS u) t.heap ∧ va_D (va_A ws sz) (wsS u)) (va_A ws sz)) (jj_XC D ws sz oc) rm.cells rm.slots (va_A ws sz)
def jj_Mxv (l : Launch) (D : va_G) (tys : List (ClassId × FieldType)) (y : MethodName) (wsC : List Cond) (rm : Room) (As : List Value) (ws : va_W) (oc : Option String) : Prop :=
  ∀ sz : Nat, vx_Met l y wsC rm (jj_BX l D tys ws sz As) (va_Qv (fun (_ : Unit) => oc = none) (fun _ t => va_P D vwCl ws t.heap ∧ va_D (va_A ws sz) ws) (va_A ws sz)) (jj_XC D ws sz oc) rm.cells rm.slots (va_A ws sz)
/-- an exception under way in the frame -/
def jj_X (E : jj_E) (k n : Nat) (Q : State → Prop) (ws : va_W) (pc : Nat) (lv : List (Nat × Value)) (rest : List Value) (Ex : String) : Prop :=
  ∀ (H : Heap) (locs : List Loc) (ls : Array Slot) (q9 : Addr) (ce : Cell), va_P E.2.2.1 vwCl ws H → va_D E.2.2.2 ws → va_S E.2.2.2 E.2.1.1.heap H locs → lv_has ls E.2.1.2.2.2.2.2.maxLocals lv → H[q9]? = some ce → ce.vm = .none → E.2.1.1.vm.findClass Ex = some ce.cls →
    vx_W E.1.1 E.1.2.1 E.1.2.2.1 E.1.2.2.2 E.2.1.1 E.2.1.2.1 E.2.1.2.2.1 E.2.1.2.2.2.1 E.2.1.2.2.2.2.1 E.2.1.2.2.2.2.2 H locs k n Q (F0 E.2.1.2.1 pc ls rest) q9
theorem jj_enterX {p : Program} {l : Launch} {e : Env} {s : State} {m : MethodId} {args : Array Value} {below : List Frame} {meth : Method} {c : Code} {s₁ : State} {y : MethodName} {wsC : List Cond} {rm : Room} {cc : ByteArray} {maxL : Nat} {ret : Option FieldType} {Q : State → Prop} {D : va_G} {tys : List (ClassId × FieldType)} {As : List Value} {ws : va_W} {sz : Nat}
    (hlen : (lg_sl As).length ≤ maxL) (B : BodyLoose p l y (headSpec wsC rm) cc maxL ret e s m args below meth c s₁) (hml : c.maxLocals = maxL) (hv : jj_BX l D tys ws sz As args s)
    (body : ∀ (E : jj_E), E.2.1.1 = s → E = ((p, l, e, rm), (s, m, args, below, meth, c), (D, va_A ws sz)) → jj_C cc maxL ret wsC y.cls rm tys E → va_D (va_A ws sz) ws → jj_XH (va_A ws sz) s s.heap → jj_XV s → jj_J E 0 0 Q ws 0 (lv_args 0 As) []) : W p l e (headSpec wsC rm).room s m args below meth c s.heap [] 0 0 Q (entryFrame m args maxL) :=
  jj_enter hlen B hml ⟨hv.1, hv.2.1, hv.2.2.1, hv.2.2.2.1, hv.2.2.2.2.1⟩ (fun E hs hE hC _ hD0 => body E hs hE hC hD0 hv.2.2.2.2.2.1 hv.2.2.2.2.2.2)
section ENDX
variable {cc : ByteArray} {nL : Nat} {Ts : List Cond} {own : String} {rm : Room} {tys : List (ClassId × FieldType)} {E : jj_E} {ws : va_W} {l : Launch} {D : va_G} {y : MethodName} {wsC ws' : List Cond} {As : List Value} {S : Type} {wsS : S → va_W} {oc : Option String}
/-- new Ex(text), thrown out of the method -/
def jj_N (E : jj_E) (Q : State → Prop) (cc : ByteArray) (wsC : List Cond) (rm : Room) (ws : va_W) (oc : Option String) : Prop := ∀ (k n pc ik is ic : Nat) (cls text : String) (lv : List (Nat × Value)) (rest : List Value), oc = some cls → k + 1 ≤ rm.cells → n + 6 ≤ rm.slots → (is, text) ∈ jj_strs → (cls = jj_IO ∨ cls = jj_IA ∨ cls = jj_IS) →
  .classLink RX0 ik cls ∈ wsC → .initialized cls ∈ wsC → (∀ w ∈ (vx_atS RX0 ic cls jj_nm).filter goodWord, w ∈ wsC) → (∀ w ∈ (vx_atS RX0 ic cls jj_nm).filter (fun w => !goodWord w), w ∈ [Cond.castable cls cls, .declares ⟨"java/lang/RuntimeException", "<init>", "(Ljava/lang/String;)V"⟩, .declares ⟨"java/lang/Exception", "<init>", "(Ljava/lang/String;)V"⟩, .declares ⟨"java/lang/Throwable", "<init>", "(Ljava/lang/String;)V"⟩]) →
  (∀ w ∈ Cond.classLink RX0 ik cls :: Cond.initialized cls :: vx_atS RX0 ic cls jj_nm, vx_ot w = true) →
  decode cc pc = .ok (.new ik, 3) → decode cc (pc + 3) = .ok (.dup, 1) → decode cc (pc + 4) = .ok (.ldc is, 2) → decode cc (pc + 6) = .ok (.invokespecial ic, 3) → decode cc (pc + 9) = .ok (.athrow, 1) →
  5 < rm.frames → (rest.map fun v => v.category).sum + (13 * 3 + 43) ≤ rm.locals → jj_J E k n Q ws pc lv rest
theorem jj_news {post : Array Value → State → Outcome → State → Prop} {ret : Option FieldType} {Q : State → Prop} {sz : Nat} (hl : E.1.2.1.stackTraces = false) (hA : E.2.2.2 = va_A ws sz) (hsz : E.2.1.1.heap.size = sz) (hD1 : E.2.2.1 = D) (hC : jj_C cc nL ret wsC RX0 rm tys E) (htab : ∀ x ∈ E.2.1.2.2.2.2.2.exceptionTable.toList, False) (hH : jj_XH E.2.2.2 E.2.1.1 E.2.1.1.heap) (hV : jj_XV E.2.1.1)
    (hQ : Q = vx_MQ E.2.1.2.2.2.1 post (jj_XC D ws sz oc) E.2.1.2.2.1 E.2.1.1 rm.cells rm.slots (va_A ws sz)) : jj_N E Q cc wsC rm ws oc := by
  intro k n pc ik is ic cls text lv rest hoc hk hn hstr hcl hlk hini hgw hbw hgood d0 d3 d4 d6 d9 hfr hlo H locs ls hP hD hS hls
  obtain ⟨sa, hsa⟩ := hV.2 _ hstr
  have hR0 : E.1.2.2.2 = rm := hC.2.2.2.2.2.2.2.2.2
  subst hQ
  have hcast : va_Nw (.castable cls cls) E.2.1.1 := by
    rcases hcl with e | e | e
    · rw [e]; exact hV.1.1
    · rw [e]; exact hV.1.2.1
    · rw [e]; exact hV.1.2.2.1
  have hfit : Bundle.fit cls = true := by
    rcases hcl with e | e | e <;> rw [e] <;> decide
  have hat : ∀ w ∈ vx_atS RX0 ic cls jj_nm, w.before E.2.1.2.2.1 E.2.1.1 = true := vx_hat (L := vx_atS RX0 ic cls jj_nm) (B := [Cond.castable cls cls, .declares ⟨"java/lang/RuntimeException", "<init>", "(Ljava/lang/String;)V"⟩, .declares ⟨"java/lang/Exception", "<init>", "(Ljava/lang/String;)V"⟩, .declares ⟨"java/lang/Throwable", "<init>", "(Ljava/lang/String;)V"⟩]) (fun w hw => hC.2.2.2.2.1 w (hgw w hw)) hbw (vx_c (va_Nw.use rfl hcast) (vx_c (va_Nw.use rfl hV.1.2.2.2.1) (vx_c (va_Nw.use rfl hV.1.2.2.2.2.1) (vx_c (va_Nw.use rfl hV.1.2.2.2.2.2) vx_n))))
  refine vx_throwS (A := E.2.2.2) (names := jj_nm) (text := text) (sa := sa) hC.1 hC.2.1 hl hC.2.2.2.1 hfit (by decide) (hC.2.2.2.2.1 _ hlk) (hC.2.2.2.2.1 _ hini) hsa hat hgood hH.1 hH.2 hS hls.1 d0 d3 d4 d6 d9 (fun x hx => (htab x hx).elim) (by rw [hR0]; exact hfr) (by rw [hR0]; exact hlo) (by rw [hR0]; exact hk) (by rw [hR0]; exact hn) hC.2.2.2.2.2.2.2.2.1 (fun t hal hz hkp => ⟨(), trivial, ⟨hoc, ?_, ?_⟩, ?_⟩) (fun z hz => by rw [← hA]; exact hS.2.2 z hz) hk hn
  · rw [← hD1]; exact hP.kept (fun k q hq => hkp q.1 ((hP k q hq).lt))
  · rw [← hA]; exact hD
  · rw [← hA]
    exact ⟨Nat.le_trans hS.1 hz, fun q h1 h2 => (hkp q (Nat.lt_of_lt_of_le h1 hS.1)).trans (hS.2.1 q h1 h2)⟩

theorem jj_metx {post : Int32 → S → Prop} {ty : FieldType} (hl : l.stackTraces = false) (hyx : y.cls = RX0) (hy : plainName y.cls = true) (hw : wsC = .code y cc nL (some ty) :: ws') (hlen : (lg_sl As).length ≤ nL)
    (body : ∀ (E : jj_E) (Q : State → Prop), jj_C cc nL (some ty) wsC y.cls rm tys E → E.1.2.1 = l → E.2.2.1 = D → va_D E.2.2.2 ws → jj_XH E.2.2.2 E.2.1.1 E.2.1.1.heap → jj_XV E.2.1.1 → (∀ (pc : Nat) (lv : List (Nat × Value)) (x : Int32) (u : S), oc = none → decode cc pc = .ok (.ireturn, 1) → narrow ty (.int x) = .int x → post x u → jj_J E rm.cells rm.slots Q (wsS u) pc lv [.int x]) →
      (∀ (pc : Nat) (lv : List (Nat × Value)) (rest : List Value) (Ex : String), oc = some Ex → jj_X E rm.cells rm.slots Q ws pc lv rest Ex) → jj_N E Q cc wsC rm ws oc → jj_J E 0 0 Q ws 0 (lv_args 0 As) []) : jj_Mx l D tys y wsC rm As ws oc S post wsS := by
  intro sz
  refine vx_ofW (cc := cc) (maxL := nL) (ret := some ty) hy hw ?_
  intro p e s m args below meth c s₁ B hml htab hv
  have hsz := hv.2.1
  refine jj_enterX hlen B hml hv (fun E hs hE hC hD0 hH hV => body E _ hC (by rw [hE]) (by rw [hE]) (by rw [hE]; exact hD0) (by rw [hE]; exact hH) (by rw [hE]; exact hV) ?_ ?_ ?_)
  · intro pc lv x u hoc hd hn hp H locs ls hP hD hS hls
    subst hE
    exact vx_ret (W.zret hC.1 hC.2.1 hC.2.2.2.2.2.2.2.1 hn (fun t ht hW => ⟨⟨x, u, rfl, ⟨hoc, hp⟩, by rw [ht]; exact hP, hD⟩, hS.F ht⟩) hS.2.2 hd hC.2.2.2.2.2.2.2.2.1)
  · intro pc lv rest Ex hoc H locs ls q9 ce hP hD hS hls h9 hce hcl
    subst hE
    exact vx_out (fun x hx => (htab x hx).elim) hC.2.2.2.2.2.2.2.2.1 h9 hce hcl (fun t ht hW => ⟨(), trivial, ⟨hoc, by rw [ht]; exact hP, hD⟩, hS.F ht⟩) hS.2.2 (Nat.le_refl _) (Nat.le_refl _)
  · subst hE
    rw [hyx] at hC
    exact jj_news (E := ((p, l, e, rm), (s, m, args, below, meth, c), (D, va_A ws sz))) hl rfl hsz rfl hC htab hH hV rfl
theorem jj_metxv  (hl : l.stackTraces = false) (hyx : y.cls = RX0) (hy : plainName y.cls = true) (hw : wsC = .code y cc nL (none) :: ws') (hlen : (lg_sl As).length ≤ nL)
    (body : ∀ (E : jj_E) (Q : State → Prop), jj_C cc nL (none) wsC y.cls rm tys E → E.1.2.1 = l → E.2.2.1 = D → va_D E.2.2.2 ws → jj_XH E.2.2.2 E.2.1.1 E.2.1.1.heap → jj_XV E.2.1.1 → (∀ (pc : Nat) (lv : List (Nat × Value)), oc = none → decode cc pc = .ok (.return_, 1) → jj_J E rm.cells rm.slots Q ws pc lv []) →
      (∀ (pc : Nat) (lv : List (Nat × Value)) (rest : List Value) (Ex : String), oc = some Ex → jj_X E rm.cells rm.slots Q ws pc lv rest Ex) → jj_N E Q cc wsC rm ws oc → jj_J E 0 0 Q ws 0 (lv_args 0 As) []) : jj_Mxv l D tys y wsC rm As ws oc := by
  intro sz
  refine vx_ofW (cc := cc) (maxL := nL) (ret := none) hy hw ?_
  intro p e s m args below meth c s₁ B hml htab hv
  have hsz := hv.2.1
  refine jj_enterX hlen B hml hv (fun E hs hE hC hD0 hH hV => body E _ hC (by rw [hE]) (by rw [hE]) (by rw [hE]; exact hD0) (by rw [hE]; exact hH) (by rw [hE]; exact hV) ?_ ?_ ?_)
  · intro pc lv hoc hd H locs ls hP hD hS hls
    subst hE
    exact vx_ret (W.vret hC.1 hC.2.1 hC.2.2.2.2.2.2.2.1 (fun t ht hW => ⟨⟨(), rfl, hoc, by rw [ht]; exact hP, hD⟩, hS.F ht⟩) hS.2.2 hd hC.2.2.2.2.2.2.2.2.1)
  · intro pc lv rest Ex hoc H locs ls q9 ce hP hD hS hls h9 hce hcl
    subst hE
    exact vx_out (fun x hx => (htab x hx).elim) hC.2.2.2.2.2.2.2.2.1 h9 hce hcl (fun t ht hW => ⟨(), trivial, ⟨hoc, by rw [ht]; exact hP, hD⟩, hS.F ht⟩) hS.2.2 (Nat.le_refl _) (Nat.le_refl _)
  · subst hE
    rw [hyx] at hC
    exact jj_news (E := ((p, l, e, rm), (s, m, args, below, meth, c), (D, va_A ws sz))) hl rfl hsz rfl hC htab hH hV rfl
end ENDX
section CALLX
variable {cc : ByteArray} {nL : Nat} {ret : Option FieldType} {Ts : List Cond} {own : String} {rm : Room} {tys : List (ClassId × FieldType)} {E : jj_E} {k n : Nat} {Q : State → Prop} {ws wr : va_W} {pc : Nat} {lv : List (Nat × Value)} {rest st0 : List Value} {C : String} {index : Nat} {y : MethodName} {bytes : ByteArray} {maxL : Nat} {rt : Option FieldType} {wsC wsC' : List Cond} {rc : Room} {As As0 : List Value} {b : Nat} {S : Type} {wsS : S → va_W} {oc : Option String}
theorem jj_callx {post : Int32 → S → Prop} (hC : jj_C cc nL ret Ts own rm tys E) (hH : jj_XH E.2.2.2 E.2.1.1 E.2.1.1.heap) (hV : jj_XV E.2.1.1) (hM : jj_Mx E.1.2.1 E.2.2.1 tys y wsC rc As ws oc S post wsS) (hg : GoodIn Ts (wsV own index C y wsC)) (hw : wsC = .code y bytes maxL rt :: wsC') (np : Nat) (hdy : y.cls = C ∧ y.cls ≠ "java/lang/invoke/MethodHandle" ∧ y.cls ≠ "java/lang/invoke/VarHandle" ∧ (parseMethodDescriptor y.desc).map (fun d => d.parameters.length) = some np) (hR : rc.frames + 1 ≤ rm.frames ∧ 8 + (maxL + 11) + rc.locals ≤ rm.locals ∧ k + rc.cells ≤ rm.cells ∧ n + rc.slots ≤ rm.slots) (q0 ci : Nat) {T : u_T} {N : Nat} {fs : List Value} (he : ws[q0]? = some (b, .inr (ci, fs))) (hc : vwCl[ci]? = some (C, T, N)) (hAs : As = .ref b :: As0) (hst : st0 = As0.reverse ++ .ref b :: rest) (hn : As0.length = np) (hcat : (rest.map fun v => v.category).sum ≤ 8) (hd : decode cc pc = .ok (.invokevirtual index, 3)) (hx : ∀ Ex : String, oc = some Ex → jj_X E (k + rc.cells) (n + rc.slots) Q ws pc lv rest Ex) (hk : ∀ (r : Int32) (u : S), oc = none → post r u → jj_J E (k + rc.cells) (n + rc.slots) Q (wsS u) (pc + 3) lv (.int r :: rest)) : jj_J E k n Q ws pc lv st0 := by
  intro H locs ls hP hD hS hl
  subst hAs
  have hR0 : E.1.2.2.2 = rm := hC.2.2.2.2.2.2.2.2.2
  have hPc : va_P E.2.2.1 vwCl ws H := hP
  have hDc : va_D E.2.2.2 ws := hD
  have hFc := jj_own hDc hS hC.2.2.2.2.2.2.1
  refine vx_calli (vx_runV (As := As0) (rest := rest) ⟨hC.1, hC.2.1, hC.2.2.1, hC.2.2.2.1, hC.2.2.2.2.1⟩ (hM H.size) (cwV np hC.2.2.2.2.1 hg hw rfl rfl hdy ⟨by rw [hR0]; exact hR.1, by rw [hR0]; exact hR.2.1⟩) ⟨jj_blindX, va_recv hC.2.2.2.2.2.1 hPc hc he, fun U hU hW => ⟨rfl, by rw [hU], by rw [hU]; exact hPc, va_K.moved hW.alike hC.2.2.2.2.2.1, hDc.weaken (fun _ _ _ _ => trivial), by rw [hU]; exact ((hH.kept hS.2.1).moved hW.alike).narrow hFc, hV.warm hW⟩⟩ rfl hn (hl.1.trans hC.2.2.1) hst (lv_room hcat) hd ⟨by rw [hR0]; exact hR.2.2.1, by rw [hR0]; exact hR.2.2.2⟩) hS (fun q _ h => hFc q h) hFc (fun q _ h => hFc q h) (fun Ex ce q9 u t H1 locs1 ht hvm hp hB hz1 hk1 hS1 h9 hce hcl => ?_) (fun r u t H1 locs1 ht hvm hp hB hz1 hk1 hS1 => ?_)
  · obtain ⟨hP2, hD2⟩ : va_P E.2.2.1 vwCl ws H1 ∧ va_D E.2.2.2 ws := ⟨by rw [ht] at hB; exact hB.2.1, hB.2.2.weaken (fun _ q _ h => hFc q.1 h)⟩
    exact hx Ex hB.1 H1 locs1 ls q9 ce hP2 hD2 hS1 hl h9 hce hcl
  · obtain ⟨hP2, hD2⟩ : va_P E.2.2.1 vwCl (wsS u) H1 ∧ va_D E.2.2.2 (wsS u) := ⟨by rw [ht] at hB; exact hB.1, hB.2.weaken (fun _ q _ h => hFc q.1 h)⟩
    exact hk r u hp.1 hp.2 H1 locs1 ls hP2 hD2 hS1 hl
theorem jj_callxL {post : Int32 → S → Prop} (hC : jj_C cc nL ret Ts own rm tys E) (hH : jj_XH E.2.2.2 E.2.1.1 E.2.1.1.heap) (hV : jj_XV E.2.1.1) (hM : jj_Mx E.1.2.1 E.2.2.1 tys y wsC rc As ws oc S post wsS) (hg : GoodIn Ts (wsV own index C y wsC)) (hw : wsC = .code y bytes maxL rt :: wsC') (np : Nat) (hdy : y.cls = C ∧ y.cls ≠ "java/lang/invoke/MethodHandle" ∧ y.cls ≠ "java/lang/invoke/VarHandle" ∧ (parseMethodDescriptor y.desc).map (fun d => d.parameters.length) = some np) (hR : rc.frames + 1 ≤ rm.frames ∧ 8 + (maxL + 11) + rc.locals ≤ rm.locals ∧ k + rc.cells ≤ rm.cells ∧ n + rc.slots ≤ rm.slots) (q0 ci : Nat) {T : u_T} {N : Nat} {fs : List Value} (he : ws[q0]? = some (b, .inr (ci, fs))) (hc : vwCl[ci]? = some (C, T, N)) (hAs : As = .ref b :: As0) (hst : st0 = As0.reverse ++ .ref b :: rest) (hn : As0.length = np) (hcat : (rest.map fun v => v.category).sum ≤ 8) (hd : decode cc pc = .ok (.invokevirtual index, 3)) (hx : ∀ Ex : String, oc = some Ex → jj_X E (k + rc.cells) (n + rc.slots) Q (ws ++ wr) pc lv rest Ex) (hk : ∀ (r : Int32) (u : S), oc = none → post r u → jj_J E (k + rc.cells) (n + rc.slots) Q (wsS u ++ wr) (pc + 3) lv (.int r :: rest)) : jj_J E k n Q (ws ++ wr) pc lv st0 := by
  intro H locs ls hP hD hS hl
  subst hAs
  have hR0 : E.1.2.2.2 = rm := hC.2.2.2.2.2.2.2.2.2
  have hPc : va_P E.2.2.1 vwCl ws H := jj_Pl hP
  have hDc : va_D E.2.2.2 ws := jj_Dl hD
  have hFc := jj_own hDc hS hC.2.2.2.2.2.2.1
  refine vx_calli (vx_runV (As := As0) (rest := rest) ⟨hC.1, hC.2.1, hC.2.2.1, hC.2.2.2.1, hC.2.2.2.2.1⟩ (hM H.size) (cwV np hC.2.2.2.2.1 hg hw rfl rfl hdy ⟨by rw [hR0]; exact hR.1, by rw [hR0]; exact hR.2.1⟩) ⟨jj_blindX, va_recv hC.2.2.2.2.2.1 hPc hc he, fun U hU hW => ⟨rfl, by rw [hU], by rw [hU]; exact hPc, va_K.moved hW.alike hC.2.2.2.2.2.1, hDc.weaken (fun _ _ _ _ => trivial), by rw [hU]; exact ((hH.kept hS.2.1).moved hW.alike).narrow hFc, hV.warm hW⟩⟩ rfl hn (hl.1.trans hC.2.2.1) hst (lv_room hcat) hd ⟨by rw [hR0]; exact hR.2.2.1, by rw [hR0]; exact hR.2.2.2⟩) hS (fun q _ h => hFc q h) hFc (fun q _ h => hFc q h) (fun Ex ce q9 u t H1 locs1 ht hvm hp hB hz1 hk1 hS1 h9 hce hcl => ?_) (fun r u t H1 locs1 ht hvm hp hB hz1 hk1 hS1 => ?_)
  · rw [ht] at hB
    obtain ⟨hP2, hD2⟩ := jj_joinL hP hD hk1 hFc hB.2.1 hB.2.2
    exact hx Ex hB.1 H1 locs1 ls q9 ce hP2 hD2 hS1 hl h9 hce hcl
  · rw [ht] at hB
    obtain ⟨hP2, hD2⟩ := jj_joinL hP hD hk1 hFc hB.1 hB.2
    exact hk r u hp.1 hp.2 H1 locs1 ls hP2 hD2 hS1 hl
theorem jj_scallxL {post : Int32 → S → Prop} (hC : jj_C cc nL ret Ts own rm tys E) (hH : jj_XH E.2.2.2 E.2.1.1 E.2.1.1.heap) (hV : jj_XV E.2.1.1) (hM : jj_Mx E.1.2.1 E.2.2.1 tys y wsC rc As ws oc S post wsS) (hg : GoodIn Ts (va_wsS own index y wsC)) (hw : wsC = .code y bytes maxL rt :: wsC') (np : Nat) (hdy : y.cls ≠ "java/lang/invoke/MethodHandle" ∧ y.cls ≠ "java/lang/invoke/VarHandle" ∧ (parseMethodDescriptor y.desc).map (fun d => d.parameters.length) = some np) (hR : rc.frames + 1 ≤ rm.frames ∧ 8 + (maxL + 11) + rc.locals ≤ rm.locals ∧ k + rc.cells ≤ rm.cells ∧ n + rc.slots ≤ rm.slots) (hAs : As = As0) (hst : st0 = As0.reverse ++ rest) (hn : As0.length = np) (hcat : (rest.map fun v => v.category).sum ≤ 8) (hd : decode cc pc = .ok (.invokestatic index, 3)) (hx : ∀ Ex : String, oc = some Ex → jj_X E (k + rc.cells) (n + rc.slots) Q (ws ++ wr) pc lv rest Ex) (hk : ∀ (r : Int32) (u : S), oc = none → post r u → jj_J E (k + rc.cells) (n + rc.slots) Q (wsS u ++ wr) (pc + 3) lv (.int r :: rest)) : jj_J E k n Q (ws ++ wr) pc lv st0 := by
  intro H locs ls hP hD hS hl
  subst hAs
  have hR0 : E.1.2.2.2 = rm := hC.2.2.2.2.2.2.2.2.2
  have hPc : va_P E.2.2.1 vwCl ws H := jj_Pl hP
  have hDc : va_D E.2.2.2 ws := jj_Dl hD
  have hFc := jj_own hDc hS hC.2.2.2.2.2.2.1
  refine vx_calli (vx_runS (As := As) (rest := rest) ⟨hC.1, hC.2.1, hC.2.2.1, hC.2.2.2.1, hC.2.2.2.2.1⟩ (hM H.size) (va_cwS np hC.2.2.2.2.1 hg hw rfl rfl hdy ⟨by rw [hR0]; exact hR.1, by rw [hR0]; exact hR.2.1⟩) ⟨jj_blindX, fun U hU hW => ⟨rfl, by rw [hU], by rw [hU]; exact hPc, va_K.moved hW.alike hC.2.2.2.2.2.1, hDc.weaken (fun _ _ _ _ => trivial), by rw [hU]; exact ((hH.kept hS.2.1).moved hW.alike).narrow hFc, hV.warm hW⟩⟩ rfl hn (hl.1.trans hC.2.2.1) hst (lv_room hcat) hd ⟨by rw [hR0]; exact hR.2.2.1, by rw [hR0]; exact hR.2.2.2⟩) hS (fun q _ h => hFc q h) hFc (fun q _ h => hFc q h) (fun Ex ce q9 u t H1 locs1 ht hvm hp hB hz1 hk1 hS1 h9 hce hcl => ?_) (fun r u t H1 locs1 ht hvm hp hB hz1 hk1 hS1 => ?_)
  · rw [ht] at hB
    obtain ⟨hP2, hD2⟩ := jj_joinL hP hD hk1 hFc hB.2.1 hB.2.2
    exact hx Ex hB.1 H1 locs1 ls q9 ce hP2 hD2 hS1 hl h9 hce hcl
  · rw [ht] at hB
    obtain ⟨hP2, hD2⟩ := jj_joinL hP hD hk1 hFc hB.1 hB.2
    exact hk r u hp.1 hp.2 H1 locs1 ls hP2 hD2 hS1 hl
theorem jj_callxv  (hC : jj_C cc nL ret Ts own rm tys E) (hH : jj_XH E.2.2.2 E.2.1.1 E.2.1.1.heap) (hV : jj_XV E.2.1.1) (hM : jj_Mxv E.1.2.1 E.2.2.1 tys y wsC rc As ws oc) (hg : GoodIn Ts (wsV own index C y wsC)) (hw : wsC = .code y bytes maxL rt :: wsC') (np : Nat) (hdy : y.cls = C ∧ y.cls ≠ "java/lang/invoke/MethodHandle" ∧ y.cls ≠ "java/lang/invoke/VarHandle" ∧ (parseMethodDescriptor y.desc).map (fun d => d.parameters.length) = some np) (hR : rc.frames + 1 ≤ rm.frames ∧ 8 + (maxL + 11) + rc.locals ≤ rm.locals ∧ k + rc.cells ≤ rm.cells ∧ n + rc.slots ≤ rm.slots) (q0 ci : Nat) {T : u_T} {N : Nat} {fs : List Value} (he : ws[q0]? = some (b, .inr (ci, fs))) (hc : vwCl[ci]? = some (C, T, N)) (hAs : As = .ref b :: As0) (hst : st0 = As0.reverse ++ .ref b :: rest) (hn : As0.length = np) (hcat : (rest.map fun v => v.category).sum ≤ 8) (hd : decode cc pc = .ok (.invokevirtual index, 3)) (hx : ∀ Ex : String, oc = some Ex → jj_X E (k + rc.cells) (n + rc.slots) Q ws pc lv rest Ex) (hk : oc = none → jj_J E (k + rc.cells) (n + rc.slots) Q ws (pc + 3) lv (rest)) : jj_J E k n Q ws pc lv st0 := by
  intro H locs ls hP hD hS hl
  subst hAs
  have hR0 : E.1.2.2.2 = rm := hC.2.2.2.2.2.2.2.2.2
  have hPc : va_P E.2.2.1 vwCl ws H := hP
  have hDc : va_D E.2.2.2 ws := hD
  have hFc := jj_own hDc hS hC.2.2.2.2.2.2.1
  refine vx_callv (vx_runV (As := As0) (rest := rest) ⟨hC.1, hC.2.1, hC.2.2.1, hC.2.2.2.1, hC.2.2.2.2.1⟩ (hM H.size) (cwV np hC.2.2.2.2.1 hg hw rfl rfl hdy ⟨by rw [hR0]; exact hR.1, by rw [hR0]; exact hR.2.1⟩) ⟨jj_blindX, va_recv hC.2.2.2.2.2.1 hPc hc he, fun U hU hW => ⟨rfl, by rw [hU], by rw [hU]; exact hPc, va_K.moved hW.alike hC.2.2.2.2.2.1, hDc.weaken (fun _ _ _ _ => trivial), by rw [hU]; exact ((hH.kept hS.2.1).moved hW.alike).narrow hFc, hV.warm hW⟩⟩ rfl hn (hl.1.trans hC.2.2.1) hst (lv_room hcat) hd ⟨by rw [hR0]; exact hR.2.2.1, by rw [hR0]; exact hR.2.2.2⟩) hS (fun q _ h => hFc q h) hFc (fun q _ h => hFc q h) (fun Ex ce q9 u t H1 locs1 ht hvm hp hB hz1 hk1 hS1 h9 hce hcl => ?_) (fun u t H1 locs1 ht hvm hp hB hz1 hk1 hS1 => ?_)
  · obtain ⟨hP2, hD2⟩ : va_P E.2.2.1 vwCl ws H1 ∧ va_D E.2.2.2 ws := ⟨by rw [ht] at hB; exact hB.2.1, hB.2.2.weaken (fun _ q _ h => hFc q.1 h)⟩
    exact hx Ex hB.1 H1 locs1 ls q9 ce hP2 hD2 hS1 hl h9 hce hcl
  · obtain ⟨hP2, hD2⟩ : va_P E.2.2.1 vwCl ws H1 ∧ va_D E.2.2.2 ws := ⟨by rw [ht] at hB; exact hB.1, hB.2.weaken (fun _ q _ h => hFc q.1 h)⟩
    exact hk hp H1 locs1 ls hP2 hD2 hS1 hl
theorem jj_callxvL  (hC : jj_C cc nL ret Ts own rm tys E) (hH : jj_XH E.2.2.2 E.2.1.1 E.2.1.1.heap) (hV : jj_XV E.2.1.1) (hM : jj_Mxv E.1.2.1 E.2.2.1 tys y wsC rc As ws oc) (hg : GoodIn Ts (wsV own index C y wsC)) (hw : wsC = .code y bytes maxL rt :: wsC') (np : Nat) (hdy : y.cls = C ∧ y.cls ≠ "java/lang/invoke/MethodHandle" ∧ y.cls ≠ "java/lang/invoke/VarHandle" ∧ (parseMethodDescriptor y.desc).map (fun d => d.parameters.length) = some np) (hR : rc.frames + 1 ≤ rm.frames ∧ 8 + (maxL + 11) + rc.locals ≤ rm.locals ∧ k + rc.cells ≤ rm.cells ∧ n + rc.slots ≤ rm.slots) (q0 ci : Nat) {T : u_T} {N : Nat} {fs : List Value} (he : ws[q0]? = some (b, .inr (ci, fs))) (hc : vwCl[ci]? = some (C, T, N)) (hAs : As = .ref b :: As0) (hst : st0 = As0.reverse ++ .ref b :: rest) (hn : As0.length = np) (hcat : (rest.map fun v => v.category).sum ≤ 8) (hd : decode cc pc = .ok (.invokevirtual index, 3)) (hx : ∀ Ex : String, oc = some Ex → jj_X E (k + rc.cells) (n + rc.slots) Q (ws ++ wr) pc lv rest Ex) (hk : oc = none → jj_J E (k + rc.cells) (n + rc.slots) Q (ws ++ wr) (pc + 3) lv (rest)) : jj_J E k n Q (ws ++ wr) pc lv st0 := by
  intro H locs ls hP hD hS hl
  subst hAs
  have hR0 : E.1.2.2.2 = rm := hC.2.2.2.2.2.2.2.2.2
  have hPc : va_P E.2.2.1 vwCl ws H := jj_Pl hP
  have hDc : va_D E.2.2.2 ws := jj_Dl hD
  have hFc := jj_own hDc hS hC.2.2.2.2.2.2.1
  refine vx_callv (vx_runV (As := As0) (rest := rest) ⟨hC.1, hC.2.1, hC.2.2.1, hC.2.2.2.1, hC.2.2.2.2.1⟩ (hM H.size) (cwV np hC.2.2.2.2.1 hg hw rfl rfl hdy ⟨by rw [hR0]; exact hR.1, by rw [hR0]; exact hR.2.1⟩) ⟨jj_blindX, va_recv hC.2.2.2.2.2.1 hPc hc he, fun U hU hW => ⟨rfl, by rw [hU], by rw [hU]; exact hPc, va_K.moved hW.alike hC.2.2.2.2.2.1, hDc.weaken (fun _ _ _ _ => trivial), by rw [hU]; exact ((hH.kept hS.2.1).moved hW.alike).narrow hFc, hV.warm hW⟩⟩ rfl hn (hl.1.trans hC.2.2.1) hst (lv_room hcat) hd ⟨by rw [hR0]; exact hR.2.2.1, by rw [hR0]; exact hR.2.2.2⟩) hS (fun q _ h => hFc q h) hFc (fun q _ h => hFc q h) (fun Ex ce q9 u t H1 locs1 ht hvm hp hB hz1 hk1 hS1 h9 hce hcl => ?_) (fun u t H1 locs1 ht hvm hp hB hz1 hk1 hS1 => ?_)
  · rw [ht] at hB
    obtain ⟨hP2, hD2⟩ := jj_joinL hP hD hk1 hFc hB.2.1 hB.2.2
    exact hx Ex hB.1 H1 locs1 ls q9 ce hP2 hD2 hS1 hl h9 hce hcl
  · rw [ht] at hB
    obtain ⟨hP2, hD2⟩ := jj_joinL hP hD hk1 hFc hB.1 hB.2
    exact hk hp H1 locs1 ls hP2 hD2 hS1 hl
theorem jj_scallxvL  (hC : jj_C cc nL ret Ts own rm tys E) (hH : jj_XH E.2.2.2 E.2.1.1 E.2.1.1.heap) (hV : jj_XV E.2.1.1) (hM : jj_Mxv E.1.2.1 E.2.2.1 tys y wsC rc As ws oc) (hg : GoodIn Ts (va_wsS own index y wsC)) (hw : wsC = .code y bytes maxL rt :: wsC') (np : Nat) (hdy : y.cls ≠ "java/lang/invoke/MethodHandle" ∧ y.cls ≠ "java/lang/invoke/VarHandle" ∧ (parseMethodDescriptor y.desc).map (fun d => d.parameters.length) = some np) (hR : rc.frames + 1 ≤ rm.frames ∧ 8 + (maxL + 11) + rc.locals ≤ rm.locals ∧ k + rc.cells ≤ rm.cells ∧ n + rc.slots ≤ rm.slots) (hAs : As = As0) (hst : st0 = As0.reverse ++ rest) (hn : As0.length = np) (hcat : (rest.map fun v => v.category).sum ≤ 8) (hd : decode cc pc = .ok (.invokestatic index, 3)) (hx : ∀ Ex : String, oc = some Ex → jj_X E (k + rc.cells) (n + rc.slots) Q (ws ++ wr) pc lv rest Ex) (hk : oc = none → jj_J E (k + rc.cells) (n + rc.slots) Q (ws ++ wr) (pc + 3) lv (rest)) : jj_J E k n Q (ws ++ wr) pc lv st0 := by
  intro H locs ls hP hD hS hl
  subst hAs
  have hR0 : E.1.2.2.2 = rm := hC.2.2.2.2.2.2.2.2.2
  have hPc : va_P E.2.2.1 vwCl ws H := jj_Pl hP
  have hDc : va_D E.2.2.2 ws := jj_Dl hD
  have hFc := jj_own hDc hS hC.2.2.2.2.2.2.1
  refine vx_callv (vx_runS (As := As) (rest := rest) ⟨hC.1, hC.2.1, hC.2.2.1, hC.2.2.2.1, hC.2.2.2.2.1⟩ (hM H.size) (va_cwS np hC.2.2.2.2.1 hg hw rfl rfl hdy ⟨by rw [hR0]; exact hR.1, by rw [hR0]; exact hR.2.1⟩) ⟨jj_blindX, fun U hU hW => ⟨rfl, by rw [hU], by rw [hU]; exact hPc, va_K.moved hW.alike hC.2.2.2.2.2.1, hDc.weaken (fun _ _ _ _ => trivial), by rw [hU]; exact ((hH.kept hS.2.1).moved hW.alike).narrow hFc, hV.warm hW⟩⟩ rfl hn (hl.1.trans hC.2.2.1) hst (lv_room hcat) hd ⟨by rw [hR0]; exact hR.2.2.1, by rw [hR0]; exact hR.2.2.2⟩) hS (fun q _ h => hFc q h) hFc (fun q _ h => hFc q h) (fun Ex ce q9 u t H1 locs1 ht hvm hp hB hz1 hk1 hS1 h9 hce hcl => ?_) (fun u t H1 locs1 ht hvm hp hB hz1 hk1 hS1 => ?_)
  · rw [ht] at hB
    obtain ⟨hP2, hD2⟩ := jj_joinL hP hD hk1 hFc hB.2.1 hB.2.2
    exact hx Ex hB.1 H1 locs1 ls q9 ce hP2 hD2 hS1 hl h9 hce hcl
  · rw [ht] at hB
    obtain ⟨hP2, hD2⟩ := jj_joinL hP hD hk1 hFc hB.1 hB.2
    exact hk hp H1 locs1 ls hP2 hD2 hS1 hl
end CALLX
/-! static methods without a world; a call that has one cell of ours -/
section CALLN
variable {cc : ByteArray} {nL : Nat} {ret : Option FieldType} {Ts : List Cond} {own : String} {rm : Room} {tys : List (ClassId × FieldType)} {E : jj_E} {k n : Nat} {Q : State → Prop} {ws : va_W} {pc : Nat} {lv : List (Nat × Value)} {rest st0 : List Value} {index : Nat} {y : MethodName} {bytes : ByteArray} {maxL : Nat} {rt : Option FieldType} {wsC wsC' : List Cond} {rc : Room} {As As0 : List Value} {oc : Option String}
theorem jj_scalliN {post : Int32 → Unit → Prop} (hC : jj_C cc nL ret Ts own rm tys E) (hM : jj_M E.1.2.1 E.2.2.1 tys y wsC rc As [] Unit post (fun _ => [])) (hg : GoodIn Ts (va_wsS own index y wsC)) (hw : wsC = .code y bytes maxL rt :: wsC') (np : Nat) (hdy : y.cls ≠ "java/lang/invoke/MethodHandle" ∧ y.cls ≠ "java/lang/invoke/VarHandle" ∧ (parseMethodDescriptor y.desc).map (fun d => d.parameters.length) = some np) (hR : rc.frames + 1 ≤ rm.frames ∧ 8 + (maxL + 11) + rc.locals ≤ rm.locals ∧ k + rc.cells ≤ rm.cells ∧ n + rc.slots ≤ rm.slots) (hAs : As = As0) (hst : st0 = As0.reverse ++ rest) (hn : As0.length = np) (hcat : (rest.map fun v => v.category).sum ≤ 8) (hd : decode cc pc = .ok (.invokestatic index, 3)) (hk : ∀ (r : Int32) (u : Unit), post r u → jj_J E (k + rc.cells) (n + rc.slots) Q ws (pc + 3) lv (.int r :: rest)) : jj_J E k n Q ws pc lv st0 :=
  jj_scalliL (ws := []) (wr := ws) hC hM hg hw np hdy hR hAs hst hn hcat hd hk
theorem jj_scallxvN (hC : jj_C cc nL ret Ts own rm tys E) (hH : jj_XH E.2.2.2 E.2.1.1 E.2.1.1.heap) (hV : jj_XV E.2.1.1) (hM : jj_Mxv E.1.2.1 E.2.2.1 tys y wsC rc As [] oc) (hg : GoodIn Ts (va_wsS own index y wsC)) (hw : wsC = .code y bytes maxL rt :: wsC') (np : Nat) (hdy : y.cls ≠ "java/lang/invoke/MethodHandle" ∧ y.cls ≠ "java/lang/invoke/VarHandle" ∧ (parseMethodDescriptor y.desc).map (fun d => d.parameters.length) = some np) (hR : rc.frames + 1 ≤ rm.frames ∧ 8 + (maxL + 11) + rc.locals ≤ rm.locals ∧ k + rc.cells ≤ rm.cells ∧ n + rc.slots ≤ rm.slots) (hAs : As = As0) (hst : st0 = As0.reverse ++ rest) (hn : As0.length = np) (hcat : (rest.map fun v => v.category).sum ≤ 8) (hd : decode cc pc = .ok (.invokestatic index, 3)) (hx : ∀ Ex : String, oc = some Ex → jj_X E (k + rc.cells) (n + rc.slots) Q ws pc lv rest Ex) (hk : oc = none → jj_J E (k + rc.cells) (n + rc.slots) Q ws (pc + 3) lv rest) : jj_J E k n Q ws pc lv st0 :=
  jj_scallxvL (ws := []) (wr := ws) hC hH hV hM hg hw np hdy hR hAs hst hn hcat hd hx hk
theorem jj_join1 {A0 : Nat → Prop} {D : va_G} {cl : List vw_C} {a q : Nat} {e0 e1 : va_E} {H H1 : Heap} (hP : va_P D cl ws H) (hD : va_D A0 ws) (hq : ws[q]? = some (a, e0)) (hk : ∀ x : Nat, x < H.size → ¬ va_A [(a, e0)] H.size x → H1[x]? = H[x]?) (hP1 : va_P D cl [(a, e1)] H1) : va_P D cl (ws.set q (a, e1)) H1 ∧ va_D A0 (ws.set q (a, e1)) := by
  refine ⟨fun j x hx => ?_, hD.set hq⟩
  have hl := (List.getElem?_eq_some_iff.mp hq).1
  by_cases hj : j = q
  · subst hj
    rw [List.getElem?_set_self hl] at hx
    cases hx
    exact hP1 0 _ rfl
  · rw [List.getElem?_set_ne (Ne.symm hj)] at hx
    refine (hP j x hx).kept (hk x.1 ((hP j x hx).lt) (fun h => ?_))
    rcases h with ⟨k2, e, h⟩ | h
    · have h0 : k2 = 0 := by
        have := (List.getElem?_eq_some_iff.mp h).1
        simp at this
        exact this
      subst h0
      have e3 : a = x.1 := by
        have := Option.some.inj h
        exact congrArg Prod.fst this
      exact hj (hD.1 j q x (a, e0) hx hq e3.symm)
    · have := (hP j x hx).lt
      omega
theorem jj_scallv1 {a q : Nat} {e0 e1 : va_E} {ws' : va_W} (hC : jj_C cc nL ret Ts own rm tys E) (he : ws[q]? = some (a, e0)) (hM : jj_Mv E.1.2.1 E.2.2.1 tys y wsC rc As [(a, e0)] Unit (fun _ => True) (fun _ => [(a, e1)])) (hg : GoodIn Ts (va_wsS own index y wsC)) (hw : wsC = .code y bytes maxL rt :: wsC') (np : Nat) (hdy : y.cls ≠ "java/lang/invoke/MethodHandle" ∧ y.cls ≠ "java/lang/invoke/VarHandle" ∧ (parseMethodDescriptor y.desc).map (fun d => d.parameters.length) = some np) (hR : rc.frames + 1 ≤ rm.frames ∧ 8 + (maxL + 11) + rc.locals ≤ rm.locals ∧ k + rc.cells ≤ rm.cells ∧ n + rc.slots ≤ rm.slots) (hAs : As = As0) (hst : st0 = As0.reverse ++ rest) (hn : As0.length = np) (hcat : (rest.map fun v => v.category).sum ≤ 8) (hd : decode cc pc = .ok (.invokestatic index, 3)) (hws : ws.set q (a, e1) = ws') (hk : jj_J E (k + rc.cells) (n + rc.slots) Q ws' (pc + 3) lv rest) : jj_J E k n Q ws pc lv st0 := by
  intro H locs ls hP hD hS hl
  subst hAs
  subst hws
  have hR0 : E.1.2.2.2 = rm := hC.2.2.2.2.2.2.2.2.2
  have hPc : va_P E.2.2.1 vwCl [(a, e0)] H := fun j x hx => by
    have h0 : j = 0 := by
      have := (List.getElem?_eq_some_iff.mp hx).1
      simp at this
      exact this
    subst h0
    cases hx
    exact hP q _ he
  have hDc : va_D E.2.2.2 [(a, e0)] := hD.sub [q] (by simp [va_nd]) (by simp [he])
  have hFc := jj_own hDc hS hC.2.2.2.2.2.2.1
  refine va_callv (va_runS (As := As) (rest := rest) ⟨hC.1, hC.2.1, hC.2.2.1, hC.2.2.2.1, hC.2.2.2.2.1⟩ (hM H.size) (va_cwS np hC.2.2.2.2.1 hg hw rfl rfl hdy ⟨by rw [hR0]; exact hR.1, by rw [hR0]; exact hR.2.1⟩) ⟨jj_blind, fun U hU hW => ⟨rfl, by rw [hU], by rw [hU]; exact hPc, va_K.moved hW.alike hC.2.2.2.2.2.1, hDc.weaken (fun _ _ _ _ => trivial)⟩⟩ rfl hn (hl.1.trans hC.2.2.1) hst (lv_room hcat) hd ⟨by rw [hR0]; exact hR.2.2.1, by rw [hR0]; exact hR.2.2.2⟩) hS (fun q _ h => hFc q h) hFc (fun u t H1 locs1 ht hvm hp hB hz1 hk1 hS1 => ?_)
  rw [ht] at hB
  obtain ⟨hP2, hD2⟩ := jj_join1 hP hD he hk1 hB.1
  exact hk H1 locs1 ls hP2 hD2 hS1 hl
end CALLN
