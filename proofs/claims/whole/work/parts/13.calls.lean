/-! calls -/
section CALLS
variable {cc : ByteArray} {nL : Nat} {ret : Option FieldType} {Ts : List Cond} {own : String} {rm : Room} {tys : List (ClassId × FieldType)} {E : jj_E} {k n : Nat} {Q : State → Prop} {ws wr : va_W} {pc : Nat} {lv : List (Nat × Value)} {rest st0 : List Value} {C : String} {index : Nat} {y : MethodName} {bytes : ByteArray} {maxL : Nat} {rt : Option FieldType} {wsC wsC' : List Cond} {rc : Room} {As : List Value} {b : Nat} {S : Type} {wsS : S → va_W}
theorem jj_calli {As0 : List Value} {post : Int32 → S → Prop} (hC : jj_C cc nL ret Ts own rm tys E) (hM : jj_M E.1.2.1 E.2.2.1 tys y wsC rc As ws S post wsS) (hg : GoodIn Ts (wsV own index C y wsC)) (hw : wsC = .code y bytes maxL rt :: wsC') (np : Nat) (hdy : y.cls = C ∧ y.cls ≠ "java/lang/invoke/MethodHandle" ∧ y.cls ≠ "java/lang/invoke/VarHandle" ∧ (parseMethodDescriptor y.desc).map (fun d => d.parameters.length) = some np) (hR : rc.frames + 1 ≤ rm.frames ∧ 8 + (maxL + 11) + rc.locals ≤ rm.locals ∧ k + rc.cells ≤ rm.cells ∧ n + rc.slots ≤ rm.slots) (q0 ci : Nat) {T : u_T} {N : Nat} {fs : List Value} (he : ws[q0]? = some (b, .inr (ci, fs))) (hc : vwCl[ci]? = some (C, T, N)) (hAs : As = .ref b :: As0) (hst : st0 = As0.reverse ++ .ref b :: rest) (hn : As0.length = np) (hcat : (rest.map fun v => v.category).sum ≤ 8) (hd : decode cc pc = .ok (.invokevirtual index, 3)) (hk : ∀ (r : Int32) (u : S), post r u → jj_J E (k + rc.cells) (n + rc.slots) Q (wsS u) (pc + 3) lv (.int r :: rest)) : jj_J E k n Q ws pc lv st0 := by
  intro H locs ls hP hD hS hl
  subst hAs
  have hR0 : E.1.2.2.2 = rm := hC.2.2.2.2.2.2.2.2.2
  have hPc : va_P E.2.2.1 vwCl ws H := hP
  have hDc : va_D E.2.2.2 ws := hD
  have hFc := jj_own hDc hS hC.2.2.2.2.2.2.1
  refine va_calli (va_runV (As := As0) (rest := rest) ⟨hC.1, hC.2.1, hC.2.2.1, hC.2.2.2.1, hC.2.2.2.2.1⟩ (hM H.size) (cwV np hC.2.2.2.2.1 hg hw rfl rfl hdy ⟨by rw [hR0]; exact hR.1, by rw [hR0]; exact hR.2.1⟩) ⟨jj_blind, va_recv hC.2.2.2.2.2.1 hPc hc he, fun U hU hW => ⟨rfl, by rw [hU], by rw [hU]; exact hPc, va_K.moved hW.alike hC.2.2.2.2.2.1, hDc.weaken (fun _ _ _ _ => trivial)⟩⟩ rfl hn (hl.1.trans hC.2.2.1) hst (lv_room hcat) hd ⟨by rw [hR0]; exact hR.2.2.1, by rw [hR0]; exact hR.2.2.2⟩) hS (fun q _ h => hFc q h) hFc (fun r u t H1 locs1 ht hvm hp hB hz1 hk1 hS1 => ?_)
  exact hk r u hp H1 locs1 ls (by rw [ht] at hB; exact hB.1) (hB.2.weaken (fun _ q _ h => hFc q.1 h)) hS1 hl
theorem jj_scalli {As0 : List Value} {post : Int32 → S → Prop} (hC : jj_C cc nL ret Ts own rm tys E) (hM : jj_M E.1.2.1 E.2.2.1 tys y wsC rc As ws S post wsS) (hg : GoodIn Ts (va_wsS own index y wsC)) (hw : wsC = .code y bytes maxL rt :: wsC') (np : Nat) (hdy : y.cls ≠ "java/lang/invoke/MethodHandle" ∧ y.cls ≠ "java/lang/invoke/VarHandle" ∧ (parseMethodDescriptor y.desc).map (fun d => d.parameters.length) = some np) (hR : rc.frames + 1 ≤ rm.frames ∧ 8 + (maxL + 11) + rc.locals ≤ rm.locals ∧ k + rc.cells ≤ rm.cells ∧ n + rc.slots ≤ rm.slots) (hAs : As = As0) (hst : st0 = As0.reverse ++ rest) (hn : As0.length = np) (hcat : (rest.map fun v => v.category).sum ≤ 8) (hd : decode cc pc = .ok (.invokestatic index, 3)) (hk : ∀ (r : Int32) (u : S), post r u → jj_J E (k + rc.cells) (n + rc.slots) Q (wsS u) (pc + 3) lv (.int r :: rest)) : jj_J E k n Q ws pc lv st0 := by
  intro H locs ls hP hD hS hl
  subst hAs
  have hR0 : E.1.2.2.2 = rm := hC.2.2.2.2.2.2.2.2.2
  have hPc : va_P E.2.2.1 vwCl ws H := hP
  have hDc : va_D E.2.2.2 ws := hD
  have hFc := jj_own hDc hS hC.2.2.2.2.2.2.1
  refine va_calli (va_runS (As := As) (rest := rest) ⟨hC.1, hC.2.1, hC.2.2.1, hC.2.2.2.1, hC.2.2.2.2.1⟩ (hM H.size) (va_cwS np hC.2.2.2.2.1 hg hw rfl rfl hdy ⟨by rw [hR0]; exact hR.1, by rw [hR0]; exact hR.2.1⟩) ⟨jj_blind, fun U hU hW => ⟨rfl, by rw [hU], by rw [hU]; exact hPc, va_K.moved hW.alike hC.2.2.2.2.2.1, hDc.weaken (fun _ _ _ _ => trivial)⟩⟩ rfl hn (hl.1.trans hC.2.2.1) hst (lv_room hcat) hd ⟨by rw [hR0]; exact hR.2.2.1, by rw [hR0]; exact hR.2.2.2⟩) hS (fun q _ h => hFc q h) hFc (fun r u t H1 locs1 ht hvm hp hB hz1 hk1 hS1 => ?_)
  exact hk r u hp H1 locs1 ls (by rw [ht] at hB; exact hB.1) (hB.2.weaken (fun _ q _ h => hFc q.1 h)) hS1 hl
theorem jj_calliL {As0 : List Value} {post : Int32 → S → Prop} (hC : jj_C cc nL ret Ts own rm tys E) (hM : jj_M E.1.2.1 E.2.2.1 tys y wsC rc As ws S post wsS) (hg : GoodIn Ts (wsV own index C y wsC)) (hw : wsC = .code y bytes maxL rt :: wsC') (np : Nat) (hdy : y.cls = C ∧ y.cls ≠ "java/lang/invoke/MethodHandle" ∧ y.cls ≠ "java/lang/invoke/VarHandle" ∧ (parseMethodDescriptor y.desc).map (fun d => d.parameters.length) = some np) (hR : rc.frames + 1 ≤ rm.frames ∧ 8 + (maxL + 11) + rc.locals ≤ rm.locals ∧ k + rc.cells ≤ rm.cells ∧ n + rc.slots ≤ rm.slots) (q0 ci : Nat) {T : u_T} {N : Nat} {fs : List Value} (he : ws[q0]? = some (b, .inr (ci, fs))) (hc : vwCl[ci]? = some (C, T, N)) (hAs : As = .ref b :: As0) (hst : st0 = As0.reverse ++ .ref b :: rest) (hn : As0.length = np) (hcat : (rest.map fun v => v.category).sum ≤ 8) (hd : decode cc pc = .ok (.invokevirtual index, 3)) (hk : ∀ (r : Int32) (u : S), post r u → jj_J E (k + rc.cells) (n + rc.slots) Q (wsS u ++ wr) (pc + 3) lv (.int r :: rest)) : jj_J E k n Q (ws ++ wr) pc lv st0 := by
  intro H locs ls hP hD hS hl
  subst hAs
  have hR0 : E.1.2.2.2 = rm := hC.2.2.2.2.2.2.2.2.2
  have hPc : va_P E.2.2.1 vwCl ws H := jj_Pl hP
  have hDc : va_D E.2.2.2 ws := jj_Dl hD
  have hFc := jj_own hDc hS hC.2.2.2.2.2.2.1
  refine va_calli (va_runV (As := As0) (rest := rest) ⟨hC.1, hC.2.1, hC.2.2.1, hC.2.2.2.1, hC.2.2.2.2.1⟩ (hM H.size) (cwV np hC.2.2.2.2.1 hg hw rfl rfl hdy ⟨by rw [hR0]; exact hR.1, by rw [hR0]; exact hR.2.1⟩) ⟨jj_blind, va_recv hC.2.2.2.2.2.1 hPc hc he, fun U hU hW => ⟨rfl, by rw [hU], by rw [hU]; exact hPc, va_K.moved hW.alike hC.2.2.2.2.2.1, hDc.weaken (fun _ _ _ _ => trivial)⟩⟩ rfl hn (hl.1.trans hC.2.2.1) hst (lv_room hcat) hd ⟨by rw [hR0]; exact hR.2.2.1, by rw [hR0]; exact hR.2.2.2⟩) hS (fun q _ h => hFc q h) hFc (fun r u t H1 locs1 ht hvm hp hB hz1 hk1 hS1 => ?_)
  rw [ht] at hB
  obtain ⟨hP2, hD2⟩ := jj_joinL hP hD hk1 hFc hB.1 hB.2
  exact hk r u hp H1 locs1 ls hP2 hD2 hS1 hl
theorem jj_scalliL {As0 : List Value} {post : Int32 → S → Prop} (hC : jj_C cc nL ret Ts own rm tys E) (hM : jj_M E.1.2.1 E.2.2.1 tys y wsC rc As ws S post wsS) (hg : GoodIn Ts (va_wsS own index y wsC)) (hw : wsC = .code y bytes maxL rt :: wsC') (np : Nat) (hdy : y.cls ≠ "java/lang/invoke/MethodHandle" ∧ y.cls ≠ "java/lang/invoke/VarHandle" ∧ (parseMethodDescriptor y.desc).map (fun d => d.parameters.length) = some np) (hR : rc.frames + 1 ≤ rm.frames ∧ 8 + (maxL + 11) + rc.locals ≤ rm.locals ∧ k + rc.cells ≤ rm.cells ∧ n + rc.slots ≤ rm.slots) (hAs : As = As0) (hst : st0 = As0.reverse ++ rest) (hn : As0.length = np) (hcat : (rest.map fun v => v.category).sum ≤ 8) (hd : decode cc pc = .ok (.invokestatic index, 3)) (hk : ∀ (r : Int32) (u : S), post r u → jj_J E (k + rc.cells) (n + rc.slots) Q (wsS u ++ wr) (pc + 3) lv (.int r :: rest)) : jj_J E k n Q (ws ++ wr) pc lv st0 := by
  intro H locs ls hP hD hS hl
  subst hAs
  have hR0 : E.1.2.2.2 = rm := hC.2.2.2.2.2.2.2.2.2
  have hPc : va_P E.2.2.1 vwCl ws H := jj_Pl hP
  have hDc : va_D E.2.2.2 ws := jj_Dl hD
  have hFc := jj_own hDc hS hC.2.2.2.2.2.2.1
  refine va_calli (va_runS (As := As) (rest := rest) ⟨hC.1, hC.2.1, hC.2.2.1, hC.2.2.2.1, hC.2.2.2.2.1⟩ (hM H.size) (va_cwS np hC.2.2.2.2.1 hg hw rfl rfl hdy ⟨by rw [hR0]; exact hR.1, by rw [hR0]; exact hR.2.1⟩) ⟨jj_blind, fun U hU hW => ⟨rfl, by rw [hU], by rw [hU]; exact hPc, va_K.moved hW.alike hC.2.2.2.2.2.1, hDc.weaken (fun _ _ _ _ => trivial)⟩⟩ rfl hn (hl.1.trans hC.2.2.1) hst (lv_room hcat) hd ⟨by rw [hR0]; exact hR.2.2.1, by rw [hR0]; exact hR.2.2.2⟩) hS (fun q _ h => hFc q h) hFc (fun r u t H1 locs1 ht hvm hp hB hz1 hk1 hS1 => ?_)
  rw [ht] at hB
  obtain ⟨hP2, hD2⟩ := jj_joinL hP hD hk1 hFc hB.1 hB.2
  exact hk r u hp H1 locs1 ls hP2 hD2 hS1 hl
theorem jj_calliR {As0 : List Value} {post : Int32 → S → Prop} (hC : jj_C cc nL ret Ts own rm tys E) (hM : jj_M E.1.2.1 E.2.2.1 tys y wsC rc As ws S post wsS) (hg : GoodIn Ts (wsV own index C y wsC)) (hw : wsC = .code y bytes maxL rt :: wsC') (np : Nat) (hdy : y.cls = C ∧ y.cls ≠ "java/lang/invoke/MethodHandle" ∧ y.cls ≠ "java/lang/invoke/VarHandle" ∧ (parseMethodDescriptor y.desc).map (fun d => d.parameters.length) = some np) (hR : rc.frames + 1 ≤ rm.frames ∧ 8 + (maxL + 11) + rc.locals ≤ rm.locals ∧ k + rc.cells ≤ rm.cells ∧ n + rc.slots ≤ rm.slots) (q0 ci : Nat) {T : u_T} {N : Nat} {fs : List Value} (he : ws[q0]? = some (b, .inr (ci, fs))) (hc : vwCl[ci]? = some (C, T, N)) (hAs : As = .ref b :: As0) (hst : st0 = As0.reverse ++ .ref b :: rest) (hn : As0.length = np) (hcat : (rest.map fun v => v.category).sum ≤ 8) (hd : decode cc pc = .ok (.invokevirtual index, 3)) (hk : ∀ (r : Int32) (u : S), post r u → jj_J E (k + rc.cells) (n + rc.slots) Q (wr ++ wsS u) (pc + 3) lv (.int r :: rest)) : jj_J E k n Q (wr ++ ws) pc lv st0 := by
  intro H locs ls hP hD hS hl
  subst hAs
  have hR0 : E.1.2.2.2 = rm := hC.2.2.2.2.2.2.2.2.2
  have hPc : va_P E.2.2.1 vwCl ws H := jj_Pr hP
  have hDc : va_D E.2.2.2 ws := jj_Dr hD
  have hFc := jj_own hDc hS hC.2.2.2.2.2.2.1
  refine va_calli (va_runV (As := As0) (rest := rest) ⟨hC.1, hC.2.1, hC.2.2.1, hC.2.2.2.1, hC.2.2.2.2.1⟩ (hM H.size) (cwV np hC.2.2.2.2.1 hg hw rfl rfl hdy ⟨by rw [hR0]; exact hR.1, by rw [hR0]; exact hR.2.1⟩) ⟨jj_blind, va_recv hC.2.2.2.2.2.1 hPc hc he, fun U hU hW => ⟨rfl, by rw [hU], by rw [hU]; exact hPc, va_K.moved hW.alike hC.2.2.2.2.2.1, hDc.weaken (fun _ _ _ _ => trivial)⟩⟩ rfl hn (hl.1.trans hC.2.2.1) hst (lv_room hcat) hd ⟨by rw [hR0]; exact hR.2.2.1, by rw [hR0]; exact hR.2.2.2⟩) hS (fun q _ h => hFc q h) hFc (fun r u t H1 locs1 ht hvm hp hB hz1 hk1 hS1 => ?_)
  rw [ht] at hB
  obtain ⟨hP2, hD2⟩ := jj_joinR hP hD hk1 hFc hB.1 hB.2
  exact hk r u hp H1 locs1 ls hP2 hD2 hS1 hl
theorem jj_scalliR {As0 : List Value} {post : Int32 → S → Prop} (hC : jj_C cc nL ret Ts own rm tys E) (hM : jj_M E.1.2.1 E.2.2.1 tys y wsC rc As ws S post wsS) (hg : GoodIn Ts (va_wsS own index y wsC)) (hw : wsC = .code y bytes maxL rt :: wsC') (np : Nat) (hdy : y.cls ≠ "java/lang/invoke/MethodHandle" ∧ y.cls ≠ "java/lang/invoke/VarHandle" ∧ (parseMethodDescriptor y.desc).map (fun d => d.parameters.length) = some np) (hR : rc.frames + 1 ≤ rm.frames ∧ 8 + (maxL + 11) + rc.locals ≤ rm.locals ∧ k + rc.cells ≤ rm.cells ∧ n + rc.slots ≤ rm.slots) (hAs : As = As0) (hst : st0 = As0.reverse ++ rest) (hn : As0.length = np) (hcat : (rest.map fun v => v.category).sum ≤ 8) (hd : decode cc pc = .ok (.invokestatic index, 3)) (hk : ∀ (r : Int32) (u : S), post r u → jj_J E (k + rc.cells) (n + rc.slots) Q (wr ++ wsS u) (pc + 3) lv (.int r :: rest)) : jj_J E k n Q (wr ++ ws) pc lv st0 := by
  intro H locs ls hP hD hS hl
  subst hAs
  have hR0 : E.1.2.2.2 = rm := hC.2.2.2.2.2.2.2.2.2
  have hPc : va_P E.2.2.1 vwCl ws H := jj_Pr hP
  have hDc : va_D E.2.2.2 ws := jj_Dr hD
  have hFc := jj_own hDc hS hC.2.2.2.2.2.2.1
  refine va_calli (va_runS (As := As) (rest := rest) ⟨hC.1, hC.2.1, hC.2.2.1, hC.2.2.2.1, hC.2.2.2.2.1⟩ (hM H.size) (va_cwS np hC.2.2.2.2.1 hg hw rfl rfl hdy ⟨by rw [hR0]; exact hR.1, by rw [hR0]; exact hR.2.1⟩) ⟨jj_blind, fun U hU hW => ⟨rfl, by rw [hU], by rw [hU]; exact hPc, va_K.moved hW.alike hC.2.2.2.2.2.1, hDc.weaken (fun _ _ _ _ => trivial)⟩⟩ rfl hn (hl.1.trans hC.2.2.1) hst (lv_room hcat) hd ⟨by rw [hR0]; exact hR.2.2.1, by rw [hR0]; exact hR.2.2.2⟩) hS (fun q _ h => hFc q h) hFc (fun r u t H1 locs1 ht hvm hp hB hz1 hk1 hS1 => ?_)
  rw [ht] at hB
  obtain ⟨hP2, hD2⟩ := jj_joinR hP hD hk1 hFc hB.1 hB.2
  exact hk r u hp H1 locs1 ls hP2 hD2 hS1 hl
theorem jj_callv {As0 : List Value} {post : S → Prop} (hC : jj_C cc nL ret Ts own rm tys E) (hM : jj_Mv E.1.2.1 E.2.2.1 tys y wsC rc As ws S post wsS) (hg : GoodIn Ts (wsV own index C y wsC)) (hw : wsC = .code y bytes maxL rt :: wsC') (np : Nat) (hdy : y.cls = C ∧ y.cls ≠ "java/lang/invoke/MethodHandle" ∧ y.cls ≠ "java/lang/invoke/VarHandle" ∧ (parseMethodDescriptor y.desc).map (fun d => d.parameters.length) = some np) (hR : rc.frames + 1 ≤ rm.frames ∧ 8 + (maxL + 11) + rc.locals ≤ rm.locals ∧ k + rc.cells ≤ rm.cells ∧ n + rc.slots ≤ rm.slots) (q0 ci : Nat) {T : u_T} {N : Nat} {fs : List Value} (he : ws[q0]? = some (b, .inr (ci, fs))) (hc : vwCl[ci]? = some (C, T, N)) (hAs : As = .ref b :: As0) (hst : st0 = As0.reverse ++ .ref b :: rest) (hn : As0.length = np) (hcat : (rest.map fun v => v.category).sum ≤ 8) (hd : decode cc pc = .ok (.invokevirtual index, 3)) (hk : ∀ (u : S), post u → jj_J E (k + rc.cells) (n + rc.slots) Q (wsS u) (pc + 3) lv (rest)) : jj_J E k n Q ws pc lv st0 := by
  intro H locs ls hP hD hS hl
  subst hAs
  have hR0 : E.1.2.2.2 = rm := hC.2.2.2.2.2.2.2.2.2
  have hPc : va_P E.2.2.1 vwCl ws H := hP
  have hDc : va_D E.2.2.2 ws := hD
  have hFc := jj_own hDc hS hC.2.2.2.2.2.2.1
  refine va_callv (va_runV (As := As0) (rest := rest) ⟨hC.1, hC.2.1, hC.2.2.1, hC.2.2.2.1, hC.2.2.2.2.1⟩ (hM H.size) (cwV np hC.2.2.2.2.1 hg hw rfl rfl hdy ⟨by rw [hR0]; exact hR.1, by rw [hR0]; exact hR.2.1⟩) ⟨jj_blind, va_recv hC.2.2.2.2.2.1 hPc hc he, fun U hU hW => ⟨rfl, by rw [hU], by rw [hU]; exact hPc, va_K.moved hW.alike hC.2.2.2.2.2.1, hDc.weaken (fun _ _ _ _ => trivial)⟩⟩ rfl hn (hl.1.trans hC.2.2.1) hst (lv_room hcat) hd ⟨by rw [hR0]; exact hR.2.2.1, by rw [hR0]; exact hR.2.2.2⟩) hS (fun q _ h => hFc q h) hFc (fun u t H1 locs1 ht hvm hp hB hz1 hk1 hS1 => ?_)
  exact hk u hp H1 locs1 ls (by rw [ht] at hB; exact hB.1) (hB.2.weaken (fun _ q _ h => hFc q.1 h)) hS1 hl
theorem jj_scallv {As0 : List Value} {post : S → Prop} (hC : jj_C cc nL ret Ts own rm tys E) (hM : jj_Mv E.1.2.1 E.2.2.1 tys y wsC rc As ws S post wsS) (hg : GoodIn Ts (va_wsS own index y wsC)) (hw : wsC = .code y bytes maxL rt :: wsC') (np : Nat) (hdy : y.cls ≠ "java/lang/invoke/MethodHandle" ∧ y.cls ≠ "java/lang/invoke/VarHandle" ∧ (parseMethodDescriptor y.desc).map (fun d => d.parameters.length) = some np) (hR : rc.frames + 1 ≤ rm.frames ∧ 8 + (maxL + 11) + rc.locals ≤ rm.locals ∧ k + rc.cells ≤ rm.cells ∧ n + rc.slots ≤ rm.slots) (hAs : As = As0) (hst : st0 = As0.reverse ++ rest) (hn : As0.length = np) (hcat : (rest.map fun v => v.category).sum ≤ 8) (hd : decode cc pc = .ok (.invokestatic index, 3)) (hk : ∀ (u : S), post u → jj_J E (k + rc.cells) (n + rc.slots) Q (wsS u) (pc + 3) lv (rest)) : jj_J E k n Q ws pc lv st0 := by
  intro H locs ls hP hD hS hl
  subst hAs
  have hR0 : E.1.2.2.2 = rm := hC.2.2.2.2.2.2.2.2.2
  have hPc : va_P E.2.2.1 vwCl ws H := hP
  have hDc : va_D E.2.2.2 ws := hD
  have hFc := jj_own hDc hS hC.2.2.2.2.2.2.1
  refine va_callv (va_runS (As := As) (rest := rest) ⟨hC.1, hC.2.1, hC.2.2.1, hC.2.2.2.1, hC.2.2.2.2.1⟩ (hM H.size) (va_cwS np hC.2.2.2.2.1 hg hw rfl rfl hdy ⟨by rw [hR0]; exact hR.1, by rw [hR0]; exact hR.2.1⟩) ⟨jj_blind, fun U hU hW => ⟨rfl, by rw [hU], by rw [hU]; exact hPc, va_K.moved hW.alike hC.2.2.2.2.2.1, hDc.weaken (fun _ _ _ _ => trivial)⟩⟩ rfl hn (hl.1.trans hC.2.2.1) hst (lv_room hcat) hd ⟨by rw [hR0]; exact hR.2.2.1, by rw [hR0]; exact hR.2.2.2⟩) hS (fun q _ h => hFc q h) hFc (fun u t H1 locs1 ht hvm hp hB hz1 hk1 hS1 => ?_)
  exact hk u hp H1 locs1 ls (by rw [ht] at hB; exact hB.1) (hB.2.weaken (fun _ q _ h => hFc q.1 h)) hS1 hl
theorem jj_callvL {As0 : List Value} {post : S → Prop} (hC : jj_C cc nL ret Ts own rm tys E) (hM : jj_Mv E.1.2.1 E.2.2.1 tys y wsC rc As ws S post wsS) (hg : GoodIn Ts (wsV own index C y wsC)) (hw : wsC = .code y bytes maxL rt :: wsC') (np : Nat) (hdy : y.cls = C ∧ y.cls ≠ "java/lang/invoke/MethodHandle" ∧ y.cls ≠ "java/lang/invoke/VarHandle" ∧ (parseMethodDescriptor y.desc).map (fun d => d.parameters.length) = some np) (hR : rc.frames + 1 ≤ rm.frames ∧ 8 + (maxL + 11) + rc.locals ≤ rm.locals ∧ k + rc.cells ≤ rm.cells ∧ n + rc.slots ≤ rm.slots) (q0 ci : Nat) {T : u_T} {N : Nat} {fs : List Value} (he : ws[q0]? = some (b, .inr (ci, fs))) (hc : vwCl[ci]? = some (C, T, N)) (hAs : As = .ref b :: As0) (hst : st0 = As0.reverse ++ .ref b :: rest) (hn : As0.length = np) (hcat : (rest.map fun v => v.category).sum ≤ 8) (hd : decode cc pc = .ok (.invokevirtual index, 3)) (hk : ∀ (u : S), post u → jj_J E (k + rc.cells) (n + rc.slots) Q (wsS u ++ wr) (pc + 3) lv (rest)) : jj_J E k n Q (ws ++ wr) pc lv st0 := by
  intro H locs ls hP hD hS hl
  subst hAs
  have hR0 : E.1.2.2.2 = rm := hC.2.2.2.2.2.2.2.2.2
  have hPc : va_P E.2.2.1 vwCl ws H := jj_Pl hP
  have hDc : va_D E.2.2.2 ws := jj_Dl hD
  have hFc := jj_own hDc hS hC.2.2.2.2.2.2.1
  refine va_callv (va_runV (As := As0) (rest := rest) ⟨hC.1, hC.2.1, hC.2.2.1, hC.2.2.2.1, hC.2.2.2.2.1⟩ (hM H.size) (cwV np hC.2.2.2.2.1 hg hw rfl rfl hdy ⟨by rw [hR0]; exact hR.1, by rw [hR0]; exact hR.2.1⟩) ⟨jj_blind, va_recv hC.2.2.2.2.2.1 hPc hc he, fun U hU hW => ⟨rfl, by rw [hU], by rw [hU]; exact hPc, va_K.moved hW.alike hC.2.2.2.2.2.1, hDc.weaken (fun _ _ _ _ => trivial)⟩⟩ rfl hn (hl.1.trans hC.2.2.1) hst (lv_room hcat) hd ⟨by rw [hR0]; exact hR.2.2.1, by rw [hR0]; exact hR.2.2.2⟩) hS (fun q _ h => hFc q h) hFc (fun u t H1 locs1 ht hvm hp hB hz1 hk1 hS1 => ?_)
  rw [ht] at hB
  obtain ⟨hP2, hD2⟩ := jj_joinL hP hD hk1 hFc hB.1 hB.2
  exact hk u hp H1 locs1 ls hP2 hD2 hS1 hl
theorem jj_scallvL {As0 : List Value} {post : S → Prop} (hC : jj_C cc nL ret Ts own rm tys E) (hM : jj_Mv E.1.2.1 E.2.2.1 tys y wsC rc As ws S post wsS) (hg : GoodIn Ts (va_wsS own index y wsC)) (hw : wsC = .code y bytes maxL rt :: wsC') (np : Nat) (hdy : y.cls ≠ "java/lang/invoke/MethodHandle" ∧ y.cls ≠ "java/lang/invoke/VarHandle" ∧ (parseMethodDescriptor y.desc).map (fun d => d.parameters.length) = some np) (hR : rc.frames + 1 ≤ rm.frames ∧ 8 + (maxL + 11) + rc.locals ≤ rm.locals ∧ k + rc.cells ≤ rm.cells ∧ n + rc.slots ≤ rm.slots) (hAs : As = As0) (hst : st0 = As0.reverse ++ rest) (hn : As0.length = np) (hcat : (rest.map fun v => v.category).sum ≤ 8) (hd : decode cc pc = .ok (.invokestatic index, 3)) (hk : ∀ (u : S), post u → jj_J E (k + rc.cells) (n + rc.slots) Q (wsS u ++ wr) (pc + 3) lv (rest)) : jj_J E k n Q (ws ++ wr) pc lv st0 := by
  intro H locs ls hP hD hS hl
  subst hAs
  have hR0 : E.1.2.2.2 = rm := hC.2.2.2.2.2.2.2.2.2
  have hPc : va_P E.2.2.1 vwCl ws H := jj_Pl hP
  have hDc : va_D E.2.2.2 ws := jj_Dl hD
  have hFc := jj_own hDc hS hC.2.2.2.2.2.2.1
  refine va_callv (va_runS (As := As) (rest := rest) ⟨hC.1, hC.2.1, hC.2.2.1, hC.2.2.2.1, hC.2.2.2.2.1⟩ (hM H.size) (va_cwS np hC.2.2.2.2.1 hg hw rfl rfl hdy ⟨by rw [hR0]; exact hR.1, by rw [hR0]; exact hR.2.1⟩) ⟨jj_blind, fun U hU hW => ⟨rfl, by rw [hU], by rw [hU]; exact hPc, va_K.moved hW.alike hC.2.2.2.2.2.1, hDc.weaken (fun _ _ _ _ => trivial)⟩⟩ rfl hn (hl.1.trans hC.2.2.1) hst (lv_room hcat) hd ⟨by rw [hR0]; exact hR.2.2.1, by rw [hR0]; exact hR.2.2.2⟩) hS (fun q _ h => hFc q h) hFc (fun u t H1 locs1 ht hvm hp hB hz1 hk1 hS1 => ?_)
  rw [ht] at hB
  obtain ⟨hP2, hD2⟩ := jj_joinL hP hD hk1 hFc hB.1 hB.2
  exact hk u hp H1 locs1 ls hP2 hD2 hS1 hl
theorem jj_callvR {As0 : List Value} {post : S → Prop} (hC : jj_C cc nL ret Ts own rm tys E) (hM : jj_Mv E.1.2.1 E.2.2.1 tys y wsC rc As ws S post wsS) (hg : GoodIn Ts (wsV own index C y wsC)) (hw : wsC = .code y bytes maxL rt :: wsC') (np : Nat) (hdy : y.cls = C ∧ y.cls ≠ "java/lang/invoke/MethodHandle" ∧ y.cls ≠ "java/lang/invoke/VarHandle" ∧ (parseMethodDescriptor y.desc).map (fun d => d.parameters.length) = some np) (hR : rc.frames + 1 ≤ rm.frames ∧ 8 + (maxL + 11) + rc.locals ≤ rm.locals ∧ k + rc.cells ≤ rm.cells ∧ n + rc.slots ≤ rm.slots) (q0 ci : Nat) {T : u_T} {N : Nat} {fs : List Value} (he : ws[q0]? = some (b, .inr (ci, fs))) (hc : vwCl[ci]? = some (C, T, N)) (hAs : As = .ref b :: As0) (hst : st0 = As0.reverse ++ .ref b :: rest) (hn : As0.length = np) (hcat : (rest.map fun v => v.category).sum ≤ 8) (hd : decode cc pc = .ok (.invokevirtual index, 3)) (hk : ∀ (u : S), post u → jj_J E (k + rc.cells) (n + rc.slots) Q (wr ++ wsS u) (pc + 3) lv (rest)) : jj_J E k n Q (wr ++ ws) pc lv st0 := by
  intro H locs ls hP hD hS hl
  subst hAs
  have hR0 : E.1.2.2.2 = rm := hC.2.2.2.2.2.2.2.2.2
  have hPc : va_P E.2.2.1 vwCl ws H := jj_Pr hP
  have hDc : va_D E.2.2.2 ws := jj_Dr hD
  have hFc := jj_own hDc hS hC.2.2.2.2.2.2.1
  refine va_callv (va_runV (As := As0) (rest := rest) ⟨hC.1, hC.2.1, hC.2.2.1, hC.2.2.2.1, hC.2.2.2.2.1⟩ (hM H.size) (cwV np hC.2.2.2.2.1 hg hw rfl rfl hdy ⟨by rw [hR0]; exact hR.1, by rw [hR0]; exact hR.2.1⟩) ⟨jj_blind, va_recv hC.2.2.2.2.2.1 hPc hc he, fun U hU hW => ⟨rfl, by rw [hU], by rw [hU]; exact hPc, va_K.moved hW.alike hC.2.2.2.2.2.1, hDc.weaken (fun _ _ _ _ => trivial)⟩⟩ rfl hn (hl.1.trans hC.2.2.1) hst (lv_room hcat) hd ⟨by rw [hR0]; exact hR.2.2.1, by rw [hR0]; exact hR.2.2.2⟩) hS (fun q _ h => hFc q h) hFc (fun u t H1 locs1 ht hvm hp hB hz1 hk1 hS1 => ?_)
  rw [ht] at hB
  obtain ⟨hP2, hD2⟩ := jj_joinR hP hD hk1 hFc hB.1 hB.2
  exact hk u hp H1 locs1 ls hP2 hD2 hS1 hl
theorem jj_scallvR {As0 : List Value} {post : S → Prop} (hC : jj_C cc nL ret Ts own rm tys E) (hM : jj_Mv E.1.2.1 E.2.2.1 tys y wsC rc As ws S post wsS) (hg : GoodIn Ts (va_wsS own index y wsC)) (hw : wsC = .code y bytes maxL rt :: wsC') (np : Nat) (hdy : y.cls ≠ "java/lang/invoke/MethodHandle" ∧ y.cls ≠ "java/lang/invoke/VarHandle" ∧ (parseMethodDescriptor y.desc).map (fun d => d.parameters.length) = some np) (hR : rc.frames + 1 ≤ rm.frames ∧ 8 + (maxL + 11) + rc.locals ≤ rm.locals ∧ k + rc.cells ≤ rm.cells ∧ n + rc.slots ≤ rm.slots) (hAs : As = As0) (hst : st0 = As0.reverse ++ rest) (hn : As0.length = np) (hcat : (rest.map fun v => v.category).sum ≤ 8) (hd : decode cc pc = .ok (.invokestatic index, 3)) (hk : ∀ (u : S), post u → jj_J E (k + rc.cells) (n + rc.slots) Q (wr ++ wsS u) (pc + 3) lv (rest)) : jj_J E k n Q (wr ++ ws) pc lv st0 := by
  intro H locs ls hP hD hS hl
  subst hAs
  have hR0 : E.1.2.2.2 = rm := hC.2.2.2.2.2.2.2.2.2
  have hPc : va_P E.2.2.1 vwCl ws H := jj_Pr hP
  have hDc : va_D E.2.2.2 ws := jj_Dr hD
  have hFc := jj_own hDc hS hC.2.2.2.2.2.2.1
  refine va_callv (va_runS (As := As) (rest := rest) ⟨hC.1, hC.2.1, hC.2.2.1, hC.2.2.2.1, hC.2.2.2.2.1⟩ (hM H.size) (va_cwS np hC.2.2.2.2.1 hg hw rfl rfl hdy ⟨by rw [hR0]; exact hR.1, by rw [hR0]; exact hR.2.1⟩) ⟨jj_blind, fun U hU hW => ⟨rfl, by rw [hU], by rw [hU]; exact hPc, va_K.moved hW.alike hC.2.2.2.2.2.1, hDc.weaken (fun _ _ _ _ => trivial)⟩⟩ rfl hn (hl.1.trans hC.2.2.1) hst (lv_room hcat) hd ⟨by rw [hR0]; exact hR.2.2.1, by rw [hR0]; exact hR.2.2.2⟩) hS (fun q _ h => hFc q h) hFc (fun u t H1 locs1 ht hvm hp hB hz1 hk1 hS1 => ?_)
  rw [ht] at hB
  obtain ⟨hP2, hD2⟩ := jj_joinR hP hD hk1 hFc hB.1 hB.2
  exact hk u hp H1 locs1 ls hP2 hD2 hS1 hl
theorem jj_calll {As0 : List Value} {post : Int64 → S → Prop} (hC : jj_C cc nL ret Ts own rm tys E) (hM : jj_Ml E.1.2.1 E.2.2.1 tys y wsC rc As ws S post wsS) (hg : GoodIn Ts (wsV own index C y wsC)) (hw : wsC = .code y bytes maxL rt :: wsC') (np : Nat) (hdy : y.cls = C ∧ y.cls ≠ "java/lang/invoke/MethodHandle" ∧ y.cls ≠ "java/lang/invoke/VarHandle" ∧ (parseMethodDescriptor y.desc).map (fun d => d.parameters.length) = some np) (hR : rc.frames + 1 ≤ rm.frames ∧ 8 + (maxL + 11) + rc.locals ≤ rm.locals ∧ k + rc.cells ≤ rm.cells ∧ n + rc.slots ≤ rm.slots) (q0 ci : Nat) {T : u_T} {N : Nat} {fs : List Value} (he : ws[q0]? = some (b, .inr (ci, fs))) (hc : vwCl[ci]? = some (C, T, N)) (hAs : As = .ref b :: As0) (hst : st0 = As0.reverse ++ .ref b :: rest) (hn : As0.length = np) (hcat : (rest.map fun v => v.category).sum ≤ 8) (hd : decode cc pc = .ok (.invokevirtual index, 3)) (hk : ∀ (r : Int64) (u : S), post r u → jj_J E (k + rc.cells) (n + rc.slots) Q (wsS u) (pc + 3) lv (.long r :: rest)) : jj_J E k n Q ws pc lv st0 := by
  intro H locs ls hP hD hS hl
  subst hAs
  have hR0 : E.1.2.2.2 = rm := hC.2.2.2.2.2.2.2.2.2
  have hPc : va_P E.2.2.1 vwCl ws H := hP
  have hDc : va_D E.2.2.2 ws := hD
  have hFc := jj_own hDc hS hC.2.2.2.2.2.2.1
  refine va_calll (va_runV (As := As0) (rest := rest) ⟨hC.1, hC.2.1, hC.2.2.1, hC.2.2.2.1, hC.2.2.2.2.1⟩ (hM H.size) (cwV np hC.2.2.2.2.1 hg hw rfl rfl hdy ⟨by rw [hR0]; exact hR.1, by rw [hR0]; exact hR.2.1⟩) ⟨jj_blind, va_recv hC.2.2.2.2.2.1 hPc hc he, fun U hU hW => ⟨rfl, by rw [hU], by rw [hU]; exact hPc, va_K.moved hW.alike hC.2.2.2.2.2.1, hDc.weaken (fun _ _ _ _ => trivial)⟩⟩ rfl hn (hl.1.trans hC.2.2.1) hst (lv_room hcat) hd ⟨by rw [hR0]; exact hR.2.2.1, by rw [hR0]; exact hR.2.2.2⟩) hS (fun q _ h => hFc q h) hFc (fun r u t H1 locs1 ht hvm hp hB hz1 hk1 hS1 => ?_)
  exact hk r u hp H1 locs1 ls (by rw [ht] at hB; exact hB.1) (hB.2.weaken (fun _ q _ h => hFc q.1 h)) hS1 hl
theorem jj_scalll {As0 : List Value} {post : Int64 → S → Prop} (hC : jj_C cc nL ret Ts own rm tys E) (hM : jj_Ml E.1.2.1 E.2.2.1 tys y wsC rc As ws S post wsS) (hg : GoodIn Ts (va_wsS own index y wsC)) (hw : wsC = .code y bytes maxL rt :: wsC') (np : Nat) (hdy : y.cls ≠ "java/lang/invoke/MethodHandle" ∧ y.cls ≠ "java/lang/invoke/VarHandle" ∧ (parseMethodDescriptor y.desc).map (fun d => d.parameters.length) = some np) (hR : rc.frames + 1 ≤ rm.frames ∧ 8 + (maxL + 11) + rc.locals ≤ rm.locals ∧ k + rc.cells ≤ rm.cells ∧ n + rc.slots ≤ rm.slots) (hAs : As = As0) (hst : st0 = As0.reverse ++ rest) (hn : As0.length = np) (hcat : (rest.map fun v => v.category).sum ≤ 8) (hd : decode cc pc = .ok (.invokestatic index, 3)) (hk : ∀ (r : Int64) (u : S), post r u → jj_J E (k + rc.cells) (n + rc.slots) Q (wsS u) (pc + 3) lv (.long r :: rest)) : jj_J E k n Q ws pc lv st0 := by
  intro H locs ls hP hD hS hl
  subst hAs
  have hR0 : E.1.2.2.2 = rm := hC.2.2.2.2.2.2.2.2.2
  have hPc : va_P E.2.2.1 vwCl ws H := hP
  have hDc : va_D E.2.2.2 ws := hD
  have hFc := jj_own hDc hS hC.2.2.2.2.2.2.1
  refine va_calll (va_runS (As := As) (rest := rest) ⟨hC.1, hC.2.1, hC.2.2.1, hC.2.2.2.1, hC.2.2.2.2.1⟩ (hM H.size) (va_cwS np hC.2.2.2.2.1 hg hw rfl rfl hdy ⟨by rw [hR0]; exact hR.1, by rw [hR0]; exact hR.2.1⟩) ⟨jj_blind, fun U hU hW => ⟨rfl, by rw [hU], by rw [hU]; exact hPc, va_K.moved hW.alike hC.2.2.2.2.2.1, hDc.weaken (fun _ _ _ _ => trivial)⟩⟩ rfl hn (hl.1.trans hC.2.2.1) hst (lv_room hcat) hd ⟨by rw [hR0]; exact hR.2.2.1, by rw [hR0]; exact hR.2.2.2⟩) hS (fun q _ h => hFc q h) hFc (fun r u t H1 locs1 ht hvm hp hB hz1 hk1 hS1 => ?_)
  exact hk r u hp H1 locs1 ls (by rw [ht] at hB; exact hB.1) (hB.2.weaken (fun _ q _ h => hFc q.1 h)) hS1 hl
theorem jj_calllL {As0 : List Value} {post : Int64 → S → Prop} (hC : jj_C cc nL ret Ts own rm tys E) (hM : jj_Ml E.1.2.1 E.2.2.1 tys y wsC rc As ws S post wsS) (hg : GoodIn Ts (wsV own index C y wsC)) (hw : wsC = .code y bytes maxL rt :: wsC') (np : Nat) (hdy : y.cls = C ∧ y.cls ≠ "java/lang/invoke/MethodHandle" ∧ y.cls ≠ "java/lang/invoke/VarHandle" ∧ (parseMethodDescriptor y.desc).map (fun d => d.parameters.length) = some np) (hR : rc.frames + 1 ≤ rm.frames ∧ 8 + (maxL + 11) + rc.locals ≤ rm.locals ∧ k + rc.cells ≤ rm.cells ∧ n + rc.slots ≤ rm.slots) (q0 ci : Nat) {T : u_T} {N : Nat} {fs : List Value} (he : ws[q0]? = some (b, .inr (ci, fs))) (hc : vwCl[ci]? = some (C, T, N)) (hAs : As = .ref b :: As0) (hst : st0 = As0.reverse ++ .ref b :: rest) (hn : As0.length = np) (hcat : (rest.map fun v => v.category).sum ≤ 8) (hd : decode cc pc = .ok (.invokevirtual index, 3)) (hk : ∀ (r : Int64) (u : S), post r u → jj_J E (k + rc.cells) (n + rc.slots) Q (wsS u ++ wr) (pc + 3) lv (.long r :: rest)) : jj_J E k n Q (ws ++ wr) pc lv st0 := by
  intro H locs ls hP hD hS hl
  subst hAs
  have hR0 : E.1.2.2.2 = rm := hC.2.2.2.2.2.2.2.2.2
  have hPc : va_P E.2.2.1 vwCl ws H := jj_Pl hP
  have hDc : va_D E.2.2.2 ws := jj_Dl hD
  have hFc := jj_own hDc hS hC.2.2.2.2.2.2.1
  refine va_calll (va_runV (As := As0) (rest := rest) ⟨hC.1, hC.2.1, hC.2.2.1, hC.2.2.2.1, hC.2.2.2.2.1⟩ (hM H.size) (cwV np hC.2.2.2.2.1 hg hw rfl rfl hdy ⟨by rw [hR0]; exact hR.1, by rw [hR0]; exact hR.2.1⟩) ⟨jj_blind, va_recv hC.2.2.2.2.2.1 hPc hc he, fun U hU hW => ⟨rfl, by rw [hU], by rw [hU]; exact hPc, va_K.moved hW.alike hC.2.2.2.2.2.1, hDc.weaken (fun _ _ _ _ => trivial)⟩⟩ rfl hn (hl.1.trans hC.2.2.1) hst (lv_room hcat) hd ⟨by rw [hR0]; exact hR.2.2.1, by rw [hR0]; exact hR.2.2.2⟩) hS (fun q _ h => hFc q h) hFc (fun r u t H1 locs1 ht hvm hp hB hz1 hk1 hS1 => ?_)
  rw [ht] at hB
  obtain ⟨hP2, hD2⟩ := jj_joinL hP hD hk1 hFc hB.1 hB.2
  exact hk r u hp H1 locs1 ls hP2 hD2 hS1 hl
theorem jj_scalllL {As0 : List Value} {post : Int64 → S → Prop} (hC : jj_C cc nL ret Ts own rm tys E) (hM : jj_Ml E.1.2.1 E.2.2.1 tys y wsC rc As ws S post wsS) (hg : GoodIn Ts (va_wsS own index y wsC)) (hw : wsC = .code y bytes maxL rt :: wsC') (np : Nat) (hdy : y.cls ≠ "java/lang/invoke/MethodHandle" ∧ y.cls ≠ "java/lang/invoke/VarHandle" ∧ (parseMethodDescriptor y.desc).map (fun d => d.parameters.length) = some np) (hR : rc.frames + 1 ≤ rm.frames ∧ 8 + (maxL + 11) + rc.locals ≤ rm.locals ∧ k + rc.cells ≤ rm.cells ∧ n + rc.slots ≤ rm.slots) (hAs : As = As0) (hst : st0 = As0.reverse ++ rest) (hn : As0.length = np) (hcat : (rest.map fun v => v.category).sum ≤ 8) (hd : decode cc pc = .ok (.invokestatic index, 3)) (hk : ∀ (r : Int64) (u : S), post r u → jj_J E (k + rc.cells) (n + rc.slots) Q (wsS u ++ wr) (pc + 3) lv (.long r :: rest)) : jj_J E k n Q (ws ++ wr) pc lv st0 := by
  intro H locs ls hP hD hS hl
  subst hAs
  have hR0 : E.1.2.2.2 = rm := hC.2.2.2.2.2.2.2.2.2
  have hPc : va_P E.2.2.1 vwCl ws H := jj_Pl hP
  have hDc : va_D E.2.2.2 ws := jj_Dl hD
  have hFc := jj_own hDc hS hC.2.2.2.2.2.2.1
  refine va_calll (va_runS (As := As) (rest := rest) ⟨hC.1, hC.2.1, hC.2.2.1, hC.2.2.2.1, hC.2.2.2.2.1⟩ (hM H.size) (va_cwS np hC.2.2.2.2.1 hg hw rfl rfl hdy ⟨by rw [hR0]; exact hR.1, by rw [hR0]; exact hR.2.1⟩) ⟨jj_blind, fun U hU hW => ⟨rfl, by rw [hU], by rw [hU]; exact hPc, va_K.moved hW.alike hC.2.2.2.2.2.1, hDc.weaken (fun _ _ _ _ => trivial)⟩⟩ rfl hn (hl.1.trans hC.2.2.1) hst (lv_room hcat) hd ⟨by rw [hR0]; exact hR.2.2.1, by rw [hR0]; exact hR.2.2.2⟩) hS (fun q _ h => hFc q h) hFc (fun r u t H1 locs1 ht hvm hp hB hz1 hk1 hS1 => ?_)
  rw [ht] at hB
  obtain ⟨hP2, hD2⟩ := jj_joinL hP hD hk1 hFc hB.1 hB.2
  exact hk r u hp H1 locs1 ls hP2 hD2 hS1 hl
theorem jj_calllR {As0 : List Value} {post : Int64 → S → Prop} (hC : jj_C cc nL ret Ts own rm tys E) (hM : jj_Ml E.1.2.1 E.2.2.1 tys y wsC rc As ws S post wsS) (hg : GoodIn Ts (wsV own index C y wsC)) (hw : wsC = .code y bytes maxL rt :: wsC') (np : Nat) (hdy : y.cls = C ∧ y.cls ≠ "java/lang/invoke/MethodHandle" ∧ y.cls ≠ "java/lang/invoke/VarHandle" ∧ (parseMethodDescriptor y.desc).map (fun d => d.parameters.length) = some np) (hR : rc.frames + 1 ≤ rm.frames ∧ 8 + (maxL + 11) + rc.locals ≤ rm.locals ∧ k + rc.cells ≤ rm.cells ∧ n + rc.slots ≤ rm.slots) (q0 ci : Nat) {T : u_T} {N : Nat} {fs : List Value} (he : ws[q0]? = some (b, .inr (ci, fs))) (hc : vwCl[ci]? = some (C, T, N)) (hAs : As = .ref b :: As0) (hst : st0 = As0.reverse ++ .ref b :: rest) (hn : As0.length = np) (hcat : (rest.map fun v => v.category).sum ≤ 8) (hd : decode cc pc = .ok (.invokevirtual index, 3)) (hk : ∀ (r : Int64) (u : S), post r u → jj_J E (k + rc.cells) (n + rc.slots) Q (wr ++ wsS u) (pc + 3) lv (.long r :: rest)) : jj_J E k n Q (wr ++ ws) pc lv st0 := by
  intro H locs ls hP hD hS hl
  subst hAs
  have hR0 : E.1.2.2.2 = rm := hC.2.2.2.2.2.2.2.2.2
  have hPc : va_P E.2.2.1 vwCl ws H := jj_Pr hP
  have hDc : va_D E.2.2.2 ws := jj_Dr hD
  have hFc := jj_own hDc hS hC.2.2.2.2.2.2.1
  refine va_calll (va_runV (As := As0) (rest := rest) ⟨hC.1, hC.2.1, hC.2.2.1, hC.2.2.2.1, hC.2.2.2.2.1⟩ (hM H.size) (cwV np hC.2.2.2.2.1 hg hw rfl rfl hdy ⟨by rw [hR0]; exact hR.1, by rw [hR0]; exact hR.2.1⟩) ⟨jj_blind, va_recv hC.2.2.2.2.2.1 hPc hc he, fun U hU hW => ⟨rfl, by rw [hU], by rw [hU]; exact hPc, va_K.moved hW.alike hC.2.2.2.2.2.1, hDc.weaken (fun _ _ _ _ => trivial)⟩⟩ rfl hn (hl.1.trans hC.2.2.1) hst (lv_room hcat) hd ⟨by rw [hR0]; exact hR.2.2.1, by rw [hR0]; exact hR.2.2.2⟩) hS (fun q _ h => hFc q h) hFc (fun r u t H1 locs1 ht hvm hp hB hz1 hk1 hS1 => ?_)
  rw [ht] at hB
  obtain ⟨hP2, hD2⟩ := jj_joinR hP hD hk1 hFc hB.1 hB.2
  exact hk r u hp H1 locs1 ls hP2 hD2 hS1 hl
theorem jj_scalllR {As0 : List Value} {post : Int64 → S → Prop} (hC : jj_C cc nL ret Ts own rm tys E) (hM : jj_Ml E.1.2.1 E.2.2.1 tys y wsC rc As ws S post wsS) (hg : GoodIn Ts (va_wsS own index y wsC)) (hw : wsC = .code y bytes maxL rt :: wsC') (np : Nat) (hdy : y.cls ≠ "java/lang/invoke/MethodHandle" ∧ y.cls ≠ "java/lang/invoke/VarHandle" ∧ (parseMethodDescriptor y.desc).map (fun d => d.parameters.length) = some np) (hR : rc.frames + 1 ≤ rm.frames ∧ 8 + (maxL + 11) + rc.locals ≤ rm.locals ∧ k + rc.cells ≤ rm.cells ∧ n + rc.slots ≤ rm.slots) (hAs : As = As0) (hst : st0 = As0.reverse ++ rest) (hn : As0.length = np) (hcat : (rest.map fun v => v.category).sum ≤ 8) (hd : decode cc pc = .ok (.invokestatic index, 3)) (hk : ∀ (r : Int64) (u : S), post r u → jj_J E (k + rc.cells) (n + rc.slots) Q (wr ++ wsS u) (pc + 3) lv (.long r :: rest)) : jj_J E k n Q (wr ++ ws) pc lv st0 := by
  intro H locs ls hP hD hS hl
  subst hAs
  have hR0 : E.1.2.2.2 = rm := hC.2.2.2.2.2.2.2.2.2
  have hPc : va_P E.2.2.1 vwCl ws H := jj_Pr hP
  have hDc : va_D E.2.2.2 ws := jj_Dr hD
  have hFc := jj_own hDc hS hC.2.2.2.2.2.2.1
  refine va_calll (va_runS (As := As) (rest := rest) ⟨hC.1, hC.2.1, hC.2.2.1, hC.2.2.2.1, hC.2.2.2.2.1⟩ (hM H.size) (va_cwS np hC.2.2.2.2.1 hg hw rfl rfl hdy ⟨by rw [hR0]; exact hR.1, by rw [hR0]; exact hR.2.1⟩) ⟨jj_blind, fun U hU hW => ⟨rfl, by rw [hU], by rw [hU]; exact hPc, va_K.moved hW.alike hC.2.2.2.2.2.1, hDc.weaken (fun _ _ _ _ => trivial)⟩⟩ rfl hn (hl.1.trans hC.2.2.1) hst (lv_room hcat) hd ⟨by rw [hR0]; exact hR.2.2.1, by rw [hR0]; exact hR.2.2.2⟩) hS (fun q _ h => hFc q h) hFc (fun r u t H1 locs1 ht hvm hp hB hz1 hk1 hS1 => ?_)
  rw [ht] at hB
  obtain ⟨hP2, hD2⟩ := jj_joinR hP hD hk1 hFc hB.1 hB.2
  exact hk r u hp H1 locs1 ls hP2 hD2 hS1 hl
theorem jj_calld {As0 : List Value} {post : UInt64 → S → Prop} (hC : jj_C cc nL ret Ts own rm tys E) (hM : jj_Md E.1.2.1 E.2.2.1 tys y wsC rc As ws S post wsS) (hg : GoodIn Ts (wsV own index C y wsC)) (hw : wsC = .code y bytes maxL rt :: wsC') (np : Nat) (hdy : y.cls = C ∧ y.cls ≠ "java/lang/invoke/MethodHandle" ∧ y.cls ≠ "java/lang/invoke/VarHandle" ∧ (parseMethodDescriptor y.desc).map (fun d => d.parameters.length) = some np) (hR : rc.frames + 1 ≤ rm.frames ∧ 8 + (maxL + 11) + rc.locals ≤ rm.locals ∧ k + rc.cells ≤ rm.cells ∧ n + rc.slots ≤ rm.slots) (q0 ci : Nat) {T : u_T} {N : Nat} {fs : List Value} (he : ws[q0]? = some (b, .inr (ci, fs))) (hc : vwCl[ci]? = some (C, T, N)) (hAs : As = .ref b :: As0) (hst : st0 = As0.reverse ++ .ref b :: rest) (hn : As0.length = np) (hcat : (rest.map fun v => v.category).sum ≤ 8) (hd : decode cc pc = .ok (.invokevirtual index, 3)) (hk : ∀ (r : UInt64) (u : S), post r u → jj_J E (k + rc.cells) (n + rc.slots) Q (wsS u) (pc + 3) lv (.double r :: rest)) : jj_J E k n Q ws pc lv st0 := by
  intro H locs ls hP hD hS hl
  subst hAs
  have hR0 : E.1.2.2.2 = rm := hC.2.2.2.2.2.2.2.2.2
  have hPc : va_P E.2.2.1 vwCl ws H := hP
  have hDc : va_D E.2.2.2 ws := hD
  have hFc := jj_own hDc hS hC.2.2.2.2.2.2.1
  refine va_calld (va_runV (As := As0) (rest := rest) ⟨hC.1, hC.2.1, hC.2.2.1, hC.2.2.2.1, hC.2.2.2.2.1⟩ (hM H.size) (cwV np hC.2.2.2.2.1 hg hw rfl rfl hdy ⟨by rw [hR0]; exact hR.1, by rw [hR0]; exact hR.2.1⟩) ⟨jj_blind, va_recv hC.2.2.2.2.2.1 hPc hc he, fun U hU hW => ⟨rfl, by rw [hU], by rw [hU]; exact hPc, va_K.moved hW.alike hC.2.2.2.2.2.1, hDc.weaken (fun _ _ _ _ => trivial)⟩⟩ rfl hn (hl.1.trans hC.2.2.1) hst (lv_room hcat) hd ⟨by rw [hR0]; exact hR.2.2.1, by rw [hR0]; exact hR.2.2.2⟩) hS (fun q _ h => hFc q h) hFc (fun r u t H1 locs1 ht hvm hp hB hz1 hk1 hS1 => ?_)
  exact hk r u hp H1 locs1 ls (by rw [ht] at hB; exact hB.1) (hB.2.weaken (fun _ q _ h => hFc q.1 h)) hS1 hl
theorem jj_scalld {As0 : List Value} {post : UInt64 → S → Prop} (hC : jj_C cc nL ret Ts own rm tys E) (hM : jj_Md E.1.2.1 E.2.2.1 tys y wsC rc As ws S post wsS) (hg : GoodIn Ts (va_wsS own index y wsC)) (hw : wsC = .code y bytes maxL rt :: wsC') (np : Nat) (hdy : y.cls ≠ "java/lang/invoke/MethodHandle" ∧ y.cls ≠ "java/lang/invoke/VarHandle" ∧ (parseMethodDescriptor y.desc).map (fun d => d.parameters.length) = some np) (hR : rc.frames + 1 ≤ rm.frames ∧ 8 + (maxL + 11) + rc.locals ≤ rm.locals ∧ k + rc.cells ≤ rm.cells ∧ n + rc.slots ≤ rm.slots) (hAs : As = As0) (hst : st0 = As0.reverse ++ rest) (hn : As0.length = np) (hcat : (rest.map fun v => v.category).sum ≤ 8) (hd : decode cc pc = .ok (.invokestatic index, 3)) (hk : ∀ (r : UInt64) (u : S), post r u → jj_J E (k + rc.cells) (n + rc.slots) Q (wsS u) (pc + 3) lv (.double r :: rest)) : jj_J E k n Q ws pc lv st0 := by
  intro H locs ls hP hD hS hl
  subst hAs
  have hR0 : E.1.2.2.2 = rm := hC.2.2.2.2.2.2.2.2.2
  have hPc : va_P E.2.2.1 vwCl ws H := hP
  have hDc : va_D E.2.2.2 ws := hD
  have hFc := jj_own hDc hS hC.2.2.2.2.2.2.1
  refine va_calld (va_runS (As := As) (rest := rest) ⟨hC.1, hC.2.1, hC.2.2.1, hC.2.2.2.1, hC.2.2.2.2.1⟩ (hM H.size) (va_cwS np hC.2.2.2.2.1 hg hw rfl rfl hdy ⟨by rw [hR0]; exact hR.1, by rw [hR0]; exact hR.2.1⟩) ⟨jj_blind, fun U hU hW => ⟨rfl, by rw [hU], by rw [hU]; exact hPc, va_K.moved hW.alike hC.2.2.2.2.2.1, hDc.weaken (fun _ _ _ _ => trivial)⟩⟩ rfl hn (hl.1.trans hC.2.2.1) hst (lv_room hcat) hd ⟨by rw [hR0]; exact hR.2.2.1, by rw [hR0]; exact hR.2.2.2⟩) hS (fun q _ h => hFc q h) hFc (fun r u t H1 locs1 ht hvm hp hB hz1 hk1 hS1 => ?_)
  exact hk r u hp H1 locs1 ls (by rw [ht] at hB; exact hB.1) (hB.2.weaken (fun _ q _ h => hFc q.1 h)) hS1 hl
theorem jj_calldL {As0 : List Value} {post : UInt64 → S → Prop} (hC : jj_C cc nL ret Ts own rm tys E) (hM : jj_Md E.1.2.1 E.2.2.1 tys y wsC rc As ws S post wsS) (hg : GoodIn Ts (wsV own index C y wsC)) (hw : wsC = .code y bytes maxL rt :: wsC') (np : Nat) (hdy : y.cls = C ∧ y.cls ≠ "java/lang/invoke/MethodHandle" ∧ y.cls ≠ "java/lang/invoke/VarHandle" ∧ (parseMethodDescriptor y.desc).map (fun d => d.parameters.length) = some np) (hR : rc.frames + 1 ≤ rm.frames ∧ 8 + (maxL + 11) + rc.locals ≤ rm.locals ∧ k + rc.cells ≤ rm.cells ∧ n + rc.slots ≤ rm.slots) (q0 ci : Nat) {T : u_T} {N : Nat} {fs : List Value} (he : ws[q0]? = some (b, .inr (ci, fs))) (hc : vwCl[ci]? = some (C, T, N)) (hAs : As = .ref b :: As0) (hst : st0 = As0.reverse ++ .ref b :: rest) (hn : As0.length = np) (hcat : (rest.map fun v => v.category).sum ≤ 8) (hd : decode cc pc = .ok (.invokevirtual index, 3)) (hk : ∀ (r : UInt64) (u : S), post r u → jj_J E (k + rc.cells) (n + rc.slots) Q (wsS u ++ wr) (pc + 3) lv (.double r :: rest)) : jj_J E k n Q (ws ++ wr) pc lv st0 := by
  intro H locs ls hP hD hS hl
  subst hAs
  have hR0 : E.1.2.2.2 = rm := hC.2.2.2.2.2.2.2.2.2
  have hPc : va_P E.2.2.1 vwCl ws H := jj_Pl hP
  have hDc : va_D E.2.2.2 ws := jj_Dl hD
  have hFc := jj_own hDc hS hC.2.2.2.2.2.2.1
  refine va_calld (va_runV (As := As0) (rest := rest) ⟨hC.1, hC.2.1, hC.2.2.1, hC.2.2.2.1, hC.2.2.2.2.1⟩ (hM H.size) (cwV np hC.2.2.2.2.1 hg hw rfl rfl hdy ⟨by rw [hR0]; exact hR.1, by rw [hR0]; exact hR.2.1⟩) ⟨jj_blind, va_recv hC.2.2.2.2.2.1 hPc hc he, fun U hU hW => ⟨rfl, by rw [hU], by rw [hU]; exact hPc, va_K.moved hW.alike hC.2.2.2.2.2.1, hDc.weaken (fun _ _ _ _ => trivial)⟩⟩ rfl hn (hl.1.trans hC.2.2.1) hst (lv_room hcat) hd ⟨by rw [hR0]; exact hR.2.2.1, by rw [hR0]; exact hR.2.2.2⟩) hS (fun q _ h => hFc q h) hFc (fun r u t H1 locs1 ht hvm hp hB hz1 hk1 hS1 => ?_)
  rw [ht] at hB
  obtain ⟨hP2, hD2⟩ := jj_joinL hP hD hk1 hFc hB.1 hB.2
  exact hk r u hp H1 locs1 ls hP2 hD2 hS1 hl
theorem jj_scalldL {As0 : List Value} {post : UInt64 → S → Prop} (hC : jj_C cc nL ret Ts own rm tys E) (hM : jj_Md E.1.2.1 E.2.2.1 tys y wsC rc As ws S post wsS) (hg : GoodIn Ts (va_wsS own index y wsC)) (hw : wsC = .code y bytes maxL rt :: wsC') (np : Nat) (hdy : y.cls ≠ "java/lang/invoke/MethodHandle" ∧ y.cls ≠ "java/lang/invoke/VarHandle" ∧ (parseMethodDescriptor y.desc).map (fun d => d.parameters.length) = some np) (hR : rc.frames + 1 ≤ rm.frames ∧ 8 + (maxL + 11) + rc.locals ≤ rm.locals ∧ k + rc.cells ≤ rm.cells ∧ n + rc.slots ≤ rm.slots) (hAs : As = As0) (hst : st0 = As0.reverse ++ rest) (hn : As0.length = np) (hcat : (rest.map fun v => v.category).sum ≤ 8) (hd : decode cc pc = .ok (.invokestatic index, 3)) (hk : ∀ (r : UInt64) (u : S), post r u → jj_J E (k + rc.cells) (n + rc.slots) Q (wsS u ++ wr) (pc + 3) lv (.double r :: rest)) : jj_J E k n Q (ws ++ wr) pc lv st0 := by
  intro H locs ls hP hD hS hl
  subst hAs
  have hR0 : E.1.2.2.2 = rm := hC.2.2.2.2.2.2.2.2.2
  have hPc : va_P E.2.2.1 vwCl ws H := jj_Pl hP
  have hDc : va_D E.2.2.2 ws := jj_Dl hD
  have hFc := jj_own hDc hS hC.2.2.2.2.2.2.1
  refine va_calld (va_runS (As := As) (rest := rest) ⟨hC.1, hC.2.1, hC.2.2.1, hC.2.2.2.1, hC.2.2.2.2.1⟩ (hM H.size) (va_cwS np hC.2.2.2.2.1 hg hw rfl rfl hdy ⟨by rw [hR0]; exact hR.1, by rw [hR0]; exact hR.2.1⟩) ⟨jj_blind, fun U hU hW => ⟨rfl, by rw [hU], by rw [hU]; exact hPc, va_K.moved hW.alike hC.2.2.2.2.2.1, hDc.weaken (fun _ _ _ _ => trivial)⟩⟩ rfl hn (hl.1.trans hC.2.2.1) hst (lv_room hcat) hd ⟨by rw [hR0]; exact hR.2.2.1, by rw [hR0]; exact hR.2.2.2⟩) hS (fun q _ h => hFc q h) hFc (fun r u t H1 locs1 ht hvm hp hB hz1 hk1 hS1 => ?_)
  rw [ht] at hB
  obtain ⟨hP2, hD2⟩ := jj_joinL hP hD hk1 hFc hB.1 hB.2
  exact hk r u hp H1 locs1 ls hP2 hD2 hS1 hl
theorem jj_calldR {As0 : List Value} {post : UInt64 → S → Prop} (hC : jj_C cc nL ret Ts own rm tys E) (hM : jj_Md E.1.2.1 E.2.2.1 tys y wsC rc As ws S post wsS) (hg : GoodIn Ts (wsV own index C y wsC)) (hw : wsC = .code y bytes maxL rt :: wsC') (np : Nat) (hdy : y.cls = C ∧ y.cls ≠ "java/lang/invoke/MethodHandle" ∧ y.cls ≠ "java/lang/invoke/VarHandle" ∧ (parseMethodDescriptor y.desc).map (fun d => d.parameters.length) = some np) (hR : rc.frames + 1 ≤ rm.frames ∧ 8 + (maxL + 11) + rc.locals ≤ rm.locals ∧ k + rc.cells ≤ rm.cells ∧ n + rc.slots ≤ rm.slots) (q0 ci : Nat) {T : u_T} {N : Nat} {fs : List Value} (he : ws[q0]? = some (b, .inr (ci, fs))) (hc : vwCl[ci]? = some (C, T, N)) (hAs : As = .ref b :: As0) (hst : st0 = As0.reverse ++ .ref b :: rest) (hn : As0.length = np) (hcat : (rest.map fun v => v.category).sum ≤ 8) (hd : decode cc pc = .ok (.invokevirtual index, 3)) (hk : ∀ (r : UInt64) (u : S), post r u → jj_J E (k + rc.cells) (n + rc.slots) Q (wr ++ wsS u) (pc + 3) lv (.double r :: rest)) : jj_J E k n Q (wr ++ ws) pc lv st0 := by
  intro H locs ls hP hD hS hl
  subst hAs
  have hR0 : E.1.2.2.2 = rm := hC.2.2.2.2.2.2.2.2.2
  have hPc : va_P E.2.2.1 vwCl ws H := jj_Pr hP
  have hDc : va_D E.2.2.2 ws := jj_Dr hD
  have hFc := jj_own hDc hS hC.2.2.2.2.2.2.1
  refine va_calld (va_runV (As := As0) (rest := rest) ⟨hC.1, hC.2.1, hC.2.2.1, hC.2.2.2.1, hC.2.2.2.2.1⟩ (hM H.size) (cwV np hC.2.2.2.2.1 hg hw rfl rfl hdy ⟨by rw [hR0]; exact hR.1, by rw [hR0]; exact hR.2.1⟩) ⟨jj_blind, va_recv hC.2.2.2.2.2.1 hPc hc he, fun U hU hW => ⟨rfl, by rw [hU], by rw [hU]; exact hPc, va_K.moved hW.alike hC.2.2.2.2.2.1, hDc.weaken (fun _ _ _ _ => trivial)⟩⟩ rfl hn (hl.1.trans hC.2.2.1) hst (lv_room hcat) hd ⟨by rw [hR0]; exact hR.2.2.1, by rw [hR0]; exact hR.2.2.2⟩) hS (fun q _ h => hFc q h) hFc (fun r u t H1 locs1 ht hvm hp hB hz1 hk1 hS1 => ?_)
  rw [ht] at hB
  obtain ⟨hP2, hD2⟩ := jj_joinR hP hD hk1 hFc hB.1 hB.2
  exact hk r u hp H1 locs1 ls hP2 hD2 hS1 hl
theorem jj_scalldR {As0 : List Value} {post : UInt64 → S → Prop} (hC : jj_C cc nL ret Ts own rm tys E) (hM : jj_Md E.1.2.1 E.2.2.1 tys y wsC rc As ws S post wsS) (hg : GoodIn Ts (va_wsS own index y wsC)) (hw : wsC = .code y bytes maxL rt :: wsC') (np : Nat) (hdy : y.cls ≠ "java/lang/invoke/MethodHandle" ∧ y.cls ≠ "java/lang/invoke/VarHandle" ∧ (parseMethodDescriptor y.desc).map (fun d => d.parameters.length) = some np) (hR : rc.frames + 1 ≤ rm.frames ∧ 8 + (maxL + 11) + rc.locals ≤ rm.locals ∧ k + rc.cells ≤ rm.cells ∧ n + rc.slots ≤ rm.slots) (hAs : As = As0) (hst : st0 = As0.reverse ++ rest) (hn : As0.length = np) (hcat : (rest.map fun v => v.category).sum ≤ 8) (hd : decode cc pc = .ok (.invokestatic index, 3)) (hk : ∀ (r : UInt64) (u : S), post r u → jj_J E (k + rc.cells) (n + rc.slots) Q (wr ++ wsS u) (pc + 3) lv (.double r :: rest)) : jj_J E k n Q (wr ++ ws) pc lv st0 := by
  intro H locs ls hP hD hS hl
  subst hAs
  have hR0 : E.1.2.2.2 = rm := hC.2.2.2.2.2.2.2.2.2
  have hPc : va_P E.2.2.1 vwCl ws H := jj_Pr hP
  have hDc : va_D E.2.2.2 ws := jj_Dr hD
  have hFc := jj_own hDc hS hC.2.2.2.2.2.2.1
  refine va_calld (va_runS (As := As) (rest := rest) ⟨hC.1, hC.2.1, hC.2.2.1, hC.2.2.2.1, hC.2.2.2.2.1⟩ (hM H.size) (va_cwS np hC.2.2.2.2.1 hg hw rfl rfl hdy ⟨by rw [hR0]; exact hR.1, by rw [hR0]; exact hR.2.1⟩) ⟨jj_blind, fun U hU hW => ⟨rfl, by rw [hU], by rw [hU]; exact hPc, va_K.moved hW.alike hC.2.2.2.2.2.1, hDc.weaken (fun _ _ _ _ => trivial)⟩⟩ rfl hn (hl.1.trans hC.2.2.1) hst (lv_room hcat) hd ⟨by rw [hR0]; exact hR.2.2.1, by rw [hR0]; exact hR.2.2.2⟩) hS (fun q _ h => hFc q h) hFc (fun r u t H1 locs1 ht hvm hp hB hz1 hk1 hS1 => ?_)
  rw [ht] at hB
  obtain ⟨hP2, hD2⟩ := jj_joinR hP hD hk1 hFc hB.1 hB.2
  exact hk r u hp H1 locs1 ls hP2 hD2 hS1 hl
end CALLS
