/-! ===== the law's own calls: an exception is a number ===== -/
def jj_XN (U : State) : Prop := va_Nc jj_IA jj_IO U ∧ va_Nc jj_IS jj_IO U ∧ va_Nc jj_IS jj_IA U
theorem jj_XN.moved {u U : State} (hvm : u.vm.Alike U.vm) (h : jj_XN u) : jj_XN U := ⟨h.1.moved hvm, h.2.1.moved hvm, h.2.2.moved hvm⟩
abbrev jj_BW (l : Launch) (D : va_G) (tys : List (ClassId × FieldType)) (ws : va_W) (sz : Nat) (As : List Value) : Array Value → State → Prop := va_Pc As (fun U => U.heap.size = sz ∧ va_P D vwCl ws U.heap ∧ va_K D vwCl tys U ∧ va_D (fun _ => True) ws ∧ jj_XH (va_A ws sz) U U.heap ∧ jj_XV U ∧ jj_XN U)
theorem jj_blindW {l : Launch} {D : va_G} {tys : List (ClassId × FieldType)} {ws : va_W} {sz : Nat} {As : List Value} : FrameBlind (jj_BW l D tys ws sz As) := fun a U g mk q => by
  obtain ⟨q0, q1, qP, qK, qD, qH, qV, qN⟩ := q
  exact ⟨q0, q1, qP, va_K.moved (u := U) (U := U.calling g mk a) (Vm.Alike.refl U.vm) qK, qD, jj_XH.moved (u := U) (U := U.calling g mk a) (Vm.Alike.refl U.vm) qH, jj_XV.same (s := U) (U := U.calling g mk a) rfl qV, jj_XN.moved (u := U) (U := U.calling g mk a) (Vm.Alike.refl U.vm) qN⟩
def jj_Mw (l : Launch) (D : va_G) (tys : List (ClassId × FieldType)) (y : MethodName) (wsC : List Cond) (rm : Room) (As : List Value) (ws : va_W) (S : Type) (post : Int32 → S → Prop) (wsS : S → va_W) : Prop :=
  ∀ sz : Nat, Met l y wsC rm (jj_BW l D tys ws sz As) (va_Qi post (fun u t => va_P D vwCl (wsS u) t.heap ∧ va_D (va_A ws sz) (wsS u)) (va_A ws sz)) rm.cells rm.slots (va_A ws sz)
theorem jj_ofWH {l : Launch} {y : MethodName} {ws ws' : List Cond} {rm : Room} {Pc : Array Value → State → Prop} {Qc : Array Value → State → Outcome → State → Prop} {mc ms : Nat} {free : Addr → Prop} {cc : ByteArray} {maxL : Nat} {ret : Option FieldType} {hh : List (Nat × Nat × Nat × Nat)}
    (hy : plainName y.cls = true) (hw : ws = Cond.codeWith y cc maxL ret hh :: ws')
    (body : ∀ p e s m args below meth c s₁, BodyLoose p l y (headSpec ws rm) cc maxL ret e s m args below meth c s₁ → c.maxLocals = maxL → Pc args s →
      W p l e (headSpec ws rm).room s m args below meth c s.heap [] 0 0 (MQ below Qc args s mc ms free) (entryFrame m args maxL)) : Met l y ws rm Pc Qc mc ms free := by
  refine MetFree.of_bodyS (code := cc) (maxLocals := maxL) (ret := ret) hy ?_ ?_
  · intro args s m h hn
    obtain ⟨m9, meth, c, hn9, h1, h2, h3, h4, -, h5, h6, -⟩ := Cond.codeWith_spec (atoms_spec (ws := ws) h _ (by rw [hw]; exact List.mem_cons_self))
    cases hn.symm.trans hn9
    exact ⟨meth, c, h1, h2, h3, h4, h5, h6⟩
  · intro p e s m args below meth c s₁ B hml hP _
    have hh0 : s₁.heap = s.heap := by rw [B.state]; rfl
    obtain ⟨t, a1, o, b1, b2, b3⟩ := body p e s m args below meth c s₁ B hml hP s₁ hh0 (Stand.of_body B)
    exact ⟨t, o, a1, b1, b2, b3⟩
theorem jj_metw {cc : ByteArray} {nL : Nat} {rm : Room} {tys : List (ClassId × FieldType)} {ws : va_W} {l : Launch} {D : va_G} {y : MethodName} {wsC ws' : List Cond} {As : List Value} {S : Type} {wsS : S → va_W} {post : Int32 → S → Prop} {ty : FieldType} {hh : List (Nat × Nat × Nat × Nat)} (hy : plainName y.cls = true) (hw : wsC = .codeWith y cc nL (some ty) hh :: ws') (hlen : (lg_sl As).length ≤ nL)
    (body : ∀ (E : jj_E) (Q : State → Prop), jj_C cc nL (some ty) wsC y.cls rm tys E → E.1.2.1 = l → E.2.2.1 = D → va_D E.2.2.2 ws → jj_XH E.2.2.2 E.2.1.1 E.2.1.1.heap → jj_XV E.2.1.1 → jj_XN E.2.1.1 → E.2.1.2.2.2.2.2.exceptionTable.toList = tableOf hh → (∀ (pc : Nat) (lv : List (Nat × Value)) (x : Int32) (u : S), decode cc pc = .ok (.ireturn, 1) → narrow ty (.int x) = .int x → post x u → jj_J E rm.cells rm.slots Q (wsS u) pc lv [.int x]) → jj_J E 0 0 Q ws 0 (lv_args 0 As) []) : jj_Mw l D tys y wsC rm As ws S post wsS := by
  intro sz
  refine jj_ofWH (cc := cc) (maxL := nL) (ret := some ty) (hh := hh) hy hw ?_
  intro p e s m args below meth c s₁ B hml hv
  have hsz := hv.2.1
  have hN := hv.2.2.2.2.2.2.2
  have htab : c.exceptionTable.toList = tableOf hh := vx_table (x := y) B (atoms_spec (ws := wsC) B.pre _ (by rw [hw]; exact List.mem_cons_self))
  refine jj_enterX hlen B hml (⟨hv.1, hv.2.1, hv.2.2.1, hv.2.2.2.1, hv.2.2.2.2.1, hv.2.2.2.2.2.1, hv.2.2.2.2.2.2.1⟩ : jj_BX l D tys ws sz As args s) (fun E hs hE hC hD0 hH hV => body E _ hC (by rw [hE]) (by rw [hE]) (by rw [hE]; exact hD0) (by rw [hE]; exact hH) (by rw [hE]; exact hV) (by rw [hE]; exact hN) (by rw [hE]; exact htab) ?_)
  intro pc lv x u hd hn hp H locs ls hP hD hS hl
  subst hE
  exact W.zret hC.1 hC.2.1 hC.2.2.2.2.2.2.2.1 hn (fun t ht hW => ⟨⟨x, u, rfl, hp, by rw [ht]; exact hP, hD⟩, hS.F ht⟩) hS.2.2 hd hC.2.2.2.2.2.2.2.2.1
theorem jj_catch {cc : ByteArray} {nL : Nat} {ret : Option FieldType} {Ts : List Cond} {own : String} {rm : Room} {tys : List (ClassId × FieldType)} {E : jj_E} {k n : Nat} {Q : State → Prop} {ws : va_W} {pc : Nat} {lv : List (Nat × Value)} {rest : List Value} {Ex name : String} (hC : jj_C cc nL ret Ts own rm tys E) (pre : List ExceptionTableEntry) (x : ExceptionTableEntry) (suf : List ExceptionTableEntry) (hsplit : E.2.1.2.2.2.2.2.exceptionTable.toList = pre ++ x :: suf)
    (hpass : ∀ z ∈ pre, covers z pc = false ∨ (z.catchType ≠ 0 ∧ ∃ nm : String, Cond.classLink own z.catchType nm ∈ Ts ∧ va_Nc Ex nm E.2.1.1)) (hx : covers x pc = true) (h0 : x.catchType ≠ 0) (hlink : Cond.classLink own x.catchType name ∈ Ts) (hcast : va_Nw (.castable Ex name) E.2.1.1) (kk : ∀ q : Nat, jj_J E k n Q ws x.handlerPc lv [.ref q]) : jj_X E k n Q ws pc lv rest Ex := by
  intro H locs ls q9 ce hP hD hS hl h9 hce hcl
  refine vx_catch hC.2.2.2.1 pre x suf hsplit (fun z hz => ?_) hx h0 (hC.2.2.2.2.1 _ hlink) (va_Nw.use rfl hcast) h9 hce hcl (kk q9 H locs ls hP hD hS hl)
  rcases hpass z hz with h | ⟨hz0, nm, h1, h2⟩
  · exact Or.inl h
  · exact Or.inr ⟨hz0, nm, hC.2.2.2.2.1 _ h1, h2⟩
theorem ts_rq {b : Bool} {e Ex : String} (h : ts_req b e = some Ex) : Ex = e := by
  unfold ts_req at h
  split at h
  · cases h
  · exact (Option.some.inj h).symm
theorem ts_rqo {o : Option String} {b : Bool} {e Ex : String} (h : o.or (ts_req b e) = some Ex) : o = some Ex ∨ Ex = e := by
  cases o with
  | none => exact Or.inr (ts_rq (by simpa using h))
  | some w => exact Or.inl (by simpa using h)
abbrev ts_oa (c3 : ClassId) (o : Nat) (y : Nat → Int64) : va_W := [(o, .inl (c3, 1, .inr (.inl y)))]
theorem lcjoin_13 : Cond.classLink RL 13 "java/lang/IllegalStateException" ∈ wsL_join := by decide +kernel
set_option maxRecDepth 100000 in
set_option maxHeartbeats 4000000 in
theorem lm_join (l : Launch) (D : va_G) (a : Nat → Nat) (c1 c2 c3 : ClassId) (v : ts_V) (g : Nat → Int32) (h : Int32) (o : Nat) (y : Nat → Int64) (hl : l.stackTraces = false) (hI : ts_I v)  : jj_Mw l D (ts_T c1 c2 c3) yL_join wsL_join rL_join [.ref (a 0), .ref o] (wx a c1 c2 v g h ++ ts_oa c3 o y) (((Nat → Int32) × Int32) × (Nat → Int64)) (fun r u => r = ts_cd 0 0 1 (ts_req (decide (ts_k v < 7)) jj_IS) ∧ ((ts_req (decide (ts_k v < 7)) jj_IS) = none → u.2 0 = (nI (ts_k v)).toInt64)) (fun u => wx a c1 c2 (ts_if (ts_req (decide (ts_k v < 7)) jj_IS) ((ts_jn v)) v) u.1.1 u.1.2 ++ ts_oa c3 o u.2) := by
  refine jj_metw (cc := cL_join) (nL := 3) (by decide) rfl (Nat.le_of_ble_eq_true rfl) (fun E Q hC hEl hED hD0 hH hV hN htab hret => ?_)
  subst hEl
  show jj_J E 0 0 Q (wx a c1 c2 v g h ++ ts_oa c3 o y) 0 [(0, .ref (a 0)), (1, .ref o)] []
  refine jj_aload_n hC dL_join_0 rfl ?_
  refine jj_iconst hC dL_join_1 (v := nI 0) (by decide) ?_
  refine jj_aload_n hC dL_join_2 rfl ?_
  refine jj_callxL hC hH hV (xm_join _ _ a c1 c2 c3 v g h hl hI ) gL_join_X0_join rfl 0 (by decide +kernel) ⟨by decide, by decide, by decide, by decide⟩ 0 0 (by rfl) rfl rfl rfl rfl (Nat.le_of_ble_eq_true rfl) dL_join_3 (fun Ex hEx => ?_) (fun r u hoc hp => ?_)
  · have hq : Ex = jj_IS := by
      have hE9 := hEx
      exact ts_rq hE9
    subst hq
    refine jj_catch hC [] ⟨0, 8, 11, 13⟩ [] htab (fun z hz => by cases hz) (by decide) (by decide) lcjoin_13 hV.1.2.2.1 (fun q => ?_)
    refine jj_astore_n hC dL_join_11 (by decide) [1, 2, 0] (lv' := [(0, _), (1, _), (2, .ref _)]) rfl ?_
    refine jj_iconst hC dL_join_12 (v := nI 1) (by decide) ?_
    rw [hEx] at hret
    exact hret _ _ _ ((g, h), y) dL_join_13 (by rfl) ⟨by rw [ts_cdIS], fun q => by cases q⟩
  · refine jj_i2l hC dL_join_6 ?_
    refine jj_last hC 26 2 dL_join_7 (ts_getapp (by rfl)) rfl (by decide) (by decide) (ts_setapp (by rfl)) ?_
    refine jj_goto hC dL_join_8 (tgt := 14) (by decide) ?_
    refine jj_iconst hC dL_join_14 (v := nI 0) (by decide) ?_
    rw [hoc] at hret
    exact hret _ _ _ ((g, h), _) dL_join_15 (by rfl) ⟨rfl, fun _ => by rw [hp]; rfl⟩
theorem lcfind_19 : Cond.classLink RL 19 "java/lang/IndexOutOfBoundsException" ∈ wsL_find := by decide +kernel
theorem lcfind_21 : Cond.classLink RL 21 "java/lang/IllegalArgumentException" ∈ wsL_find := by decide +kernel
theorem lcfind_13 : Cond.classLink RL 13 "java/lang/IllegalStateException" ∈ wsL_find := by decide +kernel
set_option maxRecDepth 100000 in
set_option maxHeartbeats 4000000 in
theorem lm_find (l : Launch) (D : va_G) (a : Nat → Nat) (c1 c2 c3 : ClassId) (v : ts_V) (g : Nat → Int32) (h : Int32) (o : Nat) (y : Nat → Int64) (hl : l.stackTraces = false) (hI : ts_I v) (x0 x1 x2 x3 x4 : Int32) : jj_Mw l D (ts_T c1 c2 c3) yL_find wsL_find rL_find [.ref (a 0), .int x0, .int x1, .int x2, .int x3, .int x4, .ref o] (wx a c1 c2 v g h ++ ts_oa c3 o y) (((Nat → Int32) × Int32) × (Nat → Int64)) (fun r u => r = ts_cd 1 2 3 (((ts_req (ts_in x0 (ts_k v)) jj_IO).or (ts_req (ts_in x1 8 && (ts_in x2 6 && (ts_in x3 20 && ts_in x4 10))) jj_IA)).or (ts_req (decide (ts_n v < 36)) jj_IS)) ∧ ((((ts_req (ts_in x0 (ts_k v)) jj_IO).or (ts_req (ts_in x1 8 && (ts_in x2 6 && (ts_in x3 20 && ts_in x4 10))) jj_IA)).or (ts_req (decide (ts_n v < 36)) jj_IS)) = none → u.2 0 = (nI (ts_n v)).toInt64)) (fun u => wx a c1 c2 (ts_if (((ts_req (ts_in x0 (ts_k v)) jj_IO).or (ts_req (ts_in x1 8 && (ts_in x2 6 && (ts_in x3 20 && ts_in x4 10))) jj_IA)).or (ts_req (decide (ts_n v < 36)) jj_IS)) ((ts_fd v (ts_N x0) (ts_N x1) (ts_N x2) (ts_N x3) (ts_N x4))) v) u.1.1 u.1.2 ++ ts_oa c3 o u.2) := by
  refine jj_metw (cc := cL_find) (nL := 8) (by decide) rfl (Nat.le_of_ble_eq_true rfl) (fun E Q hC hEl hED hD0 hH hV hN htab hret => ?_)
  subst hEl
  show jj_J E 0 0 Q (wx a c1 c2 v g h ++ ts_oa c3 o y) 0 [(0, .ref (a 0)), (1, .int x0), (2, .int x1), (3, .int x2), (4, .int x3), (5, .int x4), (6, .ref o)] []
  refine jj_aload hC dL_find_0 rfl ?_
  refine jj_iconst hC dL_find_2 (v := nI 0) (by decide) ?_
  refine jj_aload_n hC dL_find_3 rfl ?_
  refine jj_iload_n hC dL_find_4 rfl ?_
  refine jj_iload_n hC dL_find_5 rfl ?_
  refine jj_iload_n hC dL_find_6 rfl ?_
  refine jj_iload hC dL_find_7 rfl ?_
  refine jj_iload hC dL_find_9 rfl ?_
  refine jj_callxL hC hH hV (xm_find _ _ a c1 c2 c3 v g h hl hI x0 x1 x2 x3 x4) gL_find_X0_find rfl 5 (by decide +kernel) ⟨by decide, by decide, by decide, by decide⟩ 0 0 (by rfl) rfl rfl rfl rfl (Nat.le_of_ble_eq_true rfl) dL_find_11 (fun Ex hEx => ?_) (fun r u hoc hp => ?_)
  · have hq : Ex = jj_IO ∨ Ex = jj_IA ∨ Ex = jj_IS := by
      have hE9 := hEx
      rcases ts_rqo hE9 with hE9 | hE9
      · rcases ts_rqo hE9 with hE9 | hE9
        · exact Or.inl (ts_rq hE9)
        · exact Or.inr (Or.inl (hE9))
      · exact Or.inr (Or.inr (hE9))
    rcases hq with rfl | rfl | rfl
    · refine jj_catch hC [] ⟨0, 16, 19, 19⟩ [⟨0, 16, 23, 21⟩, ⟨0, 16, 27, 13⟩] htab (fun z hz => by cases hz) (by decide) (by decide) lcfind_19 hV.1.1 (fun q => ?_)
      refine jj_astore hC dL_find_19 (by decide) [1, 2, 3, 4, 5, 6, 7, 0] (lv' := [(0, _), (1, _), (2, _), (3, _), (4, _), (5, _), (6, _), (7, .ref _)]) rfl ?_
      refine jj_iconst hC dL_find_21 (v := nI 1) (by decide) ?_
      rw [hEx] at hret
      exact hret _ _ _ ((g, h), y) dL_find_22 (by rfl) ⟨by rw [ts_cdIO], fun q => by cases q⟩
    · refine jj_catch hC [⟨0, 16, 19, 19⟩] ⟨0, 16, 23, 21⟩ [⟨0, 16, 27, 13⟩] htab (fun z hz => by rw [List.mem_singleton.mp hz]; exact Or.inr ⟨by decide, jj_IO, lcfind_19, hN.1⟩) (by decide) (by decide) lcfind_21 hV.1.2.1 (fun q => ?_)
      refine jj_astore hC dL_find_23 (by decide) [1, 2, 3, 4, 5, 6, 7, 0] (lv' := [(0, _), (1, _), (2, _), (3, _), (4, _), (5, _), (6, _), (7, .ref _)]) rfl ?_
      refine jj_iconst hC dL_find_25 (v := nI 2) (by decide) ?_
      rw [hEx] at hret
      exact hret _ _ _ ((g, h), y) dL_find_26 (by rfl) ⟨by rw [ts_cdIA], fun q => by cases q⟩
    · refine jj_catch hC [⟨0, 16, 19, 19⟩, ⟨0, 16, 23, 21⟩] ⟨0, 16, 27, 13⟩ [] htab (fun z hz => by
          rcases List.mem_cons.mp hz with rfl | hz
          · exact Or.inr ⟨by decide, jj_IO, lcfind_19, hN.2.1⟩
          · rw [List.mem_singleton.mp hz]
            exact Or.inr ⟨by decide, jj_IA, lcfind_21, hN.2.2⟩) (by decide) (by decide) lcfind_13 hV.1.2.2.1 (fun q => ?_)
      refine jj_astore hC dL_find_27 (by decide) [1, 2, 3, 4, 5, 6, 7, 0] (lv' := [(0, _), (1, _), (2, _), (3, _), (4, _), (5, _), (6, _), (7, .ref _)]) rfl ?_
      refine jj_iconst hC dL_find_29 (v := nI 3) (by decide) ?_
      rw [hEx] at hret
      exact hret _ _ _ ((g, h), y) dL_find_30 (by rfl) ⟨by rw [ts_cdIS], fun q => by cases q⟩
  · refine jj_i2l hC dL_find_14 ?_
    refine jj_last hC 26 2 dL_find_15 (ts_getapp (by rfl)) rfl (by decide) (by decide) (ts_setapp (by rfl)) ?_
    refine jj_goto hC dL_find_16 (tgt := 31) (by decide) ?_
    refine jj_iconst hC dL_find_31 (v := nI 0) (by decide) ?_
    rw [hoc] at hret
    exact hret _ _ _ ((g, h), _) dL_find_32 (by rfl) ⟨rfl, fun _ => by rw [hp]; rfl⟩
theorem lclike_19 : Cond.classLink RL 19 "java/lang/IndexOutOfBoundsException" ∈ wsL_like := by decide +kernel
theorem lclike_21 : Cond.classLink RL 21 "java/lang/IllegalArgumentException" ∈ wsL_like := by decide +kernel
set_option maxRecDepth 100000 in
set_option maxHeartbeats 4000000 in
theorem lm_like (l : Launch) (D : va_G) (a : Nat → Nat) (c1 c2 c3 : ClassId) (v : ts_V) (g : Nat → Int32) (h : Int32) (o : Nat) (y : Nat → Int64) (hl : l.stackTraces = false) (hI : ts_I v) (x0 x1 x2 : Int32) : jj_Mw l D (ts_T c1 c2 c3) yL_like wsL_like rL_like [.ref (a 0), .int x0, .int x1, .int x2, .ref o] (wx a c1 c2 v g h ++ ts_oa c3 o y) (((Nat → Int32) × Int32) × (Nat → Int64)) (fun r u => r = ts_cd 1 2 0 (((ts_req (ts_in x0 (ts_k v)) jj_IO).or (ts_req (ts_in x1 8) jj_IO)).or (ts_req (ts_in x2 6) jj_IA)) ∧ ((((ts_req (ts_in x0 (ts_k v)) jj_IO).or (ts_req (ts_in x1 8) jj_IO)).or (ts_req (ts_in x2 6) jj_IA)) = none → u.2 0 = (nI (ts_li v (ts_N x0) (ts_N x1))).toInt64)) (fun u => wx a c1 c2 (ts_if (((ts_req (ts_in x0 (ts_k v)) jj_IO).or (ts_req (ts_in x1 8) jj_IO)).or (ts_req (ts_in x2 6) jj_IA)) ((ts_li' v (ts_up2 (ts_li v) (ts_N x0) (ts_N x1) (ts_N x2)))) v) u.1.1 u.1.2 ++ ts_oa c3 o u.2) := by
  refine jj_metw (cc := cL_like) (nL := 6) (by decide) rfl (Nat.le_of_ble_eq_true rfl) (fun E Q hC hEl hED hD0 hH hV hN htab hret => ?_)
  subst hEl
  show jj_J E 0 0 Q (wx a c1 c2 v g h ++ ts_oa c3 o y) 0 [(0, .ref (a 0)), (1, .int x0), (2, .int x1), (3, .int x2), (4, .ref o)] []
  refine jj_aload hC dL_like_0 rfl ?_
  refine jj_iconst hC dL_like_2 (v := nI 0) (by decide) ?_
  refine jj_aload_n hC dL_like_3 rfl ?_
  refine jj_iload_n hC dL_like_4 rfl ?_
  refine jj_iload_n hC dL_like_5 rfl ?_
  refine jj_iload_n hC dL_like_6 rfl ?_
  refine jj_callxL hC hH hV (xm_like _ _ a c1 c2 c3 v g h hl hI x0 x1 x2) gL_like_X0_like rfl 3 (by decide +kernel) ⟨by decide, by decide, by decide, by decide⟩ 0 0 (by rfl) rfl rfl rfl rfl (Nat.le_of_ble_eq_true rfl) dL_like_7 (fun Ex hEx => ?_) (fun r u hoc hp => ?_)
  · have hq : Ex = jj_IO ∨ Ex = jj_IA := by
      have hE9 := hEx
      rcases ts_rqo hE9 with hE9 | hE9
      · rcases ts_rqo hE9 with hE9 | hE9
        · exact Or.inl (ts_rq hE9)
        · exact Or.inl (hE9)
      · exact Or.inr (hE9)
    rcases hq with rfl | rfl
    · refine jj_catch hC [] ⟨0, 12, 15, 19⟩ [⟨0, 12, 19, 21⟩] htab (fun z hz => by cases hz) (by decide) (by decide) lclike_19 hV.1.1 (fun q => ?_)
      refine jj_astore hC dL_like_15 (by decide) [1, 2, 3, 4, 5, 0] (lv' := [(0, _), (1, _), (2, _), (3, _), (4, _), (5, .ref _)]) rfl ?_
      refine jj_iconst hC dL_like_17 (v := nI 1) (by decide) ?_
      rw [hEx] at hret
      exact hret _ _ _ ((g, h), y) dL_like_18 (by rfl) ⟨by rw [ts_cdIO], fun q => by cases q⟩
    · refine jj_catch hC [⟨0, 12, 15, 19⟩] ⟨0, 12, 19, 21⟩ [] htab (fun z hz => by rw [List.mem_singleton.mp hz]; exact Or.inr ⟨by decide, jj_IO, lclike_19, hN.1⟩) (by decide) (by decide) lclike_21 hV.1.2.1 (fun q => ?_)
      refine jj_astore hC dL_like_19 (by decide) [1, 2, 3, 4, 5, 0] (lv' := [(0, _), (1, _), (2, _), (3, _), (4, _), (5, .ref _)]) rfl ?_
      refine jj_iconst hC dL_like_21 (v := nI 2) (by decide) ?_
      rw [hEx] at hret
      exact hret _ _ _ ((g, h), y) dL_like_22 (by rfl) ⟨by rw [ts_cdIA], fun q => by cases q⟩
  · refine jj_i2l hC dL_like_10 ?_
    refine jj_last hC 26 2 dL_like_11 (ts_getapp (by rfl)) rfl (by decide) (by decide) (ts_setapp (by rfl)) ?_
    refine jj_goto hC dL_like_12 (tgt := 23) (by decide) ?_
    refine jj_iconst hC dL_like_23 (v := nI 0) (by decide) ?_
    rw [hoc] at hret
    exact hret _ _ _ ((g, h), _) dL_like_24 (by rfl) ⟨rfl, fun _ => by rw [hp]; rfl⟩
theorem lccollector_19 : Cond.classLink RL 19 "java/lang/IndexOutOfBoundsException" ∈ wsL_collector := by decide +kernel
set_option maxRecDepth 100000 in
set_option maxHeartbeats 4000000 in
theorem lm_collector (l : Launch) (D : va_G) (a : Nat → Nat) (c1 c2 c3 : ClassId) (v : ts_V) (g : Nat → Int32) (h : Int32) (o : Nat) (y : Nat → Int64) (hl : l.stackTraces = false) (hI : ts_I v) (x0 x1 : Int32) : jj_Mw l D (ts_T c1 c2 c3) yL_collector wsL_collector rL_collector [.ref (a 0), .int x0, .int x1, .ref o] (wx a c1 c2 v g h ++ ts_oa c3 o y) (((Nat → Int32) × Int32) × (Nat → Int64)) (fun r u => r = ts_cd 1 0 0 ((ts_req (ts_in x0 (ts_k v)) jj_IO).or (ts_req (ts_in x1 7) jj_IO)) ∧ (((ts_req (ts_in x0 (ts_k v)) jj_IO).or (ts_req (ts_in x1 7) jj_IO)) = none → u.2 0 = (ts_ct v (ts_N x0) (ts_N x1)).toInt64)) (fun u => wx a c1 c2 (ts_if ((ts_req (ts_in x0 (ts_k v)) jj_IO).or (ts_req (ts_in x1 7) jj_IO)) (v) v) u.1.1 u.1.2 ++ ts_oa c3 o u.2) := by
  refine jj_metw (cc := cL_collector) (nL := 5) (by decide) rfl (Nat.le_of_ble_eq_true rfl) (fun E Q hC hEl hED hD0 hH hV hN htab hret => ?_)
  subst hEl
  show jj_J E 0 0 Q (wx a c1 c2 v g h ++ ts_oa c3 o y) 0 [(0, .ref (a 0)), (1, .int x0), (2, .int x1), (3, .ref o)] []
  refine jj_aload_n hC dL_collector_0 rfl ?_
  refine jj_iconst hC dL_collector_1 (v := nI 0) (by decide) ?_
  refine jj_aload_n hC dL_collector_2 rfl ?_
  refine jj_iload_n hC dL_collector_3 rfl ?_
  refine jj_iload_n hC dL_collector_4 rfl ?_
  refine jj_callxL hC hH hV (xm_collector _ _ a c1 c2 c3 v g h hl hI x0 x1) gL_collector_X0_collector rfl 2 (by decide +kernel) ⟨by decide, by decide, by decide, by decide⟩ 0 0 (by rfl) rfl rfl rfl rfl (Nat.le_of_ble_eq_true rfl) dL_collector_5 (fun Ex hEx => ?_) (fun r u hoc hp => ?_)
  · have hq : Ex = jj_IO := by
      have hE9 := hEx
      rcases ts_rqo hE9 with hE9 | hE9
      · exact ts_rq hE9
      · exact hE9
    subst hq
    refine jj_catch hC [] ⟨0, 10, 13, 19⟩ [] htab (fun z hz => by cases hz) (by decide) (by decide) lccollector_19 hV.1.1 (fun q => ?_)
    refine jj_astore hC dL_collector_13 (by decide) [1, 2, 3, 4, 0] (lv' := [(0, _), (1, _), (2, _), (3, _), (4, .ref _)]) rfl ?_
    refine jj_iconst hC dL_collector_15 (v := nI 1) (by decide) ?_
    rw [hEx] at hret
    exact hret _ _ _ ((g, h), y) dL_collector_16 (by rfl) ⟨by rw [ts_cdIO], fun q => by cases q⟩
  · refine jj_i2l hC dL_collector_8 ?_
    refine jj_last hC 26 2 dL_collector_9 (ts_getapp (by rfl)) rfl (by decide) (by decide) (ts_setapp (by rfl)) ?_
    refine jj_goto hC dL_collector_10 (tgt := 17) (by decide) ?_
    refine jj_iconst hC dL_collector_17 (v := nI 0) (by decide) ?_
    rw [hoc] at hret
    exact hret _ _ _ (u, _) dL_collector_18 (by rfl) ⟨rfl, fun _ => by rw [hp]; rfl⟩
theorem lcgrudge_19 : Cond.classLink RL 19 "java/lang/IndexOutOfBoundsException" ∈ wsL_grudge := by decide +kernel
set_option maxRecDepth 100000 in
set_option maxHeartbeats 4000000 in
theorem lm_grudge (l : Launch) (D : va_G) (a : Nat → Nat) (c1 c2 c3 : ClassId) (v : ts_V) (g : Nat → Int32) (h : Int32) (o : Nat) (y : Nat → Int64) (hl : l.stackTraces = false) (hI : ts_I v) (x0 x1 : Int32) : jj_Mw l D (ts_T c1 c2 c3) yL_grudge wsL_grudge rL_grudge [.ref (a 0), .int x0, .int x1, .ref o] (wx a c1 c2 v g h ++ ts_oa c3 o y) (((Nat → Int32) × Int32) × (Nat → Int64)) (fun r u => r = ts_cd 1 0 0 ((ts_req (ts_in x0 (ts_k v)) jj_IO).or (ts_req (ts_in x1 (ts_k v)) jj_IO)) ∧ (((ts_req (ts_in x0 (ts_k v)) jj_IO).or (ts_req (ts_in x1 (ts_k v)) jj_IO)) = none → u.2 0 = (nI (ts_gr v (ts_N x0) (ts_N x1))).toInt64)) (fun u => wx a c1 c2 (ts_if ((ts_req (ts_in x0 (ts_k v)) jj_IO).or (ts_req (ts_in x1 (ts_k v)) jj_IO)) (v) v) u.1.1 u.1.2 ++ ts_oa c3 o u.2) := by
  refine jj_metw (cc := cL_grudge) (nL := 5) (by decide) rfl (Nat.le_of_ble_eq_true rfl) (fun E Q hC hEl hED hD0 hH hV hN htab hret => ?_)
  subst hEl
  show jj_J E 0 0 Q (wx a c1 c2 v g h ++ ts_oa c3 o y) 0 [(0, .ref (a 0)), (1, .int x0), (2, .int x1), (3, .ref o)] []
  refine jj_aload_n hC dL_grudge_0 rfl ?_
  refine jj_iconst hC dL_grudge_1 (v := nI 0) (by decide) ?_
  refine jj_aload_n hC dL_grudge_2 rfl ?_
  refine jj_iload_n hC dL_grudge_3 rfl ?_
  refine jj_iload_n hC dL_grudge_4 rfl ?_
  refine jj_callxL hC hH hV (xm_grudge _ _ a c1 c2 c3 v g h hl hI x0 x1) gL_grudge_X0_grudge rfl 2 (by decide +kernel) ⟨by decide, by decide, by decide, by decide⟩ 0 0 (by rfl) rfl rfl rfl rfl (Nat.le_of_ble_eq_true rfl) dL_grudge_5 (fun Ex hEx => ?_) (fun r u hoc hp => ?_)
  · have hq : Ex = jj_IO := by
      have hE9 := hEx
      rcases ts_rqo hE9 with hE9 | hE9
      · exact ts_rq hE9
      · exact hE9
    subst hq
    refine jj_catch hC [] ⟨0, 10, 13, 19⟩ [] htab (fun z hz => by cases hz) (by decide) (by decide) lcgrudge_19 hV.1.1 (fun q => ?_)
    refine jj_astore hC dL_grudge_13 (by decide) [1, 2, 3, 4, 0] (lv' := [(0, _), (1, _), (2, _), (3, _), (4, .ref _)]) rfl ?_
    refine jj_iconst hC dL_grudge_15 (v := nI 1) (by decide) ?_
    rw [hEx] at hret
    exact hret _ _ _ ((g, h), y) dL_grudge_16 (by rfl) ⟨by rw [ts_cdIO], fun q => by cases q⟩
  · refine jj_i2l hC dL_grudge_8 ?_
    refine jj_last hC 26 2 dL_grudge_9 (ts_getapp (by rfl)) rfl (by decide) (by decide) (ts_setapp (by rfl)) ?_
    refine jj_goto hC dL_grudge_10 (tgt := 17) (by decide) ?_
    refine jj_iconst hC dL_grudge_17 (v := nI 0) (by decide) ?_
    rw [hoc] at hret
    exact hret _ _ _ ((g, h), _) dL_grudge_18 (by rfl) ⟨rfl, fun _ => by rw [hp]; rfl⟩
theorem lcthimble_19 : Cond.classLink RL 19 "java/lang/IndexOutOfBoundsException" ∈ wsL_thimble := by decide +kernel
set_option maxRecDepth 100000 in
set_option maxHeartbeats 4000000 in
theorem lm_thimble (l : Launch) (D : va_G) (a : Nat → Nat) (c1 c2 c3 : ClassId) (v : ts_V) (g : Nat → Int32) (h : Int32) (o : Nat) (y : Nat → Int64) (hl : l.stackTraces = false) (hI : ts_I v) (x0 x1 : Int32) : jj_Mw l D (ts_T c1 c2 c3) yL_thimble wsL_thimble rL_thimble [.ref (a 0), .int x0, .int x1, .ref o] (wx a c1 c2 v g h ++ ts_oa c3 o y) (((Nat → Int32) × Int32) × (Nat → Int64)) (fun r u => r = ts_cd 1 0 0 ((ts_req (ts_in x0 (ts_n v)) jj_IO).or (ts_req (ts_in x1 6) jj_IO)) ∧ (((ts_req (ts_in x0 (ts_n v)) jj_IO).or (ts_req (ts_in x1 6) jj_IO)) = none → u.2 0 = (ts_col v (ts_N x1) (ts_N x0)).toInt64)) (fun u => wx a c1 c2 (ts_if ((ts_req (ts_in x0 (ts_n v)) jj_IO).or (ts_req (ts_in x1 6) jj_IO)) (v) v) u.1.1 u.1.2 ++ ts_oa c3 o u.2) := by
  refine jj_metw (cc := cL_thimble) (nL := 5) (by decide) rfl (Nat.le_of_ble_eq_true rfl) (fun E Q hC hEl hED hD0 hH hV hN htab hret => ?_)
  subst hEl
  show jj_J E 0 0 Q (wx a c1 c2 v g h ++ ts_oa c3 o y) 0 [(0, .ref (a 0)), (1, .int x0), (2, .int x1), (3, .ref o)] []
  refine jj_aload_n hC dL_thimble_0 rfl ?_
  refine jj_iconst hC dL_thimble_1 (v := nI 0) (by decide) ?_
  refine jj_aload_n hC dL_thimble_2 rfl ?_
  refine jj_iload_n hC dL_thimble_3 rfl ?_
  refine jj_iload_n hC dL_thimble_4 rfl ?_
  refine jj_callxL hC hH hV (xm_thimble _ _ a c1 c2 c3 v g h hl hI x0 x1) gL_thimble_X0_thimble rfl 2 (by decide +kernel) ⟨by decide, by decide, by decide, by decide⟩ 0 0 (by rfl) rfl rfl rfl rfl (Nat.le_of_ble_eq_true rfl) dL_thimble_5 (fun Ex hEx => ?_) (fun r u hoc hp => ?_)
  · have hq : Ex = jj_IO := by
      have hE9 := hEx
      rcases ts_rqo hE9 with hE9 | hE9
      · exact ts_rq hE9
      · exact hE9
    subst hq
    refine jj_catch hC [] ⟨0, 10, 13, 19⟩ [] htab (fun z hz => by cases hz) (by decide) (by decide) lcthimble_19 hV.1.1 (fun q => ?_)
    refine jj_astore hC dL_thimble_13 (by decide) [1, 2, 3, 4, 0] (lv' := [(0, _), (1, _), (2, _), (3, _), (4, .ref _)]) rfl ?_
    refine jj_iconst hC dL_thimble_15 (v := nI 1) (by decide) ?_
    rw [hEx] at hret
    exact hret _ _ _ ((g, h), y) dL_thimble_16 (by rfl) ⟨by rw [ts_cdIO], fun q => by cases q⟩
  · refine jj_i2l hC dL_thimble_8 ?_
    refine jj_last hC 26 2 dL_thimble_9 (ts_getapp (by rfl)) rfl (by decide) (by decide) (ts_setapp (by rfl)) ?_
    refine jj_goto hC dL_thimble_10 (tgt := 17) (by decide) ?_
    refine jj_iconst hC dL_thimble_17 (v := nI 0) (by decide) ?_
    rw [hoc] at hret
    exact hret _ _ _ ((g, h), _) dL_thimble_18 (by rfl) ⟨rfl, fun _ => by rw [hp]; rfl⟩
theorem lcgains_19 : Cond.classLink RL 19 "java/lang/IndexOutOfBoundsException" ∈ wsL_gains := by decide +kernel
theorem lcgains_21 : Cond.classLink RL 21 "java/lang/IllegalArgumentException" ∈ wsL_gains := by decide +kernel
set_option maxRecDepth 100000 in
set_option maxHeartbeats 4000000 in
theorem lm_gains (l : Launch) (D : va_G) (a : Nat → Nat) (c1 c2 c3 : ClassId) (v : ts_V) (g : Nat → Int32) (h : Int32) (o : Nat) (y : Nat → Int64) (hl : l.stackTraces = false) (hI : ts_I v) (x0 x1 : Int32) : jj_Mw l D (ts_T c1 c2 c3) yL_gains wsL_gains rL_gains [.ref (a 0), .int x0, .int x1, .ref o] (wx a c1 c2 v g h ++ ts_oa c3 o y) (((Nat → Int32) × Int32) × (Nat → Int64)) (fun r u => r = ts_cd 1 2 0 (((ts_req (ts_in x0 (ts_n v)) jj_IO).or (ts_req (ts_in x1 (ts_n v)) jj_IO)).or (ts_req (decide (¬ ts_ow v (ts_N x0) = ts_ow v (ts_N x1))) jj_IA)) ∧ ((((ts_req (ts_in x0 (ts_n v)) jj_IO).or (ts_req (ts_in x1 (ts_n v)) jj_IO)).or (ts_req (decide (¬ ts_ow v (ts_N x0) = ts_ow v (ts_N x1))) jj_IA)) = none → u.2 0 = (ts_gain v (ts_N x0) (ts_N x1)).toInt64)) (fun u => wx a c1 c2 (ts_if (((ts_req (ts_in x0 (ts_n v)) jj_IO).or (ts_req (ts_in x1 (ts_n v)) jj_IO)).or (ts_req (decide (¬ ts_ow v (ts_N x0) = ts_ow v (ts_N x1))) jj_IA)) (v) v) u.1.1 u.1.2 ++ ts_oa c3 o u.2) := by
  refine jj_metw (cc := cL_gains) (nL := 5) (by decide) rfl (Nat.le_of_ble_eq_true rfl) (fun E Q hC hEl hED hD0 hH hV hN htab hret => ?_)
  subst hEl
  show jj_J E 0 0 Q (wx a c1 c2 v g h ++ ts_oa c3 o y) 0 [(0, .ref (a 0)), (1, .int x0), (2, .int x1), (3, .ref o)] []
  refine jj_aload_n hC dL_gains_0 rfl ?_
  refine jj_iconst hC dL_gains_1 (v := nI 0) (by decide) ?_
  refine jj_aload_n hC dL_gains_2 rfl ?_
  refine jj_iload_n hC dL_gains_3 rfl ?_
  refine jj_iload_n hC dL_gains_4 rfl ?_
  refine jj_callxL hC hH hV (xm_gains _ _ a c1 c2 c3 v g h hl hI x0 x1) gL_gains_X0_gains rfl 2 (by decide +kernel) ⟨by decide, by decide, by decide, by decide⟩ 0 0 (by rfl) rfl rfl rfl rfl (Nat.le_of_ble_eq_true rfl) dL_gains_5 (fun Ex hEx => ?_) (fun r u hoc hp => ?_)
  · have hq : Ex = jj_IO ∨ Ex = jj_IA := by
      have hE9 := hEx
      rcases ts_rqo hE9 with hE9 | hE9
      · rcases ts_rqo hE9 with hE9 | hE9
        · exact Or.inl (ts_rq hE9)
        · exact Or.inl (hE9)
      · exact Or.inr (hE9)
    rcases hq with rfl | rfl
    · refine jj_catch hC [] ⟨0, 10, 13, 19⟩ [⟨0, 10, 17, 21⟩] htab (fun z hz => by cases hz) (by decide) (by decide) lcgains_19 hV.1.1 (fun q => ?_)
      refine jj_astore hC dL_gains_13 (by decide) [1, 2, 3, 4, 0] (lv' := [(0, _), (1, _), (2, _), (3, _), (4, .ref _)]) rfl ?_
      refine jj_iconst hC dL_gains_15 (v := nI 1) (by decide) ?_
      rw [hEx] at hret
      exact hret _ _ _ ((g, h), y) dL_gains_16 (by rfl) ⟨by rw [ts_cdIO], fun q => by cases q⟩
    · refine jj_catch hC [⟨0, 10, 13, 19⟩] ⟨0, 10, 17, 21⟩ [] htab (fun z hz => by rw [List.mem_singleton.mp hz]; exact Or.inr ⟨by decide, jj_IO, lcgains_19, hN.1⟩) (by decide) (by decide) lcgains_21 hV.1.2.1 (fun q => ?_)
      refine jj_astore hC dL_gains_17 (by decide) [1, 2, 3, 4, 0] (lv' := [(0, _), (1, _), (2, _), (3, _), (4, .ref _)]) rfl ?_
      refine jj_iconst hC dL_gains_19 (v := nI 2) (by decide) ?_
      rw [hEx] at hret
      exact hret _ _ _ ((g, h), y) dL_gains_20 (by rfl) ⟨by rw [ts_cdIA], fun q => by cases q⟩
  · refine jj_i2l hC dL_gains_8 ?_
    refine jj_last hC 26 2 dL_gains_9 (ts_getapp (by rfl)) rfl (by decide) (by decide) (ts_setapp (by rfl)) ?_
    refine jj_goto hC dL_gains_10 (tgt := 21) (by decide) ?_
    refine jj_iconst hC dL_gains_21 (v := nI 0) (by decide) ?_
    rw [hoc] at hret
    exact hret _ _ _ (u, _) dL_gains_22 (by rfl) ⟨rfl, fun _ => by rw [hp]; rfl⟩
theorem lcswap_19 : Cond.classLink RL 19 "java/lang/IndexOutOfBoundsException" ∈ wsL_swap := by decide +kernel
theorem lcswap_21 : Cond.classLink RL 21 "java/lang/IllegalArgumentException" ∈ wsL_swap := by decide +kernel
theorem lcswap_13 : Cond.classLink RL 13 "java/lang/IllegalStateException" ∈ wsL_swap := by decide +kernel
set_option maxRecDepth 100000 in
set_option maxHeartbeats 4000000 in
theorem lm_swap (l : Launch) (D : va_G) (a : Nat → Nat) (c1 c2 c3 : ClassId) (v : ts_V) (g : Nat → Int32) (h : Int32) (o : Nat) (y : Nat → Int64) (hl : l.stackTraces = false) (hI : ts_I v) (x0 x1 : Int32) : jj_Mw l D (ts_T c1 c2 c3) yL_swap wsL_swap rL_swap [.ref (a 0), .int x0, .int x1, .ref o] (wx a c1 c2 v g h ++ ts_oa c3 o y) (((Nat → Int32) × Int32) × (Nat → Int64)) (fun r u => r = ts_cd 1 2 3 (((((ts_req (ts_in x0 (ts_n v)) jj_IO).or (ts_req (ts_in x1 (ts_n v)) jj_IO)).or (ts_req (decide (¬ ts_ow v (ts_N x0) = ts_ow v (ts_N x1))) jj_IA)).or (ts_req (!(ts_lt v (ts_N x0))) jj_IS)).or (ts_req (!(ts_lt v (ts_N x1))) jj_IS)) ∧ ((((((ts_req (ts_in x0 (ts_n v)) jj_IO).or (ts_req (ts_in x1 (ts_n v)) jj_IO)).or (ts_req (decide (¬ ts_ow v (ts_N x0) = ts_ow v (ts_N x1))) jj_IA)).or (ts_req (!(ts_lt v (ts_N x0))) jj_IS)).or (ts_req (!(ts_lt v (ts_N x1))) jj_IS)) = none → u.2 0 = ((ts_rs v (ts_N x0) (ts_N x1)).1).toInt64)) (fun u => wx a c1 c2 (ts_if (((((ts_req (ts_in x0 (ts_n v)) jj_IO).or (ts_req (ts_in x1 (ts_n v)) jj_IO)).or (ts_req (decide (¬ ts_ow v (ts_N x0) = ts_ow v (ts_N x1))) jj_IA)).or (ts_req (!(ts_lt v (ts_N x0))) jj_IS)).or (ts_req (!(ts_lt v (ts_N x1))) jj_IS)) ((ts_rs v (ts_N x0) (ts_N x1)).2) v) u.1.1 u.1.2 ++ ts_oa c3 o u.2) := by
  refine jj_metw (cc := cL_swap) (nL := 5) (by decide) rfl (Nat.le_of_ble_eq_true rfl) (fun E Q hC hEl hED hD0 hH hV hN htab hret => ?_)
  subst hEl
  show jj_J E 0 0 Q (wx a c1 c2 v g h ++ ts_oa c3 o y) 0 [(0, .ref (a 0)), (1, .int x0), (2, .int x1), (3, .ref o)] []
  refine jj_aload_n hC dL_swap_0 rfl ?_
  refine jj_iconst hC dL_swap_1 (v := nI 0) (by decide) ?_
  refine jj_aload_n hC dL_swap_2 rfl ?_
  refine jj_iload_n hC dL_swap_3 rfl ?_
  refine jj_iload_n hC dL_swap_4 rfl ?_
  refine jj_callxL hC hH hV (xm_swap _ _ a c1 c2 c3 v g h hl hI x0 x1) gL_swap_X0_swap rfl 2 (by decide +kernel) ⟨by decide, by decide, by decide, by decide⟩ 0 0 (by rfl) rfl rfl rfl rfl (Nat.le_of_ble_eq_true rfl) dL_swap_5 (fun Ex hEx => ?_) (fun r u hoc hp => ?_)
  · have hq : Ex = jj_IO ∨ Ex = jj_IA ∨ Ex = jj_IS := by
      have hE9 := hEx
      rcases ts_rqo hE9 with hE9 | hE9
      · rcases ts_rqo hE9 with hE9 | hE9
        · rcases ts_rqo hE9 with hE9 | hE9
          · rcases ts_rqo hE9 with hE9 | hE9
            · exact Or.inl (ts_rq hE9)
            · exact Or.inl (hE9)
          · exact Or.inr (Or.inl (hE9))
        · exact Or.inr (Or.inr (hE9))
      · exact Or.inr (Or.inr (hE9))
    rcases hq with rfl | rfl | rfl
    · refine jj_catch hC [] ⟨0, 10, 13, 19⟩ [⟨0, 10, 17, 21⟩, ⟨0, 10, 21, 13⟩] htab (fun z hz => by cases hz) (by decide) (by decide) lcswap_19 hV.1.1 (fun q => ?_)
      refine jj_astore hC dL_swap_13 (by decide) [1, 2, 3, 4, 0] (lv' := [(0, _), (1, _), (2, _), (3, _), (4, .ref _)]) rfl ?_
      refine jj_iconst hC dL_swap_15 (v := nI 1) (by decide) ?_
      rw [hEx] at hret
      exact hret _ _ _ ((g, h), y) dL_swap_16 (by rfl) ⟨by rw [ts_cdIO], fun q => by cases q⟩
    · refine jj_catch hC [⟨0, 10, 13, 19⟩] ⟨0, 10, 17, 21⟩ [⟨0, 10, 21, 13⟩] htab (fun z hz => by rw [List.mem_singleton.mp hz]; exact Or.inr ⟨by decide, jj_IO, lcswap_19, hN.1⟩) (by decide) (by decide) lcswap_21 hV.1.2.1 (fun q => ?_)
      refine jj_astore hC dL_swap_17 (by decide) [1, 2, 3, 4, 0] (lv' := [(0, _), (1, _), (2, _), (3, _), (4, .ref _)]) rfl ?_
      refine jj_iconst hC dL_swap_19 (v := nI 2) (by decide) ?_
      rw [hEx] at hret
      exact hret _ _ _ ((g, h), y) dL_swap_20 (by rfl) ⟨by rw [ts_cdIA], fun q => by cases q⟩
    · refine jj_catch hC [⟨0, 10, 13, 19⟩, ⟨0, 10, 17, 21⟩] ⟨0, 10, 21, 13⟩ [] htab (fun z hz => by
          rcases List.mem_cons.mp hz with rfl | hz
          · exact Or.inr ⟨by decide, jj_IO, lcswap_19, hN.2.1⟩
          · rw [List.mem_singleton.mp hz]
            exact Or.inr ⟨by decide, jj_IA, lcswap_21, hN.2.2⟩) (by decide) (by decide) lcswap_13 hV.1.2.2.1 (fun q => ?_)
      refine jj_astore hC dL_swap_21 (by decide) [1, 2, 3, 4, 0] (lv' := [(0, _), (1, _), (2, _), (3, _), (4, .ref _)]) rfl ?_
      refine jj_iconst hC dL_swap_23 (v := nI 3) (by decide) ?_
      rw [hEx] at hret
      exact hret _ _ _ ((g, h), y) dL_swap_24 (by rfl) ⟨by rw [ts_cdIS], fun q => by cases q⟩
  · refine jj_i2l hC dL_swap_8 ?_
    refine jj_last hC 26 2 dL_swap_9 (ts_getapp (by rfl)) rfl (by decide) (by decide) (ts_setapp (by rfl)) ?_
    refine jj_goto hC dL_swap_10 (tgt := 25) (by decide) ?_
    refine jj_iconst hC dL_swap_25 (v := nI 0) (by decide) ?_
    rw [hoc] at hret
    exact hret _ _ _ (u, _) dL_swap_26 (by rfl) ⟨rfl, fun _ => by rw [hp]; rfl⟩
theorem lcbest_19 : Cond.classLink RL 19 "java/lang/IndexOutOfBoundsException" ∈ wsL_best := by decide +kernel
theorem lcbest_21 : Cond.classLink RL 21 "java/lang/IllegalArgumentException" ∈ wsL_best := by decide +kernel
set_option maxRecDepth 100000 in
set_option maxHeartbeats 4000000 in
theorem lm_best (l : Launch) (D : va_G) (a : Nat → Nat) (c1 c2 c3 : ClassId) (v : ts_V) (g : Nat → Int32) (h : Int32) (o : Nat) (y : Nat → Int64) (hl : l.stackTraces = false) (hI : ts_I v) (x0 x1 : Int32) : jj_Mw l D (ts_T c1 c2 c3) yL_best wsL_best rL_best [.ref (a 0), .int x0, .int x1, .ref o] (wx a c1 c2 v g h ++ ts_oa c3 o y) (((Nat → Int32) × Int32) × (Nat → Int64)) (fun r u => r = ts_cd 1 2 0 (((ts_req (ts_in x0 (ts_k v)) jj_IO).or (ts_req (ts_in x1 (ts_k v)) jj_IO)).or (ts_req (decide (¬ x0 = x1)) jj_IA)) ∧ ((((ts_req (ts_in x0 (ts_k v)) jj_IO).or (ts_req (ts_in x1 (ts_k v)) jj_IO)).or (ts_req (decide (¬ x0 = x1)) jj_IA)) = none → u.2 0 = (ts_best v (ts_N x0) (ts_N x1)).toInt64)) (fun u => wx a c1 c2 (ts_if (((ts_req (ts_in x0 (ts_k v)) jj_IO).or (ts_req (ts_in x1 (ts_k v)) jj_IO)).or (ts_req (decide (¬ x0 = x1)) jj_IA)) (v) v) u.1.1 u.1.2 ++ ts_oa c3 o u.2) := by
  refine jj_metw (cc := cL_best) (nL := 5) (by decide) rfl (Nat.le_of_ble_eq_true rfl) (fun E Q hC hEl hED hD0 hH hV hN htab hret => ?_)
  subst hEl
  show jj_J E 0 0 Q (wx a c1 c2 v g h ++ ts_oa c3 o y) 0 [(0, .ref (a 0)), (1, .int x0), (2, .int x1), (3, .ref o)] []
  refine jj_aload_n hC dL_best_0 rfl ?_
  refine jj_iconst hC dL_best_1 (v := nI 0) (by decide) ?_
  refine jj_aload_n hC dL_best_2 rfl ?_
  refine jj_iload_n hC dL_best_3 rfl ?_
  refine jj_iload_n hC dL_best_4 rfl ?_
  refine jj_callxL hC hH hV (xm_best _ _ a c1 c2 c3 v g h hl hI x0 x1) gL_best_X0_best rfl 2 (by decide +kernel) ⟨by decide, by decide, by decide, by decide⟩ 0 0 (by rfl) rfl rfl rfl rfl (Nat.le_of_ble_eq_true rfl) dL_best_5 (fun Ex hEx => ?_) (fun r u hoc hp => ?_)
  · have hq : Ex = jj_IO ∨ Ex = jj_IA := by
      have hE9 := hEx
      rcases ts_rqo hE9 with hE9 | hE9
      · rcases ts_rqo hE9 with hE9 | hE9
        · exact Or.inl (ts_rq hE9)
        · exact Or.inl (hE9)
      · exact Or.inr (hE9)
    rcases hq with rfl | rfl
    · refine jj_catch hC [] ⟨0, 10, 13, 19⟩ [⟨0, 10, 17, 21⟩] htab (fun z hz => by cases hz) (by decide) (by decide) lcbest_19 hV.1.1 (fun q => ?_)
      refine jj_astore hC dL_best_13 (by decide) [1, 2, 3, 4, 0] (lv' := [(0, _), (1, _), (2, _), (3, _), (4, .ref _)]) rfl ?_
      refine jj_iconst hC dL_best_15 (v := nI 1) (by decide) ?_
      rw [hEx] at hret
      exact hret _ _ _ ((g, h), y) dL_best_16 (by rfl) ⟨by rw [ts_cdIO], fun q => by cases q⟩
    · refine jj_catch hC [⟨0, 10, 13, 19⟩] ⟨0, 10, 17, 21⟩ [] htab (fun z hz => by rw [List.mem_singleton.mp hz]; exact Or.inr ⟨by decide, jj_IO, lcbest_19, hN.1⟩) (by decide) (by decide) lcbest_21 hV.1.2.1 (fun q => ?_)
      refine jj_astore hC dL_best_17 (by decide) [1, 2, 3, 4, 0] (lv' := [(0, _), (1, _), (2, _), (3, _), (4, .ref _)]) rfl ?_
      refine jj_iconst hC dL_best_19 (v := nI 2) (by decide) ?_
      rw [hEx] at hret
      exact hret _ _ _ ((g, h), y) dL_best_20 (by rfl) ⟨by rw [ts_cdIA], fun q => by cases q⟩
  · refine jj_i2l hC dL_best_8 ?_
    refine jj_last hC 26 2 dL_best_9 (ts_getapp (by rfl)) rfl (by decide) (by decide) (ts_setapp (by rfl)) ?_
    refine jj_goto hC dL_best_10 (tgt := 21) (by decide) ?_
    refine jj_iconst hC dL_best_21 (v := nI 0) (by decide) ?_
    rw [hoc] at hret
    exact hret _ _ _ (u, _) dL_best_22 (by rfl) ⟨rfl, fun _ => by rw [hp]; rfl⟩
theorem lcring_19 : Cond.classLink RL 19 "java/lang/IndexOutOfBoundsException" ∈ wsL_ring := by decide +kernel
theorem lcring_21 : Cond.classLink RL 21 "java/lang/IllegalArgumentException" ∈ wsL_ring := by decide +kernel
set_option maxRecDepth 100000 in
set_option maxHeartbeats 4000000 in
theorem lm_ring (l : Launch) (D : va_G) (a : Nat → Nat) (c1 c2 c3 : ClassId) (v : ts_V) (g : Nat → Int32) (h : Int32) (o : Nat) (y : Nat → Int64) (hl : l.stackTraces = false) (hI : ts_I v) (x0 x1 x2 : Int32) : jj_Mw l D (ts_T c1 c2 c3) yL_ring wsL_ring rL_ring [.ref (a 0), .int x0, .int x1, .int x2, .ref o] (wx a c1 c2 v g h ++ ts_oa c3 o y) (((Nat → Int32) × Int32) × (Nat → Int64)) (fun r u => r = ts_cd 1 2 0 ((((((ts_req (ts_in x0 (ts_n v)) jj_IO).or (ts_req (ts_in x1 (ts_n v)) jj_IO)).or (ts_req (ts_in x2 (ts_n v)) jj_IO)).or (ts_req (decide (¬ ts_ow v (ts_N x0) = ts_ow v (ts_N x1))) jj_IA)).or (ts_req (decide (¬ ts_ow v (ts_N x1) = ts_ow v (ts_N x2))) jj_IA)).or (ts_req (decide (¬ ts_ow v (ts_N x2) = ts_ow v (ts_N x0))) jj_IA)) ∧ (((((((ts_req (ts_in x0 (ts_n v)) jj_IO).or (ts_req (ts_in x1 (ts_n v)) jj_IO)).or (ts_req (ts_in x2 (ts_n v)) jj_IO)).or (ts_req (decide (¬ ts_ow v (ts_N x0) = ts_ow v (ts_N x1))) jj_IA)).or (ts_req (decide (¬ ts_ow v (ts_N x1) = ts_ow v (ts_N x2))) jj_IA)).or (ts_req (decide (¬ ts_ow v (ts_N x2) = ts_ow v (ts_N x0))) jj_IA)) = none → u.2 0 = (nI (ts_one (ts_gain v (ts_N x0) (ts_N x1)) + ts_one (ts_gain v (ts_N x1) (ts_N x2)) + ts_one (ts_gain v (ts_N x2) (ts_N x0)))).toInt64)) (fun u => wx a c1 c2 (ts_if ((((((ts_req (ts_in x0 (ts_n v)) jj_IO).or (ts_req (ts_in x1 (ts_n v)) jj_IO)).or (ts_req (ts_in x2 (ts_n v)) jj_IO)).or (ts_req (decide (¬ ts_ow v (ts_N x0) = ts_ow v (ts_N x1))) jj_IA)).or (ts_req (decide (¬ ts_ow v (ts_N x1) = ts_ow v (ts_N x2))) jj_IA)).or (ts_req (decide (¬ ts_ow v (ts_N x2) = ts_ow v (ts_N x0))) jj_IA)) (v) v) u.1.1 u.1.2 ++ ts_oa c3 o u.2) := by
  refine jj_metw (cc := cL_ring) (nL := 6) (by decide) rfl (Nat.le_of_ble_eq_true rfl) (fun E Q hC hEl hED hD0 hH hV hN htab hret => ?_)
  subst hEl
  show jj_J E 0 0 Q (wx a c1 c2 v g h ++ ts_oa c3 o y) 0 [(0, .ref (a 0)), (1, .int x0), (2, .int x1), (3, .int x2), (4, .ref o)] []
  refine jj_aload hC dL_ring_0 rfl ?_
  refine jj_iconst hC dL_ring_2 (v := nI 0) (by decide) ?_
  refine jj_aload_n hC dL_ring_3 rfl ?_
  refine jj_iload_n hC dL_ring_4 rfl ?_
  refine jj_iload_n hC dL_ring_5 rfl ?_
  refine jj_iload_n hC dL_ring_6 rfl ?_
  refine jj_callxL hC hH hV (xm_ring _ _ a c1 c2 c3 v g h hl hI x0 x1 x2) gL_ring_X0_ring rfl 3 (by decide +kernel) ⟨by decide, by decide, by decide, by decide⟩ 0 0 (by rfl) rfl rfl rfl rfl (Nat.le_of_ble_eq_true rfl) dL_ring_7 (fun Ex hEx => ?_) (fun r u hoc hp => ?_)
  · have hq : Ex = jj_IO ∨ Ex = jj_IA := by
      have hE9 := hEx
      rcases ts_rqo hE9 with hE9 | hE9
      · rcases ts_rqo hE9 with hE9 | hE9
        · rcases ts_rqo hE9 with hE9 | hE9
          · rcases ts_rqo hE9 with hE9 | hE9
            · rcases ts_rqo hE9 with hE9 | hE9
              · exact Or.inl (ts_rq hE9)
              · exact Or.inl (hE9)
            · exact Or.inl (hE9)
          · exact Or.inr (hE9)
        · exact Or.inr (hE9)
      · exact Or.inr (hE9)
    rcases hq with rfl | rfl
    · refine jj_catch hC [] ⟨0, 12, 15, 19⟩ [⟨0, 12, 19, 21⟩] htab (fun z hz => by cases hz) (by decide) (by decide) lcring_19 hV.1.1 (fun q => ?_)
      refine jj_astore hC dL_ring_15 (by decide) [1, 2, 3, 4, 5, 0] (lv' := [(0, _), (1, _), (2, _), (3, _), (4, _), (5, .ref _)]) rfl ?_
      refine jj_iconst hC dL_ring_17 (v := nI 1) (by decide) ?_
      rw [hEx] at hret
      exact hret _ _ _ ((g, h), y) dL_ring_18 (by rfl) ⟨by rw [ts_cdIO], fun q => by cases q⟩
    · refine jj_catch hC [⟨0, 12, 15, 19⟩] ⟨0, 12, 19, 21⟩ [] htab (fun z hz => by rw [List.mem_singleton.mp hz]; exact Or.inr ⟨by decide, jj_IO, lcring_19, hN.1⟩) (by decide) (by decide) lcring_21 hV.1.2.1 (fun q => ?_)
      refine jj_astore hC dL_ring_19 (by decide) [1, 2, 3, 4, 5, 0] (lv' := [(0, _), (1, _), (2, _), (3, _), (4, _), (5, .ref _)]) rfl ?_
      refine jj_iconst hC dL_ring_21 (v := nI 2) (by decide) ?_
      rw [hEx] at hret
      exact hret _ _ _ ((g, h), y) dL_ring_22 (by rfl) ⟨by rw [ts_cdIA], fun q => by cases q⟩
  · refine jj_i2l hC dL_ring_10 ?_
    refine jj_last hC 26 2 dL_ring_11 (ts_getapp (by rfl)) rfl (by decide) (by decide) (ts_setapp (by rfl)) ?_
    refine jj_goto hC dL_ring_12 (tgt := 23) (by decide) ?_
    refine jj_iconst hC dL_ring_23 (v := nI 0) (by decide) ?_
    rw [hoc] at hret
    exact hret _ _ _ (u, _) dL_ring_24 (by rfl) ⟨rfl, fun _ => by rw [hp]; rfl⟩
theorem lcfair_21 : Cond.classLink RL 21 "java/lang/IllegalArgumentException" ∈ wsL_fair := by decide +kernel
set_option maxRecDepth 100000 in
set_option maxHeartbeats 4000000 in
theorem lm_fair (l : Launch) (D : va_G) (a : Nat → Nat) (c1 c2 c3 : ClassId) (v : ts_V) (g : Nat → Int32) (h : Int32) (o : Nat) (y : Nat → Int64) (hl : l.stackTraces = false) (hI : ts_I v) (x0 : Int32) : jj_Mw l D (ts_T c1 c2 c3) yL_fair wsL_fair rL_fair [.ref (a 0), .int x0, .ref o] (wx a c1 c2 v g h ++ ts_oa c3 o y) (((Nat → Int32) × Int32) × (Nat → Int64)) (fun r u => r = ts_cd 0 1 0 (ts_req (ts_rg x0 1 10) jj_IA) ∧ ((ts_req (ts_rg x0 1 10) jj_IA) = none → u.2 0 = (nI (ts_fr v (ts_N x0) 0).2).toInt64)) (fun u => wx a c1 c2 (ts_if (ts_req (ts_rg x0 1 10) jj_IA) ((ts_fr v (ts_N x0) 0).1) v) u.1.1 u.1.2 ++ ts_oa c3 o u.2) := by
  refine jj_metw (cc := cL_fair) (nL := 4) (by decide) rfl (Nat.le_of_ble_eq_true rfl) (fun E Q hC hEl hED hD0 hH hV hN htab hret => ?_)
  subst hEl
  show jj_J E 0 0 Q (wx a c1 c2 v g h ++ ts_oa c3 o y) 0 [(0, .ref (a 0)), (1, .int x0), (2, .ref o)] []
  refine jj_aload_n hC dL_fair_0 rfl ?_
  refine jj_iconst hC dL_fair_1 (v := nI 0) (by decide) ?_
  refine jj_aload_n hC dL_fair_2 rfl ?_
  refine jj_iload_n hC dL_fair_3 rfl ?_
  refine jj_callxL hC hH hV (xm_fair _ _ a c1 c2 c3 v g h hl hI x0) gL_fair_X0_fair rfl 1 (by decide +kernel) ⟨by decide, by decide, by decide, by decide⟩ 0 0 (by rfl) rfl rfl rfl rfl (Nat.le_of_ble_eq_true rfl) dL_fair_4 (fun Ex hEx => ?_) (fun r u hoc hp => ?_)
  · have hq : Ex = jj_IA := by
      have hE9 := hEx
      exact ts_rq hE9
    subst hq
    refine jj_catch hC [] ⟨0, 9, 12, 21⟩ [] htab (fun z hz => by cases hz) (by decide) (by decide) lcfair_21 hV.1.2.1 (fun q => ?_)
    refine jj_astore_n hC dL_fair_12 (by decide) [1, 2, 3, 0] (lv' := [(0, _), (1, _), (2, _), (3, .ref _)]) rfl ?_
    refine jj_iconst hC dL_fair_13 (v := nI 1) (by decide) ?_
    rw [hEx] at hret
    exact hret _ _ _ ((g, h), y) dL_fair_14 (by rfl) ⟨by rw [ts_cdIA], fun q => by cases q⟩
  · refine jj_i2l hC dL_fair_7 ?_
    refine jj_last hC 26 2 dL_fair_8 (ts_getapp (by rfl)) rfl (by decide) (by decide) (ts_setapp (by rfl)) ?_
    refine jj_goto hC dL_fair_9 (tgt := 15) (by decide) ?_
    refine jj_iconst hC dL_fair_15 (v := nI 0) (by decide) ?_
    rw [hoc] at hret
    exact hret _ _ _ (u, _) dL_fair_16 (by rfl) ⟨rfl, fun _ => by rw [hp]; rfl⟩
theorem lclend_19 : Cond.classLink RL 19 "java/lang/IndexOutOfBoundsException" ∈ wsL_lend := by decide +kernel
theorem lclend_21 : Cond.classLink RL 21 "java/lang/IllegalArgumentException" ∈ wsL_lend := by decide +kernel
theorem lclend_13 : Cond.classLink RL 13 "java/lang/IllegalStateException" ∈ wsL_lend := by decide +kernel
set_option maxRecDepth 100000 in
set_option maxHeartbeats 4000000 in
theorem lm_lend (l : Launch) (D : va_G) (a : Nat → Nat) (c1 c2 c3 : ClassId) (v : ts_V) (g : Nat → Int32) (h : Int32) (o : Nat) (y : Nat → Int64) (hl : l.stackTraces = false) (hI : ts_I v) (x0 x1 : Int32) : jj_Mw l D (ts_T c1 c2 c3) yL_lend wsL_lend rL_lend [.ref (a 0), .int x0, .int x1, .ref o] (wx a c1 c2 v g h ++ ts_oa c3 o y) (((Nat → Int32) × Int32) × (Nat → Int64)) (fun r u => r = ts_cd 1 2 3 (((ts_req (ts_in x0 (ts_n v)) jj_IO).or (ts_req (ts_rg x1 1 30) jj_IA)).or (ts_req (!(ts_lt v (ts_N x0))) jj_IS)) ∧ ((((ts_req (ts_in x0 (ts_n v)) jj_IO).or (ts_req (ts_rg x1 1 30) jj_IA)).or (ts_req (!(ts_lt v (ts_N x0))) jj_IS)) = none → u.2 0 = (ts_w v + x1).toInt64)) (fun u => wx a c1 c2 (ts_if (((ts_req (ts_in x0 (ts_n v)) jj_IO).or (ts_req (ts_rg x1 1 30) jj_IA)).or (ts_req (!(ts_lt v (ts_N x0))) jj_IS)) ((ts_wk' (ts_ti' v (va_up (ts_ti v) (ts_N x0) (ts_w v + x1))) (va_up (ts_wk v) (ts_N x0) x1))) v) u.1.1 u.1.2 ++ ts_oa c3 o u.2) := by
  refine jj_metw (cc := cL_lend) (nL := 5) (by decide) rfl (Nat.le_of_ble_eq_true rfl) (fun E Q hC hEl hED hD0 hH hV hN htab hret => ?_)
  subst hEl
  show jj_J E 0 0 Q (wx a c1 c2 v g h ++ ts_oa c3 o y) 0 [(0, .ref (a 0)), (1, .int x0), (2, .int x1), (3, .ref o)] []
  refine jj_aload_n hC dL_lend_0 rfl ?_
  refine jj_iconst hC dL_lend_1 (v := nI 0) (by decide) ?_
  refine jj_aload_n hC dL_lend_2 rfl ?_
  refine jj_iload_n hC dL_lend_3 rfl ?_
  refine jj_iload_n hC dL_lend_4 rfl ?_
  refine jj_callxL hC hH hV (xm_lend _ _ a c1 c2 c3 v g h hl hI x0 x1) gL_lend_X0_lend rfl 2 (by decide +kernel) ⟨by decide, by decide, by decide, by decide⟩ 0 0 (by rfl) rfl rfl rfl rfl (Nat.le_of_ble_eq_true rfl) dL_lend_5 (fun Ex hEx => ?_) (fun r u hoc hp => ?_)
  · have hq : Ex = jj_IO ∨ Ex = jj_IA ∨ Ex = jj_IS := by
      have hE9 := hEx
      rcases ts_rqo hE9 with hE9 | hE9
      · rcases ts_rqo hE9 with hE9 | hE9
        · exact Or.inl (ts_rq hE9)
        · exact Or.inr (Or.inl (hE9))
      · exact Or.inr (Or.inr (hE9))
    rcases hq with rfl | rfl | rfl
    · refine jj_catch hC [] ⟨0, 10, 13, 19⟩ [⟨0, 10, 17, 21⟩, ⟨0, 10, 21, 13⟩] htab (fun z hz => by cases hz) (by decide) (by decide) lclend_19 hV.1.1 (fun q => ?_)
      refine jj_astore hC dL_lend_13 (by decide) [1, 2, 3, 4, 0] (lv' := [(0, _), (1, _), (2, _), (3, _), (4, .ref _)]) rfl ?_
      refine jj_iconst hC dL_lend_15 (v := nI 1) (by decide) ?_
      rw [hEx] at hret
      exact hret _ _ _ ((g, h), y) dL_lend_16 (by rfl) ⟨by rw [ts_cdIO], fun q => by cases q⟩
    · refine jj_catch hC [⟨0, 10, 13, 19⟩] ⟨0, 10, 17, 21⟩ [⟨0, 10, 21, 13⟩] htab (fun z hz => by rw [List.mem_singleton.mp hz]; exact Or.inr ⟨by decide, jj_IO, lclend_19, hN.1⟩) (by decide) (by decide) lclend_21 hV.1.2.1 (fun q => ?_)
      refine jj_astore hC dL_lend_17 (by decide) [1, 2, 3, 4, 0] (lv' := [(0, _), (1, _), (2, _), (3, _), (4, .ref _)]) rfl ?_
      refine jj_iconst hC dL_lend_19 (v := nI 2) (by decide) ?_
      rw [hEx] at hret
      exact hret _ _ _ ((g, h), y) dL_lend_20 (by rfl) ⟨by rw [ts_cdIA], fun q => by cases q⟩
    · refine jj_catch hC [⟨0, 10, 13, 19⟩, ⟨0, 10, 17, 21⟩] ⟨0, 10, 21, 13⟩ [] htab (fun z hz => by
          rcases List.mem_cons.mp hz with rfl | hz
          · exact Or.inr ⟨by decide, jj_IO, lclend_19, hN.2.1⟩
          · rw [List.mem_singleton.mp hz]
            exact Or.inr ⟨by decide, jj_IA, lclend_21, hN.2.2⟩) (by decide) (by decide) lclend_13 hV.1.2.2.1 (fun q => ?_)
      refine jj_astore hC dL_lend_21 (by decide) [1, 2, 3, 4, 0] (lv' := [(0, _), (1, _), (2, _), (3, _), (4, .ref _)]) rfl ?_
      refine jj_iconst hC dL_lend_23 (v := nI 3) (by decide) ?_
      rw [hEx] at hret
      exact hret _ _ _ ((g, h), y) dL_lend_24 (by rfl) ⟨by rw [ts_cdIS], fun q => by cases q⟩
  · refine jj_i2l hC dL_lend_8 ?_
    refine jj_last hC 26 2 dL_lend_9 (ts_getapp (by rfl)) rfl (by decide) (by decide) (ts_setapp (by rfl)) ?_
    refine jj_goto hC dL_lend_10 (tgt := 25) (by decide) ?_
    refine jj_iconst hC dL_lend_25 (v := nI 0) (by decide) ?_
    rw [hoc] at hret
    exact hret _ _ _ ((g, h), _) dL_lend_26 (by rfl) ⟨rfl, fun _ => by rw [hp]; rfl⟩
theorem lcshows_19 : Cond.classLink RL 19 "java/lang/IndexOutOfBoundsException" ∈ wsL_shows := by decide +kernel
set_option maxRecDepth 100000 in
set_option maxHeartbeats 4000000 in
theorem lm_shows (l : Launch) (D : va_G) (a : Nat → Nat) (c1 c2 c3 : ClassId) (v : ts_V) (g : Nat → Int32) (h : Int32) (o : Nat) (y : Nat → Int64) (hl : l.stackTraces = false) (hI : ts_I v) (x0 : Int32) : jj_Mw l D (ts_T c1 c2 c3) yL_shows wsL_shows rL_shows [.ref (a 0), .int x0, .ref o] (wx a c1 c2 v g h ++ ts_oa c3 o y) (((Nat → Int32) × Int32) × (Nat → Int64)) (fun r u => r = ts_cd 1 0 0 (ts_req (ts_in x0 8) jj_IO) ∧ ((ts_req (ts_in x0 8) jj_IO) = none → u.2 0 = (nI (ts_bcN (ts_or (fun t => ts_se v t == ts_N x0 && ts_lt v t) (ts_nu v) (ts_n v)))).toInt64)) (fun u => wx a c1 c2 (ts_if (ts_req (ts_in x0 8) jj_IO) (v) v) u.1.1 u.1.2 ++ ts_oa c3 o u.2) := by
  refine jj_metw (cc := cL_shows) (nL := 4) (by decide) rfl (Nat.le_of_ble_eq_true rfl) (fun E Q hC hEl hED hD0 hH hV hN htab hret => ?_)
  subst hEl
  show jj_J E 0 0 Q (wx a c1 c2 v g h ++ ts_oa c3 o y) 0 [(0, .ref (a 0)), (1, .int x0), (2, .ref o)] []
  refine jj_aload_n hC dL_shows_0 rfl ?_
  refine jj_iconst hC dL_shows_1 (v := nI 0) (by decide) ?_
  refine jj_aload_n hC dL_shows_2 rfl ?_
  refine jj_iload_n hC dL_shows_3 rfl ?_
  refine jj_callxL hC hH hV (xm_shows _ _ a c1 c2 c3 v g h hl hI x0) gL_shows_X0_shows rfl 1 (by decide +kernel) ⟨by decide, by decide, by decide, by decide⟩ 0 0 (by rfl) rfl rfl rfl rfl (Nat.le_of_ble_eq_true rfl) dL_shows_4 (fun Ex hEx => ?_) (fun r u hoc hp => ?_)
  · have hq : Ex = jj_IO := by
      have hE9 := hEx
      exact ts_rq hE9
    subst hq
    refine jj_catch hC [] ⟨0, 9, 12, 19⟩ [] htab (fun z hz => by cases hz) (by decide) (by decide) lcshows_19 hV.1.1 (fun q => ?_)
    refine jj_astore_n hC dL_shows_12 (by decide) [1, 2, 3, 0] (lv' := [(0, _), (1, _), (2, _), (3, .ref _)]) rfl ?_
    refine jj_iconst hC dL_shows_13 (v := nI 1) (by decide) ?_
    rw [hEx] at hret
    exact hret _ _ _ ((g, h), y) dL_shows_14 (by rfl) ⟨by rw [ts_cdIO], fun q => by cases q⟩
  · refine jj_i2l hC dL_shows_7 ?_
    refine jj_last hC 26 2 dL_shows_8 (ts_getapp (by rfl)) rfl (by decide) (by decide) (ts_setapp (by rfl)) ?_
    refine jj_goto hC dL_shows_9 (tgt := 15) (by decide) ?_
    refine jj_iconst hC dL_shows_15 (v := nI 0) (by decide) ?_
    rw [hoc] at hret
    exact hret _ _ _ ((g, h), _) dL_shows_16 (by rfl) ⟨rfl, fun _ => by rw [hp]; rfl⟩
theorem lclacks_19 : Cond.classLink RL 19 "java/lang/IndexOutOfBoundsException" ∈ wsL_lacks := by decide +kernel
set_option maxRecDepth 100000 in
set_option maxHeartbeats 4000000 in
theorem lm_lacks (l : Launch) (D : va_G) (a : Nat → Nat) (c1 c2 c3 : ClassId) (v : ts_V) (g : Nat → Int32) (h : Int32) (o : Nat) (y : Nat → Int64) (hl : l.stackTraces = false) (hI : ts_I v) (x0 : Int32) : jj_Mw l D (ts_T c1 c2 c3) yL_lacks wsL_lacks rL_lacks [.ref (a 0), .int x0, .ref o] (wx a c1 c2 v g h ++ ts_oa c3 o y) (((Nat → Int32) × Int32) × (Nat → Int64)) (fun r u => r = ts_cd 1 0 0 (ts_req (ts_in x0 8) jj_IO) ∧ ((ts_req (ts_in x0 8) jj_IO) = none → u.2 0 = (if ts_bcN (ts_or (fun t => ts_se v t == ts_N x0) (ts_nu v) (ts_n v)) < 6 then -1 else nI 6 - nI (ts_bcN (ts_or (fun t => ts_se v t == ts_N x0 && ts_lt v t) (ts_nu v) (ts_n v)))).toInt64)) (fun u => wx a c1 c2 (ts_if (ts_req (ts_in x0 8) jj_IO) (v) v) u.1.1 u.1.2 ++ ts_oa c3 o u.2) := by
  refine jj_metw (cc := cL_lacks) (nL := 4) (by decide) rfl (Nat.le_of_ble_eq_true rfl) (fun E Q hC hEl hED hD0 hH hV hN htab hret => ?_)
  subst hEl
  show jj_J E 0 0 Q (wx a c1 c2 v g h ++ ts_oa c3 o y) 0 [(0, .ref (a 0)), (1, .int x0), (2, .ref o)] []
  refine jj_aload_n hC dL_lacks_0 rfl ?_
  refine jj_iconst hC dL_lacks_1 (v := nI 0) (by decide) ?_
  refine jj_aload_n hC dL_lacks_2 rfl ?_
  refine jj_iload_n hC dL_lacks_3 rfl ?_
  refine jj_callxL hC hH hV (xm_lacks _ _ a c1 c2 c3 v g h hl hI x0) gL_lacks_X0_lacks rfl 1 (by decide +kernel) ⟨by decide, by decide, by decide, by decide⟩ 0 0 (by rfl) rfl rfl rfl rfl (Nat.le_of_ble_eq_true rfl) dL_lacks_4 (fun Ex hEx => ?_) (fun r u hoc hp => ?_)
  · have hq : Ex = jj_IO := by
      have hE9 := hEx
      exact ts_rq hE9
    subst hq
    refine jj_catch hC [] ⟨0, 9, 12, 19⟩ [] htab (fun z hz => by cases hz) (by decide) (by decide) lclacks_19 hV.1.1 (fun q => ?_)
    refine jj_astore_n hC dL_lacks_12 (by decide) [1, 2, 3, 0] (lv' := [(0, _), (1, _), (2, _), (3, .ref _)]) rfl ?_
    refine jj_iconst hC dL_lacks_13 (v := nI 1) (by decide) ?_
    rw [hEx] at hret
    exact hret _ _ _ ((g, h), y) dL_lacks_14 (by rfl) ⟨by rw [ts_cdIO], fun q => by cases q⟩
  · refine jj_i2l hC dL_lacks_7 ?_
    refine jj_last hC 26 2 dL_lacks_8 (ts_getapp (by rfl)) rfl (by decide) (by decide) (ts_setapp (by rfl)) ?_
    refine jj_goto hC dL_lacks_9 (tgt := 15) (by decide) ?_
    refine jj_iconst hC dL_lacks_15 (v := nI 0) (by decide) ?_
    rw [hoc] at hret
    exact hret _ _ _ ((g, h), _) dL_lacks_16 (by rfl) ⟨rfl, fun _ => by rw [hp]; rfl⟩
theorem lcfinest_19 : Cond.classLink RL 19 "java/lang/IndexOutOfBoundsException" ∈ wsL_finest := by decide +kernel
set_option maxRecDepth 100000 in
set_option maxHeartbeats 4000000 in
theorem lm_finest (l : Launch) (D : va_G) (a : Nat → Nat) (c1 c2 c3 : ClassId) (v : ts_V) (g : Nat → Int32) (h : Int32) (o : Nat) (y : Nat → Int64) (hl : l.stackTraces = false) (hI : ts_I v) (x0 : Int32) : jj_Mw l D (ts_T c1 c2 c3) yL_finest wsL_finest rL_finest [.ref (a 0), .int x0, .ref o] (wx a c1 c2 v g h ++ ts_oa c3 o y) (((Nat → Int32) × Int32) × (Nat → Int64)) (fun r u => r = ts_cd 1 0 0 (ts_req (ts_in x0 8) jj_IO) ∧ ((ts_req (ts_in x0 8) jj_IO) = none → u.2 0 = ((ts_fi v (ts_N x0) (ts_k v)).1).toInt64)) (fun u => wx a c1 c2 (ts_if (ts_req (ts_in x0 8) jj_IO) (v) v) u.1.1 u.1.2 ++ ts_oa c3 o u.2) := by
  refine jj_metw (cc := cL_finest) (nL := 4) (by decide) rfl (Nat.le_of_ble_eq_true rfl) (fun E Q hC hEl hED hD0 hH hV hN htab hret => ?_)
  subst hEl
  show jj_J E 0 0 Q (wx a c1 c2 v g h ++ ts_oa c3 o y) 0 [(0, .ref (a 0)), (1, .int x0), (2, .ref o)] []
  refine jj_aload_n hC dL_finest_0 rfl ?_
  refine jj_iconst hC dL_finest_1 (v := nI 0) (by decide) ?_
  refine jj_aload_n hC dL_finest_2 rfl ?_
  refine jj_iload_n hC dL_finest_3 rfl ?_
  refine jj_callxL hC hH hV (xm_finest _ _ a c1 c2 c3 v g h hl hI x0) gL_finest_X0_finest rfl 1 (by decide +kernel) ⟨by decide, by decide, by decide, by decide⟩ 0 0 (by rfl) rfl rfl rfl rfl (Nat.le_of_ble_eq_true rfl) dL_finest_4 (fun Ex hEx => ?_) (fun r u hoc hp => ?_)
  · have hq : Ex = jj_IO := by
      have hE9 := hEx
      exact ts_rq hE9
    subst hq
    refine jj_catch hC [] ⟨0, 9, 12, 19⟩ [] htab (fun z hz => by cases hz) (by decide) (by decide) lcfinest_19 hV.1.1 (fun q => ?_)
    refine jj_astore_n hC dL_finest_12 (by decide) [1, 2, 3, 0] (lv' := [(0, _), (1, _), (2, _), (3, .ref _)]) rfl ?_
    refine jj_iconst hC dL_finest_13 (v := nI 1) (by decide) ?_
    rw [hEx] at hret
    exact hret _ _ _ ((g, h), y) dL_finest_14 (by rfl) ⟨by rw [ts_cdIO], fun q => by cases q⟩
  · refine jj_i2l hC dL_finest_7 ?_
    refine jj_last hC 26 2 dL_finest_8 (ts_getapp (by rfl)) rfl (by decide) (by decide) (ts_setapp (by rfl)) ?_
    refine jj_goto hC dL_finest_9 (tgt := 15) (by decide) ?_
    refine jj_iconst hC dL_finest_15 (v := nI 0) (by decide) ?_
    rw [hoc] at hret
    exact hret _ _ _ (u, _) dL_finest_16 (by rfl) ⟨rfl, fun _ => by rw [hp]; rfl⟩
theorem lcpass_21 : Cond.classLink RL 21 "java/lang/IllegalArgumentException" ∈ wsL_pass := by decide +kernel
set_option maxRecDepth 100000 in
set_option maxHeartbeats 4000000 in
theorem lm_pass (l : Launch) (D : va_G) (a : Nat → Nat) (c1 c2 c3 : ClassId) (v : ts_V) (g : Nat → Int32) (h : Int32) (o : Nat) (y : Nat → Int64) (hl : l.stackTraces = false) (hI : ts_I v) (x0 : Int32) : jj_Mw l D (ts_T c1 c2 c3) yL_pass wsL_pass rL_pass [.ref (a 0), .int x0, .ref o] (wx a c1 c2 v g h ++ ts_oa c3 o y) (((Nat → Int32) × Int32) × (Nat → Int64)) (fun r u => r = ts_cd 0 1 0 (ts_req (ts_rg x0 1 60) jj_IA) ∧ ((ts_req (ts_rg x0 1 60) jj_IA) = none → u.2 0 = (nI (ts_pa v (ts_N x0)).2).toInt64)) (fun u => wx a c1 c2 (ts_if (ts_req (ts_rg x0 1 60) jj_IA) ((ts_pa v (ts_N x0)).1) v) u.1.1 u.1.2 ++ ts_oa c3 o u.2) := by
  refine jj_metw (cc := cL_pass) (nL := 4) (by decide) rfl (Nat.le_of_ble_eq_true rfl) (fun E Q hC hEl hED hD0 hH hV hN htab hret => ?_)
  subst hEl
  show jj_J E 0 0 Q (wx a c1 c2 v g h ++ ts_oa c3 o y) 0 [(0, .ref (a 0)), (1, .int x0), (2, .ref o)] []
  refine jj_aload_n hC dL_pass_0 rfl ?_
  refine jj_iconst hC dL_pass_1 (v := nI 0) (by decide) ?_
  refine jj_aload_n hC dL_pass_2 rfl ?_
  refine jj_iload_n hC dL_pass_3 rfl ?_
  refine jj_callxL hC hH hV (xm_pass _ _ a c1 c2 c3 v g h hl hI x0) gL_pass_X0_pass rfl 1 (by decide +kernel) ⟨by decide, by decide, by decide, by decide⟩ 0 0 (by rfl) rfl rfl rfl rfl (Nat.le_of_ble_eq_true rfl) dL_pass_4 (fun Ex hEx => ?_) (fun r u hoc hp => ?_)
  · have hq : Ex = jj_IA := by
      have hE9 := hEx
      exact ts_rq hE9
    subst hq
    refine jj_catch hC [] ⟨0, 9, 12, 21⟩ [] htab (fun z hz => by cases hz) (by decide) (by decide) lcpass_21 hV.1.2.1 (fun q => ?_)
    refine jj_astore_n hC dL_pass_12 (by decide) [1, 2, 3, 0] (lv' := [(0, _), (1, _), (2, _), (3, .ref _)]) rfl ?_
    refine jj_iconst hC dL_pass_13 (v := nI 1) (by decide) ?_
    rw [hEx] at hret
    exact hret _ _ _ ((g, h), y) dL_pass_14 (by rfl) ⟨by rw [ts_cdIA], fun q => by cases q⟩
  · refine jj_i2l hC dL_pass_7 ?_
    refine jj_last hC 26 2 dL_pass_8 (ts_getapp (by rfl)) rfl (by decide) (by decide) (ts_setapp (by rfl)) ?_
    refine jj_goto hC dL_pass_9 (tgt := 15) (by decide) ?_
    refine jj_iconst hC dL_pass_15 (v := nI 0) (by decide) ?_
    rw [hoc] at hret
    exact hret _ _ _ ((g, h), _) dL_pass_16 (by rfl) ⟨rfl, fun _ => by rw [hp]; rfl⟩
theorem lccount_19 : Cond.classLink RL 19 "java/lang/IndexOutOfBoundsException" ∈ wsL_count := by decide +kernel
set_option maxRecDepth 100000 in
set_option maxHeartbeats 4000000 in
theorem lm_count (l : Launch) (D : va_G) (a : Nat → Nat) (c1 c2 c3 : ClassId) (v : ts_V) (g : Nat → Int32) (h : Int32) (o : Nat) (y : Nat → Int64) (hl : l.stackTraces = false) (hI : ts_I v) (x0 : Int32) : jj_Mw l D (ts_T c1 c2 c3) yL_count wsL_count rL_count [.ref (a 0), .int x0, .ref o] (wx a c1 c2 v g h ++ ts_oa c3 o y) (((Nat → Int32) × Int32) × (Nat → Int64)) (fun r u => r = ts_cd 1 0 0 (ts_req (ts_in x0 7) jj_IO) ∧ ((ts_req (ts_in x0 7) jj_IO) = none → u.2 0 = (ts_cn v (ts_N x0)).toInt64)) (fun u => wx a c1 c2 (ts_if (ts_req (ts_in x0 7) jj_IO) (v) v) u.1.1 u.1.2 ++ ts_oa c3 o u.2) := by
  refine jj_metw (cc := cL_count) (nL := 4) (by decide) rfl (Nat.le_of_ble_eq_true rfl) (fun E Q hC hEl hED hD0 hH hV hN htab hret => ?_)
  subst hEl
  show jj_J E 0 0 Q (wx a c1 c2 v g h ++ ts_oa c3 o y) 0 [(0, .ref (a 0)), (1, .int x0), (2, .ref o)] []
  refine jj_aload_n hC dL_count_0 rfl ?_
  refine jj_iconst hC dL_count_1 (v := nI 0) (by decide) ?_
  refine jj_aload_n hC dL_count_2 rfl ?_
  refine jj_iload_n hC dL_count_3 rfl ?_
  refine jj_callxL hC hH hV (xm_count _ _ a c1 c2 c3 v g h hl hI x0) gL_count_X0_count rfl 1 (by decide +kernel) ⟨by decide, by decide, by decide, by decide⟩ 0 0 (by rfl) rfl rfl rfl rfl (Nat.le_of_ble_eq_true rfl) dL_count_4 (fun Ex hEx => ?_) (fun r u hoc hp => ?_)
  · have hq : Ex = jj_IO := by
      have hE9 := hEx
      exact ts_rq hE9
    subst hq
    refine jj_catch hC [] ⟨0, 9, 12, 19⟩ [] htab (fun z hz => by cases hz) (by decide) (by decide) lccount_19 hV.1.1 (fun q => ?_)
    refine jj_astore_n hC dL_count_12 (by decide) [1, 2, 3, 0] (lv' := [(0, _), (1, _), (2, _), (3, .ref _)]) rfl ?_
    refine jj_iconst hC dL_count_13 (v := nI 1) (by decide) ?_
    rw [hEx] at hret
    exact hret _ _ _ ((g, h), y) dL_count_14 (by rfl) ⟨by rw [ts_cdIO], fun q => by cases q⟩
  · refine jj_i2l hC dL_count_7 ?_
    refine jj_last hC 26 2 dL_count_8 (ts_getapp (by rfl)) rfl (by decide) (by decide) (ts_setapp (by rfl)) ?_
    refine jj_goto hC dL_count_9 (tgt := 15) (by decide) ?_
    refine jj_iconst hC dL_count_15 (v := nI 0) (by decide) ?_
    rw [hoc] at hret
    exact hret _ _ _ (u, _) dL_count_16 (by rfl) ⟨rfl, fun _ => by rw [hp]; rfl⟩
