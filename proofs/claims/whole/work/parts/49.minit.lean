/-! ===== the constructors ===== -/
def ts_0 : ts_V := ((0, 0, 0, 0, 0), (fun _ => 0, fun _ => 0, fun _ => 0, fun _ => 0, fun _ => 0, fun _ => 0, fun _ => 0), (fun _ _ => 0, fun _ _ => 0, fun _ => 0))
theorem ts_I_0 : ts_I ts_0 := ⟨Nat.zero_le _, Nat.zero_le _, fun t ht => absurd ht (Nat.not_lt_zero t), fun _ _ => rfl, fun _ _ => Nat.zero_le _, fun _ _ => ⟨Nat.zero_le _, fun _ => rfl⟩⟩
abbrev ts_z (c : ClassId) (N : Nat) : va_E := .inl (c, N, .inl (fun _ => 0))
theorem wm_0 (b : Nat → Nat) (c1 : ClassId) : wm b c1 ts_0 0 (fun _ => 0) = [(b 0, .inr (1, [.int 0, .int 0, .int 0, .ref (b 1), .ref (b 2), .ref (b 3), .ref (b 4), .ref (b 5), .ref (b 6)])), (b 1, ts_z c1 252), (b 2, ts_z c1 56), (b 3, ts_z c1 49), (b 4, ts_z c1 7), (b 5, ts_z c1 3), (b 6, ts_z c1 6)] := by
  have key : ∀ t w, w < 7 → ts_col ts_0 w t = 0 := fun t => ts_7 rfl rfl rfl rfl rfl rfl rfl
  have h1 : (fun i => ts_col ts_0 (i % 7) (i / 7)) = fun _ => 0 := by
    funext i
    exact key _ _ (Nat.mod_lt _ (by decide))
  have h5 : ts_num ts_0 = fun _ => 0 := by
    funext i
    match i with
    | 0 => rfl
    | 1 => rfl
    | 2 => rfl
    | i + 3 => rfl
  show ([(b 0, _), (b 1, .inl (c1, 252, .inl (fun i => ts_col ts_0 (i % 7) (i / 7)))), (b 2, _), (b 3, _), (b 4, _), (b 5, .inl (c1, 3, .inl (ts_num ts_0))), (b 6, _)] : va_W) = _
  rw [h1, h5]
  rfl
abbrev jj_BI (l : Launch) (D : va_G) (tys : List (ClassId × FieldType)) (ws : va_W) (sz : Nat) (As : List Value) : Array Value → State → Prop := va_Pc As (fun U => U.heap.size = sz ∧ va_P D vwCl ws U.heap ∧ va_K D vwCl tys U ∧ va_D (fun _ => True) ws ∧ va_AOA .int U)
theorem jj_blindI {l : Launch} {D : va_G} {tys : List (ClassId × FieldType)} {ws : va_W} {sz : Nat} {As : List Value} : FrameBlind (jj_BI l D tys ws sz As) := fun a U g mk q => by
  obtain ⟨q0, q1, qP, qK, qD, qA⟩ := q
  exact ⟨q0, q1, qP, va_K.moved (u := U) (U := U.calling g mk a) (Vm.Alike.refl U.vm) qK, qD, va_AOA.moved (u := U) (U := U.calling g mk a) (Vm.Alike.refl U.vm) qA⟩
def jj_Mi (l : Launch) (D : va_G) (tys : List (ClassId × FieldType)) (y : MethodName) (wsC : List Cond) (rm : Room) (As : List Value) (ws : va_W) (S : Type) (post : S → Prop) (wsS : S → va_W) : Prop :=
  ∀ sz : Nat, Met l y wsC rm (jj_BI l D tys ws sz As) (va_Qv post (fun u t => va_P D vwCl (wsS u) t.heap ∧ va_D (va_A ws sz) (wsS u)) (va_A ws sz)) rm.cells rm.slots (va_A ws sz)
theorem jj_metI {cc : ByteArray} {nL : Nat} {rm : Room} {tys : List (ClassId × FieldType)} {ws : va_W} {l : Launch} {D : va_G} {y : MethodName} {wsC ws' : List Cond} {As : List Value} {S : Type} {wsS : S → va_W} {post : S → Prop} (hy : plainName y.cls = true) (hw : wsC = .code y cc nL none :: ws') (hlen : (lg_sl As).length ≤ nL)
    (body : ∀ (E : jj_E) (Q : State → Prop), jj_C cc nL none wsC y.cls rm tys E → va_AOA .int E.2.1.1 → va_D E.2.2.2 ws → E.2.1.2.2.2.2.1.name = y.name → (∀ (pc : Nat) (lv : List (Nat × Value)) (u : S), decode cc pc = .ok (.return_, 1) → post u → jj_J E rm.cells rm.slots Q (wsS u) pc lv []) → jj_J E 0 0 Q ws 0 (lv_args 0 As) []) : jj_Mi l D tys y wsC rm As ws S post wsS := by
  intro sz
  refine Met.ofW (cc := cc) (maxL := nL) (ret := none) hy hw ?_
  intro p e s m args below meth c s₁ B hml hv
  refine jj_enter hlen B hml (⟨hv.1, hv.2.1, hv.2.2.1, hv.2.2.2.1, hv.2.2.2.2.1⟩ : jj_B l D tys ws sz As args s) (fun E hs hE hC hnm hD0 => body E _ hC (by rw [hs]; exact hv.2.2.2.2.2) (by rw [hE]; exact hD0) hnm ?_)
  intro pc lv u hd hp H locs ls hP hD hS hl
  subst hE
  exact W.vret hC.1 hC.2.1 hC.2.2.2.2.2.2.2.1 (fun t ht hW => ⟨⟨u, rfl, hp, by rw [ht]; exact hP, hD⟩, hS.F ht⟩) hS.2.2 hd hC.2.2.2.2.2.2.2.2.1
theorem ts_plr (l : List Nat) (f : Nat → va_E) (e : va_E) : va_pl ([] ++ l) (vr_up f l e) = l.map (fun a => (a, e)) := (vr_rows (L := []) (l := l) (f := f) (e := e) (fun _ _ h => by cases h)).symm
theorem jj_mna {cc : ByteArray} {nL : Nat} {ret : Option FieldType} {Ts : List Cond} {own : String} {rm : Room} {tys : List (ClassId × FieldType)} {E : jj_E} {k n : Nat} {Q : State → Prop} {ws : va_W} {pc : Nat} {lv : List (Nat × Value)} {rest : List Value} (hC : jj_C cc nL ret Ts own rm tys E) {index : Nat} {c1 c2 : ClassId} {N K : Nat} (t1 t2 : Nat) (h1 : tys[t1]? = some (c1, .int)) (h2 : tys[t2]? = some (c2, .array .int)) (hcl : .classLink own index "[[I" ∈ Ts) (harr : .arrayClass .int ∈ Ts) (hao : va_AOA .int E.2.1.1) (hN : N < 2 ^ 31) (hK9 : K < 2 ^ 31) (hb1 : N * 4 ≤ 536870912) (hb2 : K * 4 ≤ 536870912) (hR : k + (1 + N) ≤ rm.cells ∧ n + (N + N * K) ≤ rm.slots) (hd : decode cc pc = .ok (.multianewarray index 2, 4))
    (hk : ∀ (q : Nat) (r : Nat → Nat), jj_J E (k + 1 + N) (n + N + N * K) Q ((ws ++ [(q, .inl (c2, N, .inr (.inr (.inr (.inr (fun i => if i < N then some (r i) else none))))))]) ++ (List.range N).map (fun i => (r i, ts_z c1 K))) (pc + 4) lv (.ref q :: rest)) : jj_J E k n Q ws pc lv (.int (nI K) :: .int (nI N) :: rest) := by
  intro H locs ls hP hD hS hl
  have nn : ∀ j : Nat, j < 2 ^ 31 → ¬ nI j < 0 := fun j hj q => by
    rw [Int32.lt_iff_toInt_lt, nI_toInt hj, Int32.toInt_zero] at q
    omega
  have e0 : ws ++ va_pl [] (fun _ => ts_z c1 0) = ws := List.append_nil ws
  have es : "[" ++ (FieldType.array .int).toString = "[[I" := by decide
  refine va_mna (X := ws) (L := []) (f := fun _ => ts_z c1 0) (ty := .int) (cy := c1) (z := (K, .inl (fun _ => 0))) hC.1 hC.2.1 hC.2.2.2.1 (by rw [es]; exact hC.2.2.2.2.1 _ hcl) hao (hC.2.2.2.2.1 _ harr) (va_nm_int (hC.2.2.2.2.2.1.2 t1 _ h1).2) hC.2.2.2.2.2.1 (by rw [e0]; exact hP) (by rw [e0]; exact hD) hS hC.2.2.2.2.2.2.1 (nn _ hN) (nn _ hK9) (nI_clamp hN) (nI_clamp hK9) hb1 hb2 (by omega) rfl rfl (by rw [hC.2.2.2.2.2.2.2.2.2]; exact hR.1) (by rw [hC.2.2.2.2.2.2.2.2.2]; exact hR.2) (fun cx => by first | exact arrV_new | exact arrV_new .. | (unfold Multi.innerC; exact arrV_new ..)) hd (fun q r cA H1 _ _ hK1 hP1 hD1 hS1 => ?_)
  have a1 : E.2.1.1.vm.findClass ("[" ++ (FieldType.array .int).toString) = some cA := (hK1.2 tys.length (cA, .array .int) (by simp)).2
  have a2 : E.2.1.1.vm.findClass ("[" ++ (FieldType.array .int).toString) = some c2 := (hC.2.2.2.2.2.1.2 t2 _ h2).2
  have e : cA = c2 := Option.some.inj (a1.symm.trans a2)
  subst e
  rw [ts_plr, List.map_map] at hP1 hD1
  exact hk q r H1 locs ls hP1 hD1 hS1 hl
def ts_ax (q : List Nat) (rL rG : Nat → Nat) : Nat → Nat := fun i => if i < 12 then q.getD i 0 else if i < 19 then rL (i - 12) else rG (i - 19)
theorem ts_axL (q : List Nat) (rL rG : Nat → Nat) : (fun i => if i < 7 then some (rL i) else none) = fun c => if c < 7 then some (ts_ax q rL rG (12 + c)) else none := by
  funext i
  by_cases h : i < 7
  · rw [if_pos h, if_pos h]
    unfold ts_ax
    rw [if_neg (by omega), if_pos (by omega), show 12 + i - 12 = i by omega]
  · rw [if_neg h, if_neg h]
theorem ts_axG (q : List Nat) (rL rG : Nat → Nat) : (fun i => if i < 7 then some (rG i) else none) = fun c => if c < 7 then some (ts_ax q rL rG (19 + c)) else none := by
  funext i
  by_cases h : i < 7
  · rw [if_pos h, if_pos h]
    unfold ts_ax
    rw [if_neg (by omega), if_neg (by omega), show 19 + i - 19 = i by omega]
  · rw [if_neg h, if_neg h]
abbrev ts_out (c : ClassId) (r : Nat → Nat) : va_E := .inl (c, 7, .inr (.inr (.inr (.inr (fun i => if i < 7 then some (r i) else none)))))
theorem oa1X1 : Cond.methodLink RX1 1 objectInit ∈ wsX1_init := by decide +kernel
theorem oa2X1 : Cond.instanceMethod objectInit ∈ wsX1_init := by decide +kernel
theorem oa3X1 : Cond.code objectInit ⟨#[0xb1]⟩ 1 none ∈ wsX1_init := by decide +kernel
theorem ahX1_init : Cond.arrayClass .int ∈ wsX1_init := by decide +kernel
theorem lkX1_init_9 : Cond.fieldLink RX1 9 RX1 (TX1 3).2.1 (TX1 3).2.2.1 ∈ wsX1_init := by decide +kernel
theorem lkX1_init_13 : Cond.fieldLink RX1 13 RX1 (TX1 4).2.1 (TX1 4).2.2.1 ∈ wsX1_init := by decide +kernel
theorem lkX1_init_16 : Cond.fieldLink RX1 16 RX1 (TX1 5).2.1 (TX1 5).2.2.1 ∈ wsX1_init := by decide +kernel
theorem lkX1_init_19 : Cond.fieldLink RX1 19 RX1 (TX1 6).2.1 (TX1 6).2.2.1 ∈ wsX1_init := by decide +kernel
theorem lkX1_init_22 : Cond.fieldLink RX1 22 RX1 (TX1 7).2.1 (TX1 7).2.2.1 ∈ wsX1_init := by decide +kernel
theorem lkX1_init_25 : Cond.fieldLink RX1 25 RX1 (TX1 8).2.1 (TX1 8).2.2.1 ∈ wsX1_init := by decide +kernel
theorem hinX1_init : ∀ w ∈ wsX10, w ∈ wsX1_init := by decide +kernel
set_option maxRecDepth 100000 in
set_option maxHeartbeats 4000000 in
theorem mm_init (l : Launch) (D : va_G) (b0 : Nat) (c1 c2 c3 : ClassId) : jj_Mi l D (ts_T c1 c2 c3) yX1_init wsX1_init rX1_init [.ref b0] [(b0, .inr (1, [.int 0, .int 0, .int 0, .null, .null, .null, .null, .null, .null]))] (Nat → Nat) (fun b => b 0 = b0) (fun b => wm b c1 ts_0 0 (fun _ => 0)) := by
  refine jj_metI (cc := cX1_init) (nL := 1) (by decide) rfl (Nat.le_of_ble_eq_true rfl) (fun E Q hC hao hD0 hnm hret => ?_)
  show jj_J E 0 0 Q [(b0, .inr (1, [.int 0, .int 0, .int 0, .null, .null, .null, .null, .null, .null]))] 0 [(0, .ref b0)] []
  refine jj_aload_n hC dX1_init_0 rfl ?_
  refine jj_obj hC oa1X1 oa2X1 oa3X1 dX1_init_1 ⟨by decide, by decide⟩ ?_
  refine jj_aload_n hC dX1_init_4 rfl ?_
  refine jj_sipush hC dX1_init_5 (v := nI 252) (by decide) ?_
  refine jj_newaI (N := 252) hC 0 rfl ahX1_init (by decide) (by decide) (by decide) ⟨by decide, by decide⟩ dX1_init_8 (fun q1 => ?_)
  refine jj_ws (ws' := [(b0, .inr (1, [.int 0, .int 0, .int 0, .null, .null, .null, .null, .null, .null])), (q1, ts_z c1 252)]) rfl ?_
  refine jj_putF hC hnm rfl 0 3 dX1_init_10 (by rfl) rfl (by decide) lkX1_init_9 rfl hinX1_init tyX1_ok nmX1 rfl rfl rfl rfl (Nat.le_of_ble_eq_true rfl) (ws' := [(b0, .inr (1, [.int 0, .int 0, .int 0, .ref q1, .null, .null, .null, .null, .null])), (q1, ts_z c1 252)]) rfl ?_
  refine jj_aload_n hC dX1_init_13 rfl ?_
  refine jj_bipush hC dX1_init_14 (v := nI 56) (by decide) ?_
  refine jj_newaI (N := 56) hC 0 rfl ahX1_init (by decide) (by decide) (by decide) ⟨by decide, by decide⟩ dX1_init_16 (fun q2 => ?_)
  refine jj_ws (ws' := [(b0, .inr (1, [.int 0, .int 0, .int 0, .ref q1, .null, .null, .null, .null, .null])), (q1, ts_z c1 252), (q2, ts_z c1 56)]) rfl ?_
  refine jj_putF hC hnm rfl 0 4 dX1_init_18 (by rfl) rfl (by decide) lkX1_init_13 rfl hinX1_init tyX1_ok nmX1 rfl rfl rfl rfl (Nat.le_of_ble_eq_true rfl) (ws' := [(b0, .inr (1, [.int 0, .int 0, .int 0, .ref q1, .ref q2, .null, .null, .null, .null])), (q1, ts_z c1 252), (q2, ts_z c1 56)]) rfl ?_
  refine jj_aload_n hC dX1_init_21 rfl ?_
  refine jj_bipush hC dX1_init_22 (v := nI 49) (by decide) ?_
  refine jj_newaI (N := 49) hC 0 rfl ahX1_init (by decide) (by decide) (by decide) ⟨by decide, by decide⟩ dX1_init_24 (fun q3 => ?_)
  refine jj_ws (ws' := [(b0, .inr (1, [.int 0, .int 0, .int 0, .ref q1, .ref q2, .null, .null, .null, .null])), (q1, ts_z c1 252), (q2, ts_z c1 56), (q3, ts_z c1 49)]) rfl ?_
  refine jj_putF hC hnm rfl 0 5 dX1_init_26 (by rfl) rfl (by decide) lkX1_init_16 rfl hinX1_init tyX1_ok nmX1 rfl rfl rfl rfl (Nat.le_of_ble_eq_true rfl) (ws' := [(b0, .inr (1, [.int 0, .int 0, .int 0, .ref q1, .ref q2, .ref q3, .null, .null, .null])), (q1, ts_z c1 252), (q2, ts_z c1 56), (q3, ts_z c1 49)]) rfl ?_
  refine jj_aload_n hC dX1_init_29 rfl ?_
  refine jj_bipush hC dX1_init_30 (v := nI 7) (by decide) ?_
  refine jj_newaI (N := 7) hC 0 rfl ahX1_init (by decide) (by decide) (by decide) ⟨by decide, by decide⟩ dX1_init_32 (fun q4 => ?_)
  refine jj_ws (ws' := [(b0, .inr (1, [.int 0, .int 0, .int 0, .ref q1, .ref q2, .ref q3, .null, .null, .null])), (q1, ts_z c1 252), (q2, ts_z c1 56), (q3, ts_z c1 49), (q4, ts_z c1 7)]) rfl ?_
  refine jj_putF hC hnm rfl 0 6 dX1_init_34 (by rfl) rfl (by decide) lkX1_init_19 rfl hinX1_init tyX1_ok nmX1 rfl rfl rfl rfl (Nat.le_of_ble_eq_true rfl) (ws' := [(b0, .inr (1, [.int 0, .int 0, .int 0, .ref q1, .ref q2, .ref q3, .ref q4, .null, .null])), (q1, ts_z c1 252), (q2, ts_z c1 56), (q3, ts_z c1 49), (q4, ts_z c1 7)]) rfl ?_
  refine jj_aload_n hC dX1_init_37 rfl ?_
  refine jj_iconst hC dX1_init_38 (v := nI 3) (by decide) ?_
  refine jj_newaI (N := 3) hC 0 rfl ahX1_init (by decide) (by decide) (by decide) ⟨by decide, by decide⟩ dX1_init_39 (fun q5 => ?_)
  refine jj_ws (ws' := [(b0, .inr (1, [.int 0, .int 0, .int 0, .ref q1, .ref q2, .ref q3, .ref q4, .null, .null])), (q1, ts_z c1 252), (q2, ts_z c1 56), (q3, ts_z c1 49), (q4, ts_z c1 7), (q5, ts_z c1 3)]) rfl ?_
  refine jj_putF hC hnm rfl 0 7 dX1_init_41 (by rfl) rfl (by decide) lkX1_init_22 rfl hinX1_init tyX1_ok nmX1 rfl rfl rfl rfl (Nat.le_of_ble_eq_true rfl) (ws' := [(b0, .inr (1, [.int 0, .int 0, .int 0, .ref q1, .ref q2, .ref q3, .ref q4, .ref q5, .null])), (q1, ts_z c1 252), (q2, ts_z c1 56), (q3, ts_z c1 49), (q4, ts_z c1 7), (q5, ts_z c1 3)]) rfl ?_
  refine jj_aload_n hC dX1_init_44 rfl ?_
  refine jj_bipush hC dX1_init_45 (v := nI 6) (by decide) ?_
  refine jj_newaI (N := 6) hC 0 rfl ahX1_init (by decide) (by decide) (by decide) ⟨by decide, by decide⟩ dX1_init_47 (fun q6 => ?_)
  refine jj_ws (ws' := [(b0, .inr (1, [.int 0, .int 0, .int 0, .ref q1, .ref q2, .ref q3, .ref q4, .ref q5, .null])), (q1, ts_z c1 252), (q2, ts_z c1 56), (q3, ts_z c1 49), (q4, ts_z c1 7), (q5, ts_z c1 3), (q6, ts_z c1 6)]) rfl ?_
  refine jj_putF hC hnm rfl 0 8 dX1_init_49 (by rfl) rfl (by decide) lkX1_init_25 rfl hinX1_init tyX1_ok nmX1 rfl rfl rfl rfl (Nat.le_of_ble_eq_true rfl) (ws' := [(b0, .inr (1, [.int 0, .int 0, .int 0, .ref q1, .ref q2, .ref q3, .ref q4, .ref q5, .ref q6])), (q1, ts_z c1 252), (q2, ts_z c1 56), (q3, ts_z c1 49), (q4, ts_z c1 7), (q5, ts_z c1 3), (q6, ts_z c1 6)]) rfl ?_
  refine jj_ws (ws' := wm (fun i => ([b0, q1, q2, q3, q4, q5, q6] : List Nat).getD i 0) c1 ts_0 0 (fun _ => 0)) (by rw [wm_0]; rfl) ?_
  exact hret _ _ _ dX1_init_52 rfl
theorem wx_0 (a : Nat → Nat) (c1 c2 : ClassId) : wx a c1 c2 ts_0 (fun _ => 0) 0 = [(a 0, .inr (0, [.int 0, .int 0, .int 0, .int 0, .int 0, .ref (a 1), .ref (a 2), .ref (a 3), .ref (a 4), .ref (a 5), .ref (a 6), .ref (a 7), .ref (a 8), .ref (a 9), .ref (a 10), .ref (a 11), .int 0])), (a 1, ts_z c1 36), (a 2, ts_z c1 36), (a 3, ts_z c1 36), (a 4, ts_z c1 36), (a 5, ts_z c1 36), (a 6, ts_z c1 36), (a 7, ts_z c1 36), (a 8, ts_out c2 (fun c => a (12 + c))), (a 9, ts_out c2 (fun c => a (19 + c))), (a 10, ts_z c1 7), (a 11, ts_z c1 48), (a 12, ts_z c1 8), (a 13, ts_z c1 8), (a 14, ts_z c1 8), (a 15, ts_z c1 8), (a 16, ts_z c1 8), (a 17, ts_z c1 8), (a 18, ts_z c1 8), (a 19, ts_z c1 7), (a 20, ts_z c1 7), (a 21, ts_z c1 7), (a 22, ts_z c1 7), (a 23, ts_z c1 7), (a 24, ts_z c1 7), (a 25, ts_z c1 7)] := rfl
theorem oa1X0 : Cond.methodLink RX0 1 objectInit ∈ wsX0_init := by decide +kernel
theorem oa2X0 : Cond.instanceMethod objectInit ∈ wsX0_init := by decide +kernel
theorem oa3X0 : Cond.code objectInit ⟨#[0xb1]⟩ 1 none ∈ wsX0_init := by decide +kernel
theorem ahX0_init : Cond.arrayClass .int ∈ wsX0_init := by decide +kernel
theorem lkX0_init_9 : Cond.fieldLink RX0 9 RX0 (TX0 5).2.1 (TX0 5).2.2.1 ∈ wsX0_init := by decide +kernel
theorem lkX0_init_13 : Cond.fieldLink RX0 13 RX0 (TX0 6).2.1 (TX0 6).2.2.1 ∈ wsX0_init := by decide +kernel
theorem lkX0_init_16 : Cond.fieldLink RX0 16 RX0 (TX0 7).2.1 (TX0 7).2.2.1 ∈ wsX0_init := by decide +kernel
theorem lkX0_init_19 : Cond.fieldLink RX0 19 RX0 (TX0 8).2.1 (TX0 8).2.2.1 ∈ wsX0_init := by decide +kernel
theorem lkX0_init_22 : Cond.fieldLink RX0 22 RX0 (TX0 9).2.1 (TX0 9).2.2.1 ∈ wsX0_init := by decide +kernel
theorem lkX0_init_25 : Cond.fieldLink RX0 25 RX0 (TX0 10).2.1 (TX0 10).2.2.1 ∈ wsX0_init := by decide +kernel
theorem lkX0_init_28 : Cond.fieldLink RX0 28 RX0 (TX0 11).2.1 (TX0 11).2.2.1 ∈ wsX0_init := by decide +kernel
theorem cl2X0_init : Cond.classLink RX0 31 "[[I" ∈ wsX0_init := by decide +kernel
theorem lkX0_init_33 : Cond.fieldLink RX0 33 RX0 (TX0 12).2.1 (TX0 12).2.2.1 ∈ wsX0_init := by decide +kernel
theorem lkX0_init_36 : Cond.fieldLink RX0 36 RX0 (TX0 13).2.1 (TX0 13).2.2.1 ∈ wsX0_init := by decide +kernel
theorem lkX0_init_39 : Cond.fieldLink RX0 39 RX0 (TX0 14).2.1 (TX0 14).2.2.1 ∈ wsX0_init := by decide +kernel
theorem lkX0_init_42 : Cond.fieldLink RX0 42 RX0 (TX0 15).2.1 (TX0 15).2.2.1 ∈ wsX0_init := by decide +kernel
theorem hinX0_init : ∀ w ∈ wsX00, w ∈ wsX0_init := by decide +kernel
set_option maxRecDepth 100000 in
set_option maxHeartbeats 4000000 in
theorem xm_init (l : Launch) (D : va_G) (a0 : Nat) (c1 c2 c3 : ClassId) : jj_Mi l D (ts_T c1 c2 c3) yX0_init wsX0_init rX0_init [.ref a0] [(a0, .inr (0, [.int 0, .int 0, .int 0, .int 0, .int 0, .null, .null, .null, .null, .null, .null, .null, .null, .null, .null, .null, .int 0]))] (Nat → Nat) (fun a => a 0 = a0) (fun a => wx a c1 c2 ts_0 (fun _ => 0) 0) := by
  refine jj_metI (cc := cX0_init) (nL := 1) (by decide) rfl (Nat.le_of_ble_eq_true rfl) (fun E Q hC hao hD0 hnm hret => ?_)
  show jj_J E 0 0 Q [(a0, .inr (0, [.int 0, .int 0, .int 0, .int 0, .int 0, .null, .null, .null, .null, .null, .null, .null, .null, .null, .null, .null, .int 0]))] 0 [(0, .ref a0)] []
  refine jj_aload_n hC dX0_init_0 rfl ?_
  refine jj_obj hC oa1X0 oa2X0 oa3X0 dX0_init_1 ⟨by decide, by decide⟩ ?_
  refine jj_aload_n hC dX0_init_4 rfl ?_
  refine jj_bipush hC dX0_init_5 (v := nI 36) (by decide) ?_
  refine jj_newaI (N := 36) hC 0 rfl ahX0_init (by decide) (by decide) (by decide) ⟨by decide, by decide⟩ dX0_init_7 (fun q1 => ?_)
  refine jj_ws (ws' := [(a0, .inr (0, [.int 0, .int 0, .int 0, .int 0, .int 0, .null, .null, .null, .null, .null, .null, .null, .null, .null, .null, .null, .int 0])), (q1, ts_z c1 36)]) rfl ?_
  refine jj_putF hC hnm rfl 0 5 dX0_init_9 (by rfl) rfl (by decide) lkX0_init_9 rfl hinX0_init tyX0_ok nmX0 rfl rfl rfl rfl (Nat.le_of_ble_eq_true rfl) (ws' := [(a0, .inr (0, [.int 0, .int 0, .int 0, .int 0, .int 0, .ref q1, .null, .null, .null, .null, .null, .null, .null, .null, .null, .null, .int 0])), (q1, ts_z c1 36)]) rfl ?_
  refine jj_aload_n hC dX0_init_12 rfl ?_
  refine jj_bipush hC dX0_init_13 (v := nI 36) (by decide) ?_
  refine jj_newaI (N := 36) hC 0 rfl ahX0_init (by decide) (by decide) (by decide) ⟨by decide, by decide⟩ dX0_init_15 (fun q2 => ?_)
  refine jj_ws (ws' := [(a0, .inr (0, [.int 0, .int 0, .int 0, .int 0, .int 0, .ref q1, .null, .null, .null, .null, .null, .null, .null, .null, .null, .null, .int 0])), (q1, ts_z c1 36), (q2, ts_z c1 36)]) rfl ?_
  refine jj_putF hC hnm rfl 0 6 dX0_init_17 (by rfl) rfl (by decide) lkX0_init_13 rfl hinX0_init tyX0_ok nmX0 rfl rfl rfl rfl (Nat.le_of_ble_eq_true rfl) (ws' := [(a0, .inr (0, [.int 0, .int 0, .int 0, .int 0, .int 0, .ref q1, .ref q2, .null, .null, .null, .null, .null, .null, .null, .null, .null, .int 0])), (q1, ts_z c1 36), (q2, ts_z c1 36)]) rfl ?_
  refine jj_aload_n hC dX0_init_20 rfl ?_
  refine jj_bipush hC dX0_init_21 (v := nI 36) (by decide) ?_
  refine jj_newaI (N := 36) hC 0 rfl ahX0_init (by decide) (by decide) (by decide) ⟨by decide, by decide⟩ dX0_init_23 (fun q3 => ?_)
  refine jj_ws (ws' := [(a0, .inr (0, [.int 0, .int 0, .int 0, .int 0, .int 0, .ref q1, .ref q2, .null, .null, .null, .null, .null, .null, .null, .null, .null, .int 0])), (q1, ts_z c1 36), (q2, ts_z c1 36), (q3, ts_z c1 36)]) rfl ?_
  refine jj_putF hC hnm rfl 0 7 dX0_init_25 (by rfl) rfl (by decide) lkX0_init_16 rfl hinX0_init tyX0_ok nmX0 rfl rfl rfl rfl (Nat.le_of_ble_eq_true rfl) (ws' := [(a0, .inr (0, [.int 0, .int 0, .int 0, .int 0, .int 0, .ref q1, .ref q2, .ref q3, .null, .null, .null, .null, .null, .null, .null, .null, .int 0])), (q1, ts_z c1 36), (q2, ts_z c1 36), (q3, ts_z c1 36)]) rfl ?_
  refine jj_aload_n hC dX0_init_28 rfl ?_
  refine jj_bipush hC dX0_init_29 (v := nI 36) (by decide) ?_
  refine jj_newaI (N := 36) hC 0 rfl ahX0_init (by decide) (by decide) (by decide) ⟨by decide, by decide⟩ dX0_init_31 (fun q4 => ?_)
  refine jj_ws (ws' := [(a0, .inr (0, [.int 0, .int 0, .int 0, .int 0, .int 0, .ref q1, .ref q2, .ref q3, .null, .null, .null, .null, .null, .null, .null, .null, .int 0])), (q1, ts_z c1 36), (q2, ts_z c1 36), (q3, ts_z c1 36), (q4, ts_z c1 36)]) rfl ?_
  refine jj_putF hC hnm rfl 0 8 dX0_init_33 (by rfl) rfl (by decide) lkX0_init_19 rfl hinX0_init tyX0_ok nmX0 rfl rfl rfl rfl (Nat.le_of_ble_eq_true rfl) (ws' := [(a0, .inr (0, [.int 0, .int 0, .int 0, .int 0, .int 0, .ref q1, .ref q2, .ref q3, .ref q4, .null, .null, .null, .null, .null, .null, .null, .int 0])), (q1, ts_z c1 36), (q2, ts_z c1 36), (q3, ts_z c1 36), (q4, ts_z c1 36)]) rfl ?_
  refine jj_aload_n hC dX0_init_36 rfl ?_
  refine jj_bipush hC dX0_init_37 (v := nI 36) (by decide) ?_
  refine jj_newaI (N := 36) hC 0 rfl ahX0_init (by decide) (by decide) (by decide) ⟨by decide, by decide⟩ dX0_init_39 (fun q5 => ?_)
  refine jj_ws (ws' := [(a0, .inr (0, [.int 0, .int 0, .int 0, .int 0, .int 0, .ref q1, .ref q2, .ref q3, .ref q4, .null, .null, .null, .null, .null, .null, .null, .int 0])), (q1, ts_z c1 36), (q2, ts_z c1 36), (q3, ts_z c1 36), (q4, ts_z c1 36), (q5, ts_z c1 36)]) rfl ?_
  refine jj_putF hC hnm rfl 0 9 dX0_init_41 (by rfl) rfl (by decide) lkX0_init_22 rfl hinX0_init tyX0_ok nmX0 rfl rfl rfl rfl (Nat.le_of_ble_eq_true rfl) (ws' := [(a0, .inr (0, [.int 0, .int 0, .int 0, .int 0, .int 0, .ref q1, .ref q2, .ref q3, .ref q4, .ref q5, .null, .null, .null, .null, .null, .null, .int 0])), (q1, ts_z c1 36), (q2, ts_z c1 36), (q3, ts_z c1 36), (q4, ts_z c1 36), (q5, ts_z c1 36)]) rfl ?_
  refine jj_aload_n hC dX0_init_44 rfl ?_
  refine jj_bipush hC dX0_init_45 (v := nI 36) (by decide) ?_
  refine jj_newaI (N := 36) hC 0 rfl ahX0_init (by decide) (by decide) (by decide) ⟨by decide, by decide⟩ dX0_init_47 (fun q6 => ?_)
  refine jj_ws (ws' := [(a0, .inr (0, [.int 0, .int 0, .int 0, .int 0, .int 0, .ref q1, .ref q2, .ref q3, .ref q4, .ref q5, .null, .null, .null, .null, .null, .null, .int 0])), (q1, ts_z c1 36), (q2, ts_z c1 36), (q3, ts_z c1 36), (q4, ts_z c1 36), (q5, ts_z c1 36), (q6, ts_z c1 36)]) rfl ?_
  refine jj_putF hC hnm rfl 0 10 dX0_init_49 (by rfl) rfl (by decide) lkX0_init_25 rfl hinX0_init tyX0_ok nmX0 rfl rfl rfl rfl (Nat.le_of_ble_eq_true rfl) (ws' := [(a0, .inr (0, [.int 0, .int 0, .int 0, .int 0, .int 0, .ref q1, .ref q2, .ref q3, .ref q4, .ref q5, .ref q6, .null, .null, .null, .null, .null, .int 0])), (q1, ts_z c1 36), (q2, ts_z c1 36), (q3, ts_z c1 36), (q4, ts_z c1 36), (q5, ts_z c1 36), (q6, ts_z c1 36)]) rfl ?_
  refine jj_aload_n hC dX0_init_52 rfl ?_
  refine jj_bipush hC dX0_init_53 (v := nI 36) (by decide) ?_
  refine jj_newaI (N := 36) hC 0 rfl ahX0_init (by decide) (by decide) (by decide) ⟨by decide, by decide⟩ dX0_init_55 (fun q7 => ?_)
  refine jj_ws (ws' := [(a0, .inr (0, [.int 0, .int 0, .int 0, .int 0, .int 0, .ref q1, .ref q2, .ref q3, .ref q4, .ref q5, .ref q6, .null, .null, .null, .null, .null, .int 0])), (q1, ts_z c1 36), (q2, ts_z c1 36), (q3, ts_z c1 36), (q4, ts_z c1 36), (q5, ts_z c1 36), (q6, ts_z c1 36), (q7, ts_z c1 36)]) rfl ?_
  refine jj_putF hC hnm rfl 0 11 dX0_init_57 (by rfl) rfl (by decide) lkX0_init_28 rfl hinX0_init tyX0_ok nmX0 rfl rfl rfl rfl (Nat.le_of_ble_eq_true rfl) (ws' := [(a0, .inr (0, [.int 0, .int 0, .int 0, .int 0, .int 0, .ref q1, .ref q2, .ref q3, .ref q4, .ref q5, .ref q6, .ref q7, .null, .null, .null, .null, .int 0])), (q1, ts_z c1 36), (q2, ts_z c1 36), (q3, ts_z c1 36), (q4, ts_z c1 36), (q5, ts_z c1 36), (q6, ts_z c1 36), (q7, ts_z c1 36)]) rfl ?_
  refine jj_aload_n hC dX0_init_60 rfl ?_
  refine jj_bipush hC dX0_init_61 (v := nI 7) (by decide) ?_
  refine jj_bipush hC dX0_init_63 (v := nI 8) (by decide) ?_
  refine jj_mna (N := 7) (K := 8) hC 0 1 rfl rfl cl2X0_init ahX0_init hao (by decide) (by decide) (by decide) (by decide) ⟨by decide, by decide⟩ dX0_init_65 (fun qL rL => ?_)
  refine jj_ws (ws' := [(a0, .inr (0, [.int 0, .int 0, .int 0, .int 0, .int 0, .ref q1, .ref q2, .ref q3, .ref q4, .ref q5, .ref q6, .ref q7, .null, .null, .null, .null, .int 0])), (q1, ts_z c1 36), (q2, ts_z c1 36), (q3, ts_z c1 36), (q4, ts_z c1 36), (q5, ts_z c1 36), (q6, ts_z c1 36), (q7, ts_z c1 36), (qL, ts_out c2 rL), (rL 0, ts_z c1 8), (rL 1, ts_z c1 8), (rL 2, ts_z c1 8), (rL 3, ts_z c1 8), (rL 4, ts_z c1 8), (rL 5, ts_z c1 8), (rL 6, ts_z c1 8)]) rfl ?_
  refine jj_putF hC hnm rfl 0 12 dX0_init_69 (by rfl) rfl (by decide) lkX0_init_33 rfl hinX0_init tyX0_ok nmX0 rfl rfl rfl rfl (Nat.le_of_ble_eq_true rfl) (ws' := [(a0, .inr (0, [.int 0, .int 0, .int 0, .int 0, .int 0, .ref q1, .ref q2, .ref q3, .ref q4, .ref q5, .ref q6, .ref q7, .ref qL, .null, .null, .null, .int 0])), (q1, ts_z c1 36), (q2, ts_z c1 36), (q3, ts_z c1 36), (q4, ts_z c1 36), (q5, ts_z c1 36), (q6, ts_z c1 36), (q7, ts_z c1 36), (qL, ts_out c2 rL), (rL 0, ts_z c1 8), (rL 1, ts_z c1 8), (rL 2, ts_z c1 8), (rL 3, ts_z c1 8), (rL 4, ts_z c1 8), (rL 5, ts_z c1 8), (rL 6, ts_z c1 8)]) rfl ?_
  refine jj_aload_n hC dX0_init_72 rfl ?_
  refine jj_bipush hC dX0_init_73 (v := nI 7) (by decide) ?_
  refine jj_bipush hC dX0_init_75 (v := nI 7) (by decide) ?_
  refine jj_mna (N := 7) (K := 7) hC 0 1 rfl rfl cl2X0_init ahX0_init hao (by decide) (by decide) (by decide) (by decide) ⟨by decide, by decide⟩ dX0_init_77 (fun qG rG => ?_)
  refine jj_ws (ws' := [(a0, .inr (0, [.int 0, .int 0, .int 0, .int 0, .int 0, .ref q1, .ref q2, .ref q3, .ref q4, .ref q5, .ref q6, .ref q7, .ref qL, .null, .null, .null, .int 0])), (q1, ts_z c1 36), (q2, ts_z c1 36), (q3, ts_z c1 36), (q4, ts_z c1 36), (q5, ts_z c1 36), (q6, ts_z c1 36), (q7, ts_z c1 36), (qL, ts_out c2 rL), (rL 0, ts_z c1 8), (rL 1, ts_z c1 8), (rL 2, ts_z c1 8), (rL 3, ts_z c1 8), (rL 4, ts_z c1 8), (rL 5, ts_z c1 8), (rL 6, ts_z c1 8), (qG, ts_out c2 rG), (rG 0, ts_z c1 7), (rG 1, ts_z c1 7), (rG 2, ts_z c1 7), (rG 3, ts_z c1 7), (rG 4, ts_z c1 7), (rG 5, ts_z c1 7), (rG 6, ts_z c1 7)]) rfl ?_
  refine jj_putF hC hnm rfl 0 13 dX0_init_81 (by rfl) rfl (by decide) lkX0_init_36 rfl hinX0_init tyX0_ok nmX0 rfl rfl rfl rfl (Nat.le_of_ble_eq_true rfl) (ws' := [(a0, .inr (0, [.int 0, .int 0, .int 0, .int 0, .int 0, .ref q1, .ref q2, .ref q3, .ref q4, .ref q5, .ref q6, .ref q7, .ref qL, .ref qG, .null, .null, .int 0])), (q1, ts_z c1 36), (q2, ts_z c1 36), (q3, ts_z c1 36), (q4, ts_z c1 36), (q5, ts_z c1 36), (q6, ts_z c1 36), (q7, ts_z c1 36), (qL, ts_out c2 rL), (rL 0, ts_z c1 8), (rL 1, ts_z c1 8), (rL 2, ts_z c1 8), (rL 3, ts_z c1 8), (rL 4, ts_z c1 8), (rL 5, ts_z c1 8), (rL 6, ts_z c1 8), (qG, ts_out c2 rG), (rG 0, ts_z c1 7), (rG 1, ts_z c1 7), (rG 2, ts_z c1 7), (rG 3, ts_z c1 7), (rG 4, ts_z c1 7), (rG 5, ts_z c1 7), (rG 6, ts_z c1 7)]) rfl ?_
  refine jj_aload_n hC dX0_init_84 rfl ?_
  refine jj_bipush hC dX0_init_85 (v := nI 7) (by decide) ?_
  refine jj_newaI (N := 7) hC 0 rfl ahX0_init (by decide) (by decide) (by decide) ⟨by decide, by decide⟩ dX0_init_87 (fun qS => ?_)
  refine jj_ws (ws' := [(a0, .inr (0, [.int 0, .int 0, .int 0, .int 0, .int 0, .ref q1, .ref q2, .ref q3, .ref q4, .ref q5, .ref q6, .ref q7, .ref qL, .ref qG, .null, .null, .int 0])), (q1, ts_z c1 36), (q2, ts_z c1 36), (q3, ts_z c1 36), (q4, ts_z c1 36), (q5, ts_z c1 36), (q6, ts_z c1 36), (q7, ts_z c1 36), (qL, ts_out c2 rL), (rL 0, ts_z c1 8), (rL 1, ts_z c1 8), (rL 2, ts_z c1 8), (rL 3, ts_z c1 8), (rL 4, ts_z c1 8), (rL 5, ts_z c1 8), (rL 6, ts_z c1 8), (qG, ts_out c2 rG), (rG 0, ts_z c1 7), (rG 1, ts_z c1 7), (rG 2, ts_z c1 7), (rG 3, ts_z c1 7), (rG 4, ts_z c1 7), (rG 5, ts_z c1 7), (rG 6, ts_z c1 7), (qS, ts_z c1 7)]) rfl ?_
  refine jj_putF hC hnm rfl 0 14 dX0_init_89 (by rfl) rfl (by decide) lkX0_init_39 rfl hinX0_init tyX0_ok nmX0 rfl rfl rfl rfl (Nat.le_of_ble_eq_true rfl) (ws' := [(a0, .inr (0, [.int 0, .int 0, .int 0, .int 0, .int 0, .ref q1, .ref q2, .ref q3, .ref q4, .ref q5, .ref q6, .ref q7, .ref qL, .ref qG, .ref qS, .null, .int 0])), (q1, ts_z c1 36), (q2, ts_z c1 36), (q3, ts_z c1 36), (q4, ts_z c1 36), (q5, ts_z c1 36), (q6, ts_z c1 36), (q7, ts_z c1 36), (qL, ts_out c2 rL), (rL 0, ts_z c1 8), (rL 1, ts_z c1 8), (rL 2, ts_z c1 8), (rL 3, ts_z c1 8), (rL 4, ts_z c1 8), (rL 5, ts_z c1 8), (rL 6, ts_z c1 8), (qG, ts_out c2 rG), (rG 0, ts_z c1 7), (rG 1, ts_z c1 7), (rG 2, ts_z c1 7), (rG 3, ts_z c1 7), (rG 4, ts_z c1 7), (rG 5, ts_z c1 7), (rG 6, ts_z c1 7), (qS, ts_z c1 7)]) rfl ?_
  refine jj_aload_n hC dX0_init_92 rfl ?_
  refine jj_bipush hC dX0_init_93 (v := nI 48) (by decide) ?_
  refine jj_newaI (N := 48) hC 0 rfl ahX0_init (by decide) (by decide) (by decide) ⟨by decide, by decide⟩ dX0_init_95 (fun qH => ?_)
  refine jj_ws (ws' := [(a0, .inr (0, [.int 0, .int 0, .int 0, .int 0, .int 0, .ref q1, .ref q2, .ref q3, .ref q4, .ref q5, .ref q6, .ref q7, .ref qL, .ref qG, .ref qS, .null, .int 0])), (q1, ts_z c1 36), (q2, ts_z c1 36), (q3, ts_z c1 36), (q4, ts_z c1 36), (q5, ts_z c1 36), (q6, ts_z c1 36), (q7, ts_z c1 36), (qL, ts_out c2 rL), (rL 0, ts_z c1 8), (rL 1, ts_z c1 8), (rL 2, ts_z c1 8), (rL 3, ts_z c1 8), (rL 4, ts_z c1 8), (rL 5, ts_z c1 8), (rL 6, ts_z c1 8), (qG, ts_out c2 rG), (rG 0, ts_z c1 7), (rG 1, ts_z c1 7), (rG 2, ts_z c1 7), (rG 3, ts_z c1 7), (rG 4, ts_z c1 7), (rG 5, ts_z c1 7), (rG 6, ts_z c1 7), (qS, ts_z c1 7), (qH, ts_z c1 48)]) rfl ?_
  refine jj_putF hC hnm rfl 0 15 dX0_init_97 (by rfl) rfl (by decide) lkX0_init_42 rfl hinX0_init tyX0_ok nmX0 rfl rfl rfl rfl (Nat.le_of_ble_eq_true rfl) (ws' := [(a0, .inr (0, [.int 0, .int 0, .int 0, .int 0, .int 0, .ref q1, .ref q2, .ref q3, .ref q4, .ref q5, .ref q6, .ref q7, .ref qL, .ref qG, .ref qS, .ref qH, .int 0])), (q1, ts_z c1 36), (q2, ts_z c1 36), (q3, ts_z c1 36), (q4, ts_z c1 36), (q5, ts_z c1 36), (q6, ts_z c1 36), (q7, ts_z c1 36), (qL, ts_out c2 rL), (rL 0, ts_z c1 8), (rL 1, ts_z c1 8), (rL 2, ts_z c1 8), (rL 3, ts_z c1 8), (rL 4, ts_z c1 8), (rL 5, ts_z c1 8), (rL 6, ts_z c1 8), (qG, ts_out c2 rG), (rG 0, ts_z c1 7), (rG 1, ts_z c1 7), (rG 2, ts_z c1 7), (rG 3, ts_z c1 7), (rG 4, ts_z c1 7), (rG 5, ts_z c1 7), (rG 6, ts_z c1 7), (qS, ts_z c1 7), (qH, ts_z c1 48)]) rfl ?_
  refine jj_pick (ws' := [(a0, .inr (0, [.int 0, .int 0, .int 0, .int 0, .int 0, .ref q1, .ref q2, .ref q3, .ref q4, .ref q5, .ref q6, .ref q7, .ref qL, .ref qG, .ref qS, .ref qH, .int 0])), (q1, ts_z c1 36), (q2, ts_z c1 36), (q3, ts_z c1 36), (q4, ts_z c1 36), (q5, ts_z c1 36), (q6, ts_z c1 36), (q7, ts_z c1 36), (qL, ts_out c2 rL), (qG, ts_out c2 rG), (qS, ts_z c1 7), (qH, ts_z c1 48), (rL 0, ts_z c1 8), (rL 1, ts_z c1 8), (rL 2, ts_z c1 8), (rL 3, ts_z c1 8), (rL 4, ts_z c1 8), (rL 5, ts_z c1 8), (rL 6, ts_z c1 8), (rG 0, ts_z c1 7), (rG 1, ts_z c1 7), (rG 2, ts_z c1 7), (rG 3, ts_z c1 7), (rG 4, ts_z c1 7), (rG 5, ts_z c1 7), (rG 6, ts_z c1 7)]) [0, 1, 2, 3, 4, 5, 6, 7, 8, 16, 24, 25, 9, 10, 11, 12, 13, 14, 15, 17, 18, 19, 20, 21, 22, 23] (by decide) rfl rfl ?_
  refine jj_ws (ws' := wx (ts_ax [a0, q1, q2, q3, q4, q5, q6, q7, qL, qG, qS, qH] rL rG) c1 c2 ts_0 (fun _ => 0) 0) (by rw [wx_0]; unfold ts_out; rw [ts_axL [a0, q1, q2, q3, q4, q5, q6, q7, qL, qG, qS, qH] rL rG, ts_axG [a0, q1, q2, q3, q4, q5, q6, q7, qL, qG, qS, qH] rL rG]; rfl) ?_
  exact hret _ _ _ dX0_init_100 rfl
