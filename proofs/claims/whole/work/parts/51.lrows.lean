/-! ===== the law's walk: rows ===== -/
section LAWR
variable {cc : ByteArray} {nL : Nat} {ret : Option FieldType} {Ts : List Cond} {own : String} {rm : Room} {tys : List (ClassId × FieldType)} {E : jj_E} {k n : Nat} {Q : State → Prop} {ws : va_W} {pc : Nat} {lv : List (Nat × Value)} {rest : List Value}
theorem jj_sld (hC : jj_C cc nL ret Ts own rm tys E) {b L : Nat} {xs : Nat → Int32} (hX : va_X b L xs E.2.1.1 E.2.1.1.heap) (hbl : b < E.2.1.1.heap.size) (hbA : ¬ E.2.2.2 b) {i : Nat} (hi : i < L) (hL : L < 2 ^ 31) (hd : decode cc pc = .ok (.iaload, 1)) (hk : jj_J E k n Q ws (pc + 1) lv (.int (xs i) :: rest)) : jj_J E k n Q ws pc lv (.int (nI i) :: .ref b :: rest) := by
  intro H locs ls hP hD hS hl
  exact va_sld hC.1 hC.2.1 hX hbl hbA hS (vp_in_nI hi hL) hd (by rw [nI_clamp (Nat.lt_trans hi hL)]; exact hk H locs ls hP hD hS hl)
theorem jj_slen (hC : jj_C cc nL ret Ts own rm tys E) {b L : Nat} {xs : Nat → Int32} (hX : va_X b L xs E.2.1.1 E.2.1.1.heap) (hbl : b < E.2.1.1.heap.size) (hbA : ¬ E.2.2.2 b) (hd : decode cc pc = .ok (.arraylength, 1)) (hk : jj_J E k n Q ws (pc + 1) lv (.int (nI L) :: rest)) : jj_J E k n Q ws pc lv (.ref b :: rest) := fun H locs ls hP hD hS hl => va_slen hC.1 hC.2.1 hX hbl hbA hS hd (hk H locs ls hP hD hS hl)
theorem jj_newaJ (hC : jj_C cc nL ret Ts own rm tys E) {n0 : Int32} {N : Nat} {cA : ClassId} (t0 : Nat) (ht : tys[t0]? = some (cA, .long)) (harr : Cond.arrayClass .long ∈ Ts) (hn : ¬ n0 < 0) (hN : n0.toNatClampNeg = N) (hb : N * 8 ≤ 536870912) (hR : k + 1 ≤ rm.cells ∧ n + N ≤ rm.slots) (hd : decode cc pc = .ok (.newarray .long, 2)) (hk : ∀ q : Nat, jj_J E (k + 1) (n + N) Q (ws ++ [(q, .inl (cA, N, .inr (.inl (fun _ => 0))))]) (pc + 2) lv (.ref q :: rest)) : jj_J E k n Q ws pc lv (.int n0 :: rest) := by
  intro H locs ls hP hD hS hl
  refine va_newa hC.1 hC.2.1 (atype := .long) (hC.2.2.2.2.1 _ harr) (ty := .long) rfl hC.2.2.2.2.2.1 hP hD hS hC.2.2.2.2.2.2.1 (a0 := (N, .inr (.inl (fun _ => 0)))) (fun _ => rfl) hn hN hb (by rw [hC.2.2.2.2.2.2.2.2.2]; exact hR.1) (by rw [hC.2.2.2.2.2.2.2.2.2]; exact hR.2) hd (fun q cB H1 hK hP1 hD1 hS1 => ?_)
  have h1 := va_nm_long (hK.2 tys.length (cB, .long) (by simp)).2
  have h2 := va_nm_long (hC.2.2.2.2.2.1.2 t0 _ ht).2
  have e : cB = cA := Option.some.inj (h1.symm.trans h2)
  subst e
  exact hk q H1 locs ls hP1 hD1 hS1 hl
theorem jj_newo (hC : jj_C cc nL ret Ts own rm tys E) {C : String} {T : u_T} {N ci index : Nat} {ty : Nat → FieldType} {fs : List Value} (hin : ∀ w ∈ u_ws C T N, w ∈ Ts) (hty : ∀ k, k < N → parseFieldDescriptor (T k).2.2.1 = some (ty k)) (hcl : .classLink own index C ∈ Ts) (hinst : .instantiable C N ∈ Ts) (hini : .initialized C ∈ Ts) (hc : vwCl[ci]? = some (C, T, N)) (hfs : ∀ j, j < N → defaultValue (ty j) = vp_V fs j) (hR : k + 1 ≤ rm.cells ∧ n + N ≤ rm.slots) (hd : decode cc pc = .ok (.new index, 3)) (hk : ∀ q : Nat, jj_J E (k + 1) (n + N) Q (ws ++ [(q, .inr (ci, fs))]) (pc + 3) lv (.ref q :: rest)) : jj_J E k n Q ws pc lv rest := by
  intro H locs ls hP hD hS hl
  exact va_new hC.1 hC.2.1 hC.2.2.2.2.1 hin ty hty hC.2.2.2.1 (hC.2.2.2.2.1 _ hcl) (hC.2.2.2.2.1 _ hinst) (hC.2.2.2.2.1 _ hini) hC.2.2.2.2.2.1 hP hD hS hC.2.2.2.2.2.2.1 hc hfs (by rw [hC.2.2.2.2.2.2.2.2.2]; exact hR.1) (by rw [hC.2.2.2.2.2.2.2.2.2]; exact hR.2) hd (fun q H1 hP1 hD1 hS1 => hk q H1 locs ls hP1 hD1 hS1 hl)
theorem jj_calI {wr : va_W} {index : Nat} {y : MethodName} {bytes : ByteArray} {maxL : Nat} {wsC wsC' : List Cond} {rc : Room} {b : Nat} {S : Type} {wsS : S → va_W} {post : S → Prop} (hC : jj_C cc nL ret Ts own rm tys E) (hao : va_AOA .int E.2.1.1) (hM : jj_Mi E.1.2.1 E.2.2.1 tys y wsC rc [.ref b] ws S post wsS) (hg : GoodIn Ts wsC) (hw : wsC = .code y bytes maxL none :: wsC') (h1 : .initialized y.cls ∈ Ts) (h2 : .methodLink own index y ∈ Ts) (h3 : .instanceMethod y ∈ Ts) (hnm : y.name = "<init>") (hdy : y.cls ≠ "java/lang/invoke/MethodHandle" ∧ y.cls ≠ "java/lang/invoke/VarHandle" ∧ (parseMethodDescriptor y.desc).map (fun d => d.parameters.length) = some 0) (hR : rc.frames + 1 ≤ rm.frames ∧ 8 + (maxL + 11) + rc.locals ≤ rm.locals ∧ k + rc.cells ≤ rm.cells ∧ n + rc.slots ≤ rm.slots) (hcat : (rest.map fun v => v.category).sum ≤ 8) (hd : decode cc pc = .ok (.invokespecial index, 3)) (hk : ∀ (u : S), post u → jj_J E (k + rc.cells) (n + rc.slots) Q (wr ++ wsS u) (pc + 3) lv rest) : jj_J E k n Q (wr ++ ws) pc lv (.ref b :: rest) := by
  intro H locs ls hP hD hS hl
  have hR0 : E.1.2.2.2 = rm := hC.2.2.2.2.2.2.2.2.2
  have hPc : va_P E.2.2.1 vwCl ws H := jj_Pr hP
  have hDc : va_D E.2.2.2 ws := jj_Dr hD
  have hFc := jj_own hDc hS hC.2.2.2.2.2.2.1
  refine va_callv (va_runI (As := []) (rest := rest) ⟨hC.1, hC.2.1, hC.2.2.1, hC.2.2.2.1, hC.2.2.2.2.1⟩ (hM H.size) (cwI 0 hC.2.2.2.2.1 hg hw rfl rfl (hC.2.2.2.2.1 _ h1) (hC.2.2.2.2.1 _ h2) (hC.2.2.2.2.1 _ h3) hnm hdy ⟨by rw [hR0]; exact hR.1, by rw [hR0]; exact hR.2.1⟩) ⟨jj_blindI, fun U hU hW => ⟨rfl, by rw [hU], by rw [hU]; exact hPc, va_K.moved hW.alike hC.2.2.2.2.2.1, hDc.weaken (fun _ _ _ _ => trivial), va_AOA.moved hW.alike hao⟩⟩ rfl rfl (hl.1.trans hC.2.2.1) rfl (lv_room hcat) hd ⟨by rw [hR0]; exact hR.2.2.1, by rw [hR0]; exact hR.2.2.2⟩) hS (fun q _ h => hFc q h) hFc (fun u t H1 locs1 ht hvm hp hB hz1 hk1 hS1 => ?_)
  rw [ht] at hB
  obtain ⟨hP2, hD2⟩ := jj_joinR hP hD hk1 hFc hB.1 hB.2
  exact hk u hp H1 locs1 ls hP2 hD2 hS1 hl
theorem jj_scallwL {wr : va_W} {index : Nat} {y : MethodName} {bytes : ByteArray} {maxL : Nat} {rt : Option FieldType} {hh : List (Nat × Nat × Nat × Nat)} {wsC wsC' : List Cond} {rc : Room} {As As0 st0 : List Value} {S : Type} {wsS : S → va_W} {post : Int32 → S → Prop} (hC : jj_C cc nL ret Ts own rm tys E) (hH : jj_XH E.2.2.2 E.2.1.1 E.2.1.1.heap) (hV : jj_XV E.2.1.1) (hNc : jj_XN E.2.1.1) (hM : jj_Mw E.1.2.1 E.2.2.1 tys y wsC rc As ws S post wsS) (hg : GoodIn Ts (va_wsS own index y wsC)) (hw : wsC = .codeWith y bytes maxL rt hh :: wsC') (np : Nat) (hdy : y.cls ≠ "java/lang/invoke/MethodHandle" ∧ y.cls ≠ "java/lang/invoke/VarHandle" ∧ (parseMethodDescriptor y.desc).map (fun d => d.parameters.length) = some np) (hR : rc.frames + 1 ≤ rm.frames ∧ 8 + (maxL + 11) + rc.locals ≤ rm.locals ∧ k + rc.cells ≤ rm.cells ∧ n + rc.slots ≤ rm.slots) (hAs : As = As0) (hst : st0 = As0.reverse ++ rest) (hn : As0.length = np) (hcat : (rest.map fun v => v.category).sum ≤ 8) (hd : decode cc pc = .ok (.invokestatic index, 3)) (hk : ∀ (r : Int32) (u : S), post r u → jj_J E (k + rc.cells) (n + rc.slots) Q (wsS u ++ wr) (pc + 3) lv (.int r :: rest)) : jj_J E k n Q (ws ++ wr) pc lv st0 := by
  intro H locs ls hP hD hS hl
  subst hAs
  have hR0 : E.1.2.2.2 = rm := hC.2.2.2.2.2.2.2.2.2
  have hPc : va_P E.2.2.1 vwCl ws H := jj_Pl hP
  have hDc : va_D E.2.2.2 ws := jj_Dl hD
  have hFc := jj_own hDc hS hC.2.2.2.2.2.2.1
  refine va_calli (vx_runSW (hh := hh) (As := As) (rest := rest) ⟨hC.1, hC.2.1, hC.2.2.1, hC.2.2.2.1, hC.2.2.2.2.1⟩ (hM H.size) (vx_cwSW np hC.2.2.2.2.1 hg hw rfl rfl hdy ⟨by rw [hR0]; exact hR.1, by rw [hR0]; exact hR.2.1⟩) ⟨jj_blindW, fun U hU hW => ⟨rfl, by rw [hU], by rw [hU]; exact hPc, va_K.moved hW.alike hC.2.2.2.2.2.1, hDc.weaken (fun _ _ _ _ => trivial), by rw [hU]; exact ((hH.kept hS.2.1).moved hW.alike).narrow hFc, hV.warm hW, hNc.moved hW.alike⟩⟩ rfl hn (hl.1.trans hC.2.2.1) hst (lv_room hcat) hd ⟨by rw [hR0]; exact hR.2.2.1, by rw [hR0]; exact hR.2.2.2⟩) hS (fun q _ h => hFc q h) hFc (fun r u t H1 locs1 ht hvm hp hB hz1 hk1 hS1 => ?_)
  rw [ht] at hB
  obtain ⟨hP2, hD2⟩ := jj_joinL hP hD hk1 hFc hB.1 hB.2
  exact hk r u hp H1 locs1 ls hP2 hD2 hS1 hl
end LAWR
theorem ts_lcmp (x : Int64) : lg_cmp x x = 0 := by
  unfold lg_cmp
  simp
theorem ts_N_lt {x : Int32} {N : Nat} (h : ts_in x N = true) : ts_N x < N := by
  have h1 : 0 ≤ x.toInt ∧ x.toInt < (N : Int) := by simpa [ts_in] using h
  show x.toInt.toNat < N
  omega
theorem ts_rq0 {b : Bool} {e : String} (h : ts_req b e = none) : b = true := by
  unfold ts_req at h
  split at h
  · assumption
  · cases h
theorem ts_rqn {o : Option String} {b : Bool} {e : String} (h : o.or (ts_req b e) = none) : o = none ∧ b = true := by
  cases o with
  | none => exact ⟨rfl, ts_rq0 (by simpa using h)⟩
  | some w => simp at h
theorem lz_join {v : ts_V} (hI : ts_I v)  : ((ts_req (decide (ts_k v < 7)) jj_IS) = none ∧ ts_I ((ts_jn v))) ∨ ∃ (Ex : String) (c : Nat), (ts_req (decide (ts_k v < 7)) jj_IS) = some Ex ∧ 0 < c ∧ c < 4 ∧ ts_cd 0 0 1 (ts_req (decide (ts_k v < 7)) jj_IS) = nI c := by
  cases hoc : (ts_req (decide (ts_k v < 7)) jj_IS) with
  | none =>
    refine Or.inl ⟨rfl, ?_⟩
    have hg0 := ts_rq0 hoc
    exact ts_I_jn hI (by simpa using hg0)
  | some Ex =>
    have hq : Ex = jj_IS := by
      have hE9 := hoc
      exact ts_rq hE9
    subst hq
    exact Or.inr ⟨_, _, rfl, by decide, by decide, ts_cdIS 0 0 1⟩
theorem lz_find {v : ts_V} (hI : ts_I v) (x0 x1 x2 x3 x4 : Int32) : ((((ts_req (ts_in x0 (ts_k v)) jj_IO).or (ts_req (ts_in x1 8 && (ts_in x2 6 && (ts_in x3 20 && ts_in x4 10))) jj_IA)).or (ts_req (decide (ts_n v < 36)) jj_IS)) = none ∧ ts_I ((ts_fd v (ts_N x0) (ts_N x1) (ts_N x2) (ts_N x3) (ts_N x4)))) ∨ ∃ (Ex : String) (c : Nat), (((ts_req (ts_in x0 (ts_k v)) jj_IO).or (ts_req (ts_in x1 8 && (ts_in x2 6 && (ts_in x3 20 && ts_in x4 10))) jj_IA)).or (ts_req (decide (ts_n v < 36)) jj_IS)) = some Ex ∧ 0 < c ∧ c < 4 ∧ ts_cd 1 2 3 (((ts_req (ts_in x0 (ts_k v)) jj_IO).or (ts_req (ts_in x1 8 && (ts_in x2 6 && (ts_in x3 20 && ts_in x4 10))) jj_IA)).or (ts_req (decide (ts_n v < 36)) jj_IS)) = nI c := by
  cases hoc : (((ts_req (ts_in x0 (ts_k v)) jj_IO).or (ts_req (ts_in x1 8 && (ts_in x2 6 && (ts_in x3 20 && ts_in x4 10))) jj_IA)).or (ts_req (decide (ts_n v < 36)) jj_IS)) with
  | none =>
    refine Or.inl ⟨rfl, ?_⟩
    obtain ⟨hoc, hg2⟩ := ts_rqn hoc
    obtain ⟨hoc, hg1⟩ := ts_rqn hoc
    have hg0 := ts_rq0 hoc
    have hb : ∀ j : Fin 4, (match j with | 0 => ts_in x1 8 | 1 => ts_in x2 6 | 2 => ts_in x3 20 | 3 => ts_in x4 10) = true := by
      rw [Bool.and_eq_true, Bool.and_eq_true, Bool.and_eq_true] at hg1
      intro j
      match j with
      | 0 => exact hg1.1
      | 1 => exact hg1.2.1
      | 2 => exact hg1.2.2.1
      | 3 => exact hg1.2.2.2
    exact ts_I_fd hI (by simpa using hg2) (ts_N_lt hg0) (ts_N_lt (hb 0)) (ts_N_lt (hb 1)) (ts_N_lt (hb 2)) (Nat.le_of_lt_succ (ts_N_lt (hb 3)))
  | some Ex =>
    have hq : Ex = jj_IO ∨ Ex = jj_IA ∨ Ex = jj_IS := by
      have hE9 := hoc
      rcases ts_rqo hE9 with hE9 | hE9
      · rcases ts_rqo hE9 with hE9 | hE9
        · exact Or.inl (ts_rq hE9)
        · exact Or.inr (Or.inl (hE9))
      · exact Or.inr (Or.inr (hE9))
    rcases hq with rfl | rfl | rfl
    · exact Or.inr ⟨_, _, rfl, by decide, by decide, ts_cdIO 1 2 3⟩
    · exact Or.inr ⟨_, _, rfl, by decide, by decide, ts_cdIA 1 2 3⟩
    · exact Or.inr ⟨_, _, rfl, by decide, by decide, ts_cdIS 1 2 3⟩
theorem lz_like {v : ts_V} (hI : ts_I v) (x0 x1 x2 : Int32) : ((((ts_req (ts_in x0 (ts_k v)) jj_IO).or (ts_req (ts_in x1 8) jj_IO)).or (ts_req (ts_in x2 6) jj_IA)) = none ∧ ts_I ((ts_li' v (ts_up2 (ts_li v) (ts_N x0) (ts_N x1) (ts_N x2))))) ∨ ∃ (Ex : String) (c : Nat), (((ts_req (ts_in x0 (ts_k v)) jj_IO).or (ts_req (ts_in x1 8) jj_IO)).or (ts_req (ts_in x2 6) jj_IA)) = some Ex ∧ 0 < c ∧ c < 4 ∧ ts_cd 1 2 0 (((ts_req (ts_in x0 (ts_k v)) jj_IO).or (ts_req (ts_in x1 8) jj_IO)).or (ts_req (ts_in x2 6) jj_IA)) = nI c := by
  cases hoc : (((ts_req (ts_in x0 (ts_k v)) jj_IO).or (ts_req (ts_in x1 8) jj_IO)).or (ts_req (ts_in x2 6) jj_IA)) with
  | none =>
    refine Or.inl ⟨rfl, ?_⟩
    obtain ⟨hoc, hg2⟩ := ts_rqn hoc
    obtain ⟨hoc, hg1⟩ := ts_rqn hoc
    have hg0 := ts_rq0 hoc
    exact ts_I_li hI (Nat.le_of_lt_succ (ts_N_lt hg2))
  | some Ex =>
    have hq : Ex = jj_IO ∨ Ex = jj_IA := by
      have hE9 := hoc
      rcases ts_rqo hE9 with hE9 | hE9
      · rcases ts_rqo hE9 with hE9 | hE9
        · exact Or.inl (ts_rq hE9)
        · exact Or.inl (hE9)
      · exact Or.inr (hE9)
    rcases hq with rfl | rfl
    · exact Or.inr ⟨_, _, rfl, by decide, by decide, ts_cdIO 1 2 0⟩
    · exact Or.inr ⟨_, _, rfl, by decide, by decide, ts_cdIA 1 2 0⟩
theorem lz_collector {v : ts_V} (hI : ts_I v) (x0 x1 : Int32) : (((ts_req (ts_in x0 (ts_k v)) jj_IO).or (ts_req (ts_in x1 7) jj_IO)) = none ∧ ts_I (v)) ∨ ∃ (Ex : String) (c : Nat), ((ts_req (ts_in x0 (ts_k v)) jj_IO).or (ts_req (ts_in x1 7) jj_IO)) = some Ex ∧ 0 < c ∧ c < 4 ∧ ts_cd 1 0 0 ((ts_req (ts_in x0 (ts_k v)) jj_IO).or (ts_req (ts_in x1 7) jj_IO)) = nI c := by
  cases hoc : ((ts_req (ts_in x0 (ts_k v)) jj_IO).or (ts_req (ts_in x1 7) jj_IO)) with
  | none =>
    refine Or.inl ⟨rfl, ?_⟩
    obtain ⟨hoc, hg1⟩ := ts_rqn hoc
    have hg0 := ts_rq0 hoc
    exact hI
  | some Ex =>
    have hq : Ex = jj_IO := by
      have hE9 := hoc
      rcases ts_rqo hE9 with hE9 | hE9
      · exact ts_rq hE9
      · exact hE9
    subst hq
    exact Or.inr ⟨_, _, rfl, by decide, by decide, ts_cdIO 1 0 0⟩
theorem lz_grudge {v : ts_V} (hI : ts_I v) (x0 x1 : Int32) : (((ts_req (ts_in x0 (ts_k v)) jj_IO).or (ts_req (ts_in x1 (ts_k v)) jj_IO)) = none ∧ ts_I (v)) ∨ ∃ (Ex : String) (c : Nat), ((ts_req (ts_in x0 (ts_k v)) jj_IO).or (ts_req (ts_in x1 (ts_k v)) jj_IO)) = some Ex ∧ 0 < c ∧ c < 4 ∧ ts_cd 1 0 0 ((ts_req (ts_in x0 (ts_k v)) jj_IO).or (ts_req (ts_in x1 (ts_k v)) jj_IO)) = nI c := by
  cases hoc : ((ts_req (ts_in x0 (ts_k v)) jj_IO).or (ts_req (ts_in x1 (ts_k v)) jj_IO)) with
  | none =>
    refine Or.inl ⟨rfl, ?_⟩
    obtain ⟨hoc, hg1⟩ := ts_rqn hoc
    have hg0 := ts_rq0 hoc
    exact hI
  | some Ex =>
    have hq : Ex = jj_IO := by
      have hE9 := hoc
      rcases ts_rqo hE9 with hE9 | hE9
      · exact ts_rq hE9
      · exact hE9
    subst hq
    exact Or.inr ⟨_, _, rfl, by decide, by decide, ts_cdIO 1 0 0⟩
theorem lz_thimble {v : ts_V} (hI : ts_I v) (x0 x1 : Int32) : (((ts_req (ts_in x0 (ts_n v)) jj_IO).or (ts_req (ts_in x1 6) jj_IO)) = none ∧ ts_I (v)) ∨ ∃ (Ex : String) (c : Nat), ((ts_req (ts_in x0 (ts_n v)) jj_IO).or (ts_req (ts_in x1 6) jj_IO)) = some Ex ∧ 0 < c ∧ c < 4 ∧ ts_cd 1 0 0 ((ts_req (ts_in x0 (ts_n v)) jj_IO).or (ts_req (ts_in x1 6) jj_IO)) = nI c := by
  cases hoc : ((ts_req (ts_in x0 (ts_n v)) jj_IO).or (ts_req (ts_in x1 6) jj_IO)) with
  | none =>
    refine Or.inl ⟨rfl, ?_⟩
    obtain ⟨hoc, hg1⟩ := ts_rqn hoc
    have hg0 := ts_rq0 hoc
    exact hI
  | some Ex =>
    have hq : Ex = jj_IO := by
      have hE9 := hoc
      rcases ts_rqo hE9 with hE9 | hE9
      · exact ts_rq hE9
      · exact hE9
    subst hq
    exact Or.inr ⟨_, _, rfl, by decide, by decide, ts_cdIO 1 0 0⟩
theorem lz_gains {v : ts_V} (hI : ts_I v) (x0 x1 : Int32) : ((((ts_req (ts_in x0 (ts_n v)) jj_IO).or (ts_req (ts_in x1 (ts_n v)) jj_IO)).or (ts_req (decide (¬ ts_ow v (ts_N x0) = ts_ow v (ts_N x1))) jj_IA)) = none ∧ ts_I (v)) ∨ ∃ (Ex : String) (c : Nat), (((ts_req (ts_in x0 (ts_n v)) jj_IO).or (ts_req (ts_in x1 (ts_n v)) jj_IO)).or (ts_req (decide (¬ ts_ow v (ts_N x0) = ts_ow v (ts_N x1))) jj_IA)) = some Ex ∧ 0 < c ∧ c < 4 ∧ ts_cd 1 2 0 (((ts_req (ts_in x0 (ts_n v)) jj_IO).or (ts_req (ts_in x1 (ts_n v)) jj_IO)).or (ts_req (decide (¬ ts_ow v (ts_N x0) = ts_ow v (ts_N x1))) jj_IA)) = nI c := by
  cases hoc : (((ts_req (ts_in x0 (ts_n v)) jj_IO).or (ts_req (ts_in x1 (ts_n v)) jj_IO)).or (ts_req (decide (¬ ts_ow v (ts_N x0) = ts_ow v (ts_N x1))) jj_IA)) with
  | none =>
    refine Or.inl ⟨rfl, ?_⟩
    obtain ⟨hoc, hg2⟩ := ts_rqn hoc
    obtain ⟨hoc, hg1⟩ := ts_rqn hoc
    have hg0 := ts_rq0 hoc
    exact hI
  | some Ex =>
    have hq : Ex = jj_IO ∨ Ex = jj_IA := by
      have hE9 := hoc
      rcases ts_rqo hE9 with hE9 | hE9
      · rcases ts_rqo hE9 with hE9 | hE9
        · exact Or.inl (ts_rq hE9)
        · exact Or.inl (hE9)
      · exact Or.inr (hE9)
    rcases hq with rfl | rfl
    · exact Or.inr ⟨_, _, rfl, by decide, by decide, ts_cdIO 1 2 0⟩
    · exact Or.inr ⟨_, _, rfl, by decide, by decide, ts_cdIA 1 2 0⟩
theorem lz_swap {v : ts_V} (hI : ts_I v) (x0 x1 : Int32) : ((((((ts_req (ts_in x0 (ts_n v)) jj_IO).or (ts_req (ts_in x1 (ts_n v)) jj_IO)).or (ts_req (decide (¬ ts_ow v (ts_N x0) = ts_ow v (ts_N x1))) jj_IA)).or (ts_req (!(ts_lt v (ts_N x0))) jj_IS)).or (ts_req (!(ts_lt v (ts_N x1))) jj_IS)) = none ∧ ts_I ((ts_rs v (ts_N x0) (ts_N x1)).2)) ∨ ∃ (Ex : String) (c : Nat), (((((ts_req (ts_in x0 (ts_n v)) jj_IO).or (ts_req (ts_in x1 (ts_n v)) jj_IO)).or (ts_req (decide (¬ ts_ow v (ts_N x0) = ts_ow v (ts_N x1))) jj_IA)).or (ts_req (!(ts_lt v (ts_N x0))) jj_IS)).or (ts_req (!(ts_lt v (ts_N x1))) jj_IS)) = some Ex ∧ 0 < c ∧ c < 4 ∧ ts_cd 1 2 3 (((((ts_req (ts_in x0 (ts_n v)) jj_IO).or (ts_req (ts_in x1 (ts_n v)) jj_IO)).or (ts_req (decide (¬ ts_ow v (ts_N x0) = ts_ow v (ts_N x1))) jj_IA)).or (ts_req (!(ts_lt v (ts_N x0))) jj_IS)).or (ts_req (!(ts_lt v (ts_N x1))) jj_IS)) = nI c := by
  cases hoc : (((((ts_req (ts_in x0 (ts_n v)) jj_IO).or (ts_req (ts_in x1 (ts_n v)) jj_IO)).or (ts_req (decide (¬ ts_ow v (ts_N x0) = ts_ow v (ts_N x1))) jj_IA)).or (ts_req (!(ts_lt v (ts_N x0))) jj_IS)).or (ts_req (!(ts_lt v (ts_N x1))) jj_IS)) with
  | none =>
    refine Or.inl ⟨rfl, ?_⟩
    obtain ⟨hoc, hg4⟩ := ts_rqn hoc
    obtain ⟨hoc, hg3⟩ := ts_rqn hoc
    obtain ⟨hoc, hg2⟩ := ts_rqn hoc
    obtain ⟨hoc, hg1⟩ := ts_rqn hoc
    have hg0 := ts_rq0 hoc
    exact ts_I_rs hI _ _ (ts_N_lt hg0) (ts_N_lt hg1)
  | some Ex =>
    have hq : Ex = jj_IO ∨ Ex = jj_IA ∨ Ex = jj_IS := by
      have hE9 := hoc
      rcases ts_rqo hE9 with hE9 | hE9
      · rcases ts_rqo hE9 with hE9 | hE9
        · rcases ts_rqo hE9 with hE9 | hE9
          · rcases ts_rqo hE9 with hE9 | hE9
            · exact Or.inl (ts_rq hE9)
            · exact Or.inl (hE9)
          · exact Or.inr (Or.inl (hE9))
        · exact Or.inr (Or.inr (hE9))
      · exact Or.inr (Or.inr (hE9))
    rcases hq with rfl | rfl | rfl
    · exact Or.inr ⟨_, _, rfl, by decide, by decide, ts_cdIO 1 2 3⟩
    · exact Or.inr ⟨_, _, rfl, by decide, by decide, ts_cdIA 1 2 3⟩
    · exact Or.inr ⟨_, _, rfl, by decide, by decide, ts_cdIS 1 2 3⟩
theorem lz_best {v : ts_V} (hI : ts_I v) (x0 x1 : Int32) : ((((ts_req (ts_in x0 (ts_k v)) jj_IO).or (ts_req (ts_in x1 (ts_k v)) jj_IO)).or (ts_req (decide (¬ x0 = x1)) jj_IA)) = none ∧ ts_I (v)) ∨ ∃ (Ex : String) (c : Nat), (((ts_req (ts_in x0 (ts_k v)) jj_IO).or (ts_req (ts_in x1 (ts_k v)) jj_IO)).or (ts_req (decide (¬ x0 = x1)) jj_IA)) = some Ex ∧ 0 < c ∧ c < 4 ∧ ts_cd 1 2 0 (((ts_req (ts_in x0 (ts_k v)) jj_IO).or (ts_req (ts_in x1 (ts_k v)) jj_IO)).or (ts_req (decide (¬ x0 = x1)) jj_IA)) = nI c := by
  cases hoc : (((ts_req (ts_in x0 (ts_k v)) jj_IO).or (ts_req (ts_in x1 (ts_k v)) jj_IO)).or (ts_req (decide (¬ x0 = x1)) jj_IA)) with
  | none =>
    refine Or.inl ⟨rfl, ?_⟩
    obtain ⟨hoc, hg2⟩ := ts_rqn hoc
    obtain ⟨hoc, hg1⟩ := ts_rqn hoc
    have hg0 := ts_rq0 hoc
    exact hI
  | some Ex =>
    have hq : Ex = jj_IO ∨ Ex = jj_IA := by
      have hE9 := hoc
      rcases ts_rqo hE9 with hE9 | hE9
      · rcases ts_rqo hE9 with hE9 | hE9
        · exact Or.inl (ts_rq hE9)
        · exact Or.inl (hE9)
      · exact Or.inr (hE9)
    rcases hq with rfl | rfl
    · exact Or.inr ⟨_, _, rfl, by decide, by decide, ts_cdIO 1 2 0⟩
    · exact Or.inr ⟨_, _, rfl, by decide, by decide, ts_cdIA 1 2 0⟩
theorem lz_ring {v : ts_V} (hI : ts_I v) (x0 x1 x2 : Int32) : (((((((ts_req (ts_in x0 (ts_n v)) jj_IO).or (ts_req (ts_in x1 (ts_n v)) jj_IO)).or (ts_req (ts_in x2 (ts_n v)) jj_IO)).or (ts_req (decide (¬ ts_ow v (ts_N x0) = ts_ow v (ts_N x1))) jj_IA)).or (ts_req (decide (¬ ts_ow v (ts_N x1) = ts_ow v (ts_N x2))) jj_IA)).or (ts_req (decide (¬ ts_ow v (ts_N x2) = ts_ow v (ts_N x0))) jj_IA)) = none ∧ ts_I (v)) ∨ ∃ (Ex : String) (c : Nat), ((((((ts_req (ts_in x0 (ts_n v)) jj_IO).or (ts_req (ts_in x1 (ts_n v)) jj_IO)).or (ts_req (ts_in x2 (ts_n v)) jj_IO)).or (ts_req (decide (¬ ts_ow v (ts_N x0) = ts_ow v (ts_N x1))) jj_IA)).or (ts_req (decide (¬ ts_ow v (ts_N x1) = ts_ow v (ts_N x2))) jj_IA)).or (ts_req (decide (¬ ts_ow v (ts_N x2) = ts_ow v (ts_N x0))) jj_IA)) = some Ex ∧ 0 < c ∧ c < 4 ∧ ts_cd 1 2 0 ((((((ts_req (ts_in x0 (ts_n v)) jj_IO).or (ts_req (ts_in x1 (ts_n v)) jj_IO)).or (ts_req (ts_in x2 (ts_n v)) jj_IO)).or (ts_req (decide (¬ ts_ow v (ts_N x0) = ts_ow v (ts_N x1))) jj_IA)).or (ts_req (decide (¬ ts_ow v (ts_N x1) = ts_ow v (ts_N x2))) jj_IA)).or (ts_req (decide (¬ ts_ow v (ts_N x2) = ts_ow v (ts_N x0))) jj_IA)) = nI c := by
  cases hoc : ((((((ts_req (ts_in x0 (ts_n v)) jj_IO).or (ts_req (ts_in x1 (ts_n v)) jj_IO)).or (ts_req (ts_in x2 (ts_n v)) jj_IO)).or (ts_req (decide (¬ ts_ow v (ts_N x0) = ts_ow v (ts_N x1))) jj_IA)).or (ts_req (decide (¬ ts_ow v (ts_N x1) = ts_ow v (ts_N x2))) jj_IA)).or (ts_req (decide (¬ ts_ow v (ts_N x2) = ts_ow v (ts_N x0))) jj_IA)) with
  | none =>
    refine Or.inl ⟨rfl, ?_⟩
    obtain ⟨hoc, hg5⟩ := ts_rqn hoc
    obtain ⟨hoc, hg4⟩ := ts_rqn hoc
    obtain ⟨hoc, hg3⟩ := ts_rqn hoc
    obtain ⟨hoc, hg2⟩ := ts_rqn hoc
    obtain ⟨hoc, hg1⟩ := ts_rqn hoc
    have hg0 := ts_rq0 hoc
    exact hI
  | some Ex =>
    have hq : Ex = jj_IO ∨ Ex = jj_IA := by
      have hE9 := hoc
      rcases ts_rqo hE9 with hE9 | hE9
      · rcases ts_rqo hE9 with hE9 | hE9
        · rcases ts_rqo hE9 with hE9 | hE9
          · rcases ts_rqo hE9 with hE9 | hE9
            · rcases ts_rqo hE9 with hE9 | hE9
              · exact Or.inl (ts_rq hE9)
              · exact Or.inl (hE9)
            · exact Or.inl (hE9)
          · exact Or.inr (hE9)
        · exact Or.inr (hE9)
      · exact Or.inr (hE9)
    rcases hq with rfl | rfl
    · exact Or.inr ⟨_, _, rfl, by decide, by decide, ts_cdIO 1 2 0⟩
    · exact Or.inr ⟨_, _, rfl, by decide, by decide, ts_cdIA 1 2 0⟩
theorem lz_fair {v : ts_V} (hI : ts_I v) (x0 : Int32) : ((ts_req (ts_rg x0 1 10) jj_IA) = none ∧ ts_I ((ts_fr v (ts_N x0) 0).1)) ∨ ∃ (Ex : String) (c : Nat), (ts_req (ts_rg x0 1 10) jj_IA) = some Ex ∧ 0 < c ∧ c < 4 ∧ ts_cd 0 1 0 (ts_req (ts_rg x0 1 10) jj_IA) = nI c := by
  cases hoc : (ts_req (ts_rg x0 1 10) jj_IA) with
  | none =>
    refine Or.inl ⟨rfl, ?_⟩
    have hg0 := ts_rq0 hoc
    exact ts_I_fr _ _ _ hI
  | some Ex =>
    have hq : Ex = jj_IA := by
      have hE9 := hoc
      exact ts_rq hE9
    subst hq
    exact Or.inr ⟨_, _, rfl, by decide, by decide, ts_cdIA 0 1 0⟩
theorem lz_lend {v : ts_V} (hI : ts_I v) (x0 x1 : Int32) : ((((ts_req (ts_in x0 (ts_n v)) jj_IO).or (ts_req (ts_rg x1 1 30) jj_IA)).or (ts_req (!(ts_lt v (ts_N x0))) jj_IS)) = none ∧ ts_I ((ts_wk' (ts_ti' v (va_up (ts_ti v) (ts_N x0) (ts_w v + x1))) (va_up (ts_wk v) (ts_N x0) x1)))) ∨ ∃ (Ex : String) (c : Nat), (((ts_req (ts_in x0 (ts_n v)) jj_IO).or (ts_req (ts_rg x1 1 30) jj_IA)).or (ts_req (!(ts_lt v (ts_N x0))) jj_IS)) = some Ex ∧ 0 < c ∧ c < 4 ∧ ts_cd 1 2 3 (((ts_req (ts_in x0 (ts_n v)) jj_IO).or (ts_req (ts_rg x1 1 30) jj_IA)).or (ts_req (!(ts_lt v (ts_N x0))) jj_IS)) = nI c := by
  cases hoc : (((ts_req (ts_in x0 (ts_n v)) jj_IO).or (ts_req (ts_rg x1 1 30) jj_IA)).or (ts_req (!(ts_lt v (ts_N x0))) jj_IS)) with
  | none =>
    refine Or.inl ⟨rfl, ?_⟩
    obtain ⟨hoc, hg2⟩ := ts_rqn hoc
    obtain ⟨hoc, hg1⟩ := ts_rqn hoc
    have hg0 := ts_rq0 hoc
    exact ts_I_le hI (ts_N_lt hg0) _ _
  | some Ex =>
    have hq : Ex = jj_IO ∨ Ex = jj_IA ∨ Ex = jj_IS := by
      have hE9 := hoc
      rcases ts_rqo hE9 with hE9 | hE9
      · rcases ts_rqo hE9 with hE9 | hE9
        · exact Or.inl (ts_rq hE9)
        · exact Or.inr (Or.inl (hE9))
      · exact Or.inr (Or.inr (hE9))
    rcases hq with rfl | rfl | rfl
    · exact Or.inr ⟨_, _, rfl, by decide, by decide, ts_cdIO 1 2 3⟩
    · exact Or.inr ⟨_, _, rfl, by decide, by decide, ts_cdIA 1 2 3⟩
    · exact Or.inr ⟨_, _, rfl, by decide, by decide, ts_cdIS 1 2 3⟩
theorem lz_shows {v : ts_V} (hI : ts_I v) (x0 : Int32) : ((ts_req (ts_in x0 8) jj_IO) = none ∧ ts_I (v)) ∨ ∃ (Ex : String) (c : Nat), (ts_req (ts_in x0 8) jj_IO) = some Ex ∧ 0 < c ∧ c < 4 ∧ ts_cd 1 0 0 (ts_req (ts_in x0 8) jj_IO) = nI c := by
  cases hoc : (ts_req (ts_in x0 8) jj_IO) with
  | none =>
    refine Or.inl ⟨rfl, ?_⟩
    have hg0 := ts_rq0 hoc
    exact hI
  | some Ex =>
    have hq : Ex = jj_IO := by
      have hE9 := hoc
      exact ts_rq hE9
    subst hq
    exact Or.inr ⟨_, _, rfl, by decide, by decide, ts_cdIO 1 0 0⟩
theorem lz_lacks {v : ts_V} (hI : ts_I v) (x0 : Int32) : ((ts_req (ts_in x0 8) jj_IO) = none ∧ ts_I (v)) ∨ ∃ (Ex : String) (c : Nat), (ts_req (ts_in x0 8) jj_IO) = some Ex ∧ 0 < c ∧ c < 4 ∧ ts_cd 1 0 0 (ts_req (ts_in x0 8) jj_IO) = nI c := by
  cases hoc : (ts_req (ts_in x0 8) jj_IO) with
  | none =>
    refine Or.inl ⟨rfl, ?_⟩
    have hg0 := ts_rq0 hoc
    exact hI
  | some Ex =>
    have hq : Ex = jj_IO := by
      have hE9 := hoc
      exact ts_rq hE9
    subst hq
    exact Or.inr ⟨_, _, rfl, by decide, by decide, ts_cdIO 1 0 0⟩
theorem lz_finest {v : ts_V} (hI : ts_I v) (x0 : Int32) : ((ts_req (ts_in x0 8) jj_IO) = none ∧ ts_I (v)) ∨ ∃ (Ex : String) (c : Nat), (ts_req (ts_in x0 8) jj_IO) = some Ex ∧ 0 < c ∧ c < 4 ∧ ts_cd 1 0 0 (ts_req (ts_in x0 8) jj_IO) = nI c := by
  cases hoc : (ts_req (ts_in x0 8) jj_IO) with
  | none =>
    refine Or.inl ⟨rfl, ?_⟩
    have hg0 := ts_rq0 hoc
    exact hI
  | some Ex =>
    have hq : Ex = jj_IO := by
      have hE9 := hoc
      exact ts_rq hE9
    subst hq
    exact Or.inr ⟨_, _, rfl, by decide, by decide, ts_cdIO 1 0 0⟩
theorem lz_pass {v : ts_V} (hI : ts_I v) (x0 : Int32) : ((ts_req (ts_rg x0 1 60) jj_IA) = none ∧ ts_I ((ts_pa v (ts_N x0)).1)) ∨ ∃ (Ex : String) (c : Nat), (ts_req (ts_rg x0 1 60) jj_IA) = some Ex ∧ 0 < c ∧ c < 4 ∧ ts_cd 0 1 0 (ts_req (ts_rg x0 1 60) jj_IA) = nI c := by
  cases hoc : (ts_req (ts_rg x0 1 60) jj_IA) with
  | none =>
    refine Or.inl ⟨rfl, ?_⟩
    have hg0 := ts_rq0 hoc
    exact ts_I_pa hI _
  | some Ex =>
    have hq : Ex = jj_IA := by
      have hE9 := hoc
      exact ts_rq hE9
    subst hq
    exact Or.inr ⟨_, _, rfl, by decide, by decide, ts_cdIA 0 1 0⟩
theorem lz_count {v : ts_V} (hI : ts_I v) (x0 : Int32) : ((ts_req (ts_in x0 7) jj_IO) = none ∧ ts_I (v)) ∨ ∃ (Ex : String) (c : Nat), (ts_req (ts_in x0 7) jj_IO) = some Ex ∧ 0 < c ∧ c < 4 ∧ ts_cd 1 0 0 (ts_req (ts_in x0 7) jj_IO) = nI c := by
  cases hoc : (ts_req (ts_in x0 7) jj_IO) with
  | none =>
    refine Or.inl ⟨rfl, ?_⟩
    have hg0 := ts_rq0 hoc
    exact hI
  | some Ex =>
    have hq : Ex = jj_IO := by
      have hE9 := hoc
      exact ts_rq hE9
    subst hq
    exact Or.inr ⟨_, _, rfl, by decide, by decide, ts_cdIO 1 0 0⟩
