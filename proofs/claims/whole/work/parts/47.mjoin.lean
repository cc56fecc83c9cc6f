/-! ===== new arrays, the world's parts in another order, copies ===== -/
section NEWS
variable {cc : ByteArray} {nL : Nat} {ret : Option FieldType} {Ts : List Cond} {own : String} {rm : Room} {tys : List (ClassId × FieldType)} {E : jj_E} {k n : Nat} {Q : State → Prop} {ws : va_W} {pc : Nat} {lv : List (Nat × Value)} {rest : List Value}
theorem jj_newaI (hC : jj_C cc nL ret Ts own rm tys E) {n0 : Int32} {N : Nat} {cA : ClassId} (t0 : Nat) (ht : tys[t0]? = some (cA, .int)) (harr : Cond.arrayClass .int ∈ Ts) (hn : ¬ n0 < 0) (hN : n0.toNatClampNeg = N) (hb : N * 4 ≤ 536870912) (hR : k + 1 ≤ rm.cells ∧ n + N ≤ rm.slots) (hd : decode cc pc = .ok (.newarray .int, 2)) (hk : ∀ q : Nat, jj_J E (k + 1) (n + N) Q (ws ++ [(q, .inl (cA, N, .inl (fun _ => 0)))]) (pc + 2) lv (.ref q :: rest)) : jj_J E k n Q ws pc lv (.int n0 :: rest) := by
  intro H locs ls hP hD hS hl
  refine va_newa hC.1 hC.2.1 (atype := .int) (hC.2.2.2.2.1 _ harr) (ty := .int) rfl hC.2.2.2.2.2.1 hP hD hS hC.2.2.2.2.2.2.1 (a0 := (N, .inl (fun _ => 0))) (fun _ => rfl) hn hN hb (by rw [hC.2.2.2.2.2.2.2.2.2]; exact hR.1) (by rw [hC.2.2.2.2.2.2.2.2.2]; exact hR.2) hd (fun q cB H1 hK hP1 hD1 hS1 => ?_)
  have h1 := va_nm_int (hK.2 tys.length (cB, .int) (by simp)).2
  have h2 := va_nm_int (hC.2.2.2.2.2.1.2 t0 _ ht).2
  have e : cB = cA := Option.some.inj (h1.symm.trans h2)
  subst e
  exact hk q H1 locs ls hP1 hD1 hS1 hl
theorem jj_drop {wr : va_W} (h : jj_J E k n Q ws pc lv rest) : jj_J E k n Q (ws ++ wr) pc lv rest := fun H locs ls hP hD hS hl => h H locs ls (jj_Pl hP) (jj_Dl hD) hS hl
theorem jj_pick {ws' : va_W} (is : List Nat) (hn : va_nd is = true) (h1 : is.filterMap (fun i => ws[i]?) = ws') (h2 : is.map (fun i => ws[i]?) = ws'.map some) (h : jj_J E k n Q ws' pc lv rest) : jj_J E k n Q ws pc lv rest := fun H locs ls hP hD hS hl => h H locs ls (hP.sub is h1) (hD.sub is hn h2) hS hl
theorem jj_copy (hC : jj_C cc nL ret Ts own rm tys E) {index : Nat} (h1 : .methodLink own index arraycopyName ∈ Ts) (h2 : .native arraycopyName ∈ Ts) (h3 : .static arraycopyName ∈ Ts) (h4 : .initialized "java/lang/System" ∈ Ts) (q0 q1 t0 t1 : Nat) {a0 a1 : Nat} {c0 c1 : ClassId} {n0 n1 : Nat} {f g : Nat → Int32} {sp dp N : Nat} {ws' : va_W} (e0 : ws[q0]? = some (a0, .inl (c0, n0, .inl f))) (e1 : ws[q1]? = some (a1, .inl (c1, n1, .inl g))) (ht0 : tys[t0]? = some (c0, .int)) (ht1 : tys[t1]? = some (c1, .int)) (hs : sp < 2 ^ 31) (hdp : dp < 2 ^ 31) (hN : N < 2 ^ 31) (h5 : sp + N ≤ n0) (h6 : dp + N ≤ n1) (hR : 1 ≤ rm.frames ∧ (rest.map fun v => v.category).sum + (nativeFrameWords "java/lang/System" "arraycopy" 5 + 11) ≤ rm.locals) (hd : decode cc pc = .ok (.invokestatic index, 3)) (hws : ws.set q1 (a1, .inl (c1, n1, .inl (va_cpy f g sp dp N))) = ws') (hk : jj_J E k n Q ws' (pc + 3) lv rest) : jj_J E k n Q ws pc lv (.int (nI N) :: .int (nI dp) :: .ref a1 :: .int (nI sp) :: .ref a0 :: rest) := by
  subst hws
  intro H locs ls hP hD hS hl
  have c1 := nI_clamp hs
  have c2 := nI_clamp hdp
  have c3 := nI_clamp hN
  have nn : ∀ j : Nat, j < 2 ^ 31 → ¬ nI j < 0 := fun j hj q => by
    rw [Int32.lt_iff_toInt_lt, nI_toInt hj, Int32.toInt_zero] at q
    omega
  refine va_copyi hC.1 hC.2.1 hl.1.symm hC.2.2.2.1 (hC.2.2.2.2.1 _ h1) (hC.2.2.2.2.1 _ h2) (hC.2.2.2.2.1 _ h3) (hC.2.2.2.2.1 _ h4) hC.2.2.2.2.2.1 hP hD hS q0 q1 t0 t1 e0 e1 ht0 ht1 rfl (nn _ hs) (nn _ hdp) (nn _ hN) (by rw [c1, c3]; exact h5) (by rw [c2, c3]; exact h6) (fun _ _ => rfl) (by rw [hC.2.2.2.2.2.2.2.2.2]; exact hR.1) (by rw [hC.2.2.2.2.2.2.2.2.2]; exact hR.2) hd (fun H1 locs1 hP1 hD1 hS1 => ?_)
  rw [c1, c2, c3] at hP1 hD1
  exact hk H1 locs1 ls hP1 hD1 hS1 hl
theorem jj_obj (hC : jj_C cc nL ret Ts own rm tys E) {index a : Nat} (h1 : .methodLink own index objectInit ∈ Ts) (h2 : .instanceMethod objectInit ∈ Ts) (h3 : .code objectInit ⟨#[0xb1]⟩ 1 none ∈ Ts) (hd : decode cc pc = .ok (.invokespecial index, 3)) (hR : 1 ≤ rm.frames ∧ 30 ≤ rm.locals) (hk : jj_J E k n Q ws (pc + 3) lv []) : jj_J E k n Q ws pc lv [.ref a] := by
  intro H locs ls hP hD hS hl
  have hR0 : E.1.2.2.2 = rm := hC.2.2.2.2.2.2.2.2.2
  refine W.objInit hC.1 hC.2.1 hC.2.2.2.1 (hC.2.2.2.2.1 _ h1) (hC.2.2.2.2.1 _ h2) (hC.2.2.2.2.1 _ h3) rfl hl.1 rfl hd (by rw [hR0]; exact hR.1) (by rw [hR0]; exact Nat.le_trans (show _ ≤ 30 from Nat.le_of_ble_eq_true rfl) hR.2) ?_
  exact W.eq (g2 := F0 E.2.1.2.1 (pc + 3) ls []) rfl (hk H locs ls hP hD hS hl)
end NEWS
def ts_lJ (v : ts_V) (i : Nat) : Nat → Nat → Nat := fun c s => if c = ts_k v ∧ s < i then 1 else ts_li v c s
theorem ts_lJ_0 (v : ts_V) : ts_lJ v 0 = ts_li v := by
  funext c s
  unfold ts_lJ
  rw [if_neg (by omega)]
theorem ts_lJ_8 (v : ts_V) : ts_lJ v 8 = fun c s => if c = ts_k v then (if s < 8 then 1 else ts_li v c s) else ts_li v c s := by
  funext c s
  unfold ts_lJ
  by_cases h : c = ts_k v
  · by_cases h2 : s < 8
    · rw [if_pos ⟨h, h2⟩, if_pos h, if_pos h2]
    · rw [if_neg (fun q => h2 q.2), if_pos h, if_neg h2]
  · rw [if_neg (fun q => h q.1), if_neg h]
theorem ts_lJ_s (v : ts_V) (i : Nat) (hi : i < 8) : (fun j => nI (ts_lJ v (i + 1) (j / 8) (j % 8))) = upd (fun j => nI (ts_lJ v i (j / 8) (j % 8))) (8 * ts_k v + i) (nI 1) := by
  funext j
  unfold upd
  by_cases h : j = 8 * ts_k v + i
  · rw [if_pos h]
    show nI (if j / 8 = ts_k v ∧ j % 8 < i + 1 then 1 else ts_li v (j / 8) (j % 8)) = nI 1
    rw [if_pos (by omega)]
  · rw [if_neg h]
    show nI (if j / 8 = ts_k v ∧ j % 8 < i + 1 then 1 else ts_li v (j / 8) (j % 8)) = nI (if j / 8 = ts_k v ∧ j % 8 < i then 1 else ts_li v (j / 8) (j % 8))
    by_cases h2 : j / 8 = ts_k v ∧ j % 8 < i
    · rw [if_pos h2, if_pos (by omega)]
    · rw [if_neg h2, if_neg (by omega)]
theorem lkX1_join_28 : Cond.fieldLink RX1 28 RX1 (TX1 0).2.1 (TX1 0).2.2.1 ∈ wsX1_join := by decide +kernel
theorem lkX1_join_32 : Cond.fieldLink RX1 32 RX1 (TX1 1).2.1 (TX1 1).2.2.1 ∈ wsX1_join := by decide +kernel
theorem lkX1_join_13 : Cond.fieldLink RX1 13 RX1 (TX1 4).2.1 (TX1 4).2.2.1 ∈ wsX1_join := by decide +kernel
theorem hinX1_join : ∀ w ∈ wsX10, w ∈ wsX1_join := by decide +kernel
set_option maxRecDepth 100000 in
set_option maxHeartbeats 4000000 in
theorem mo_join (l : Launch) (D : va_G) (b : Nat → Nat) (c1 c2 c3 : ClassId) (v : ts_V) (th : Int32) (z : Nat → Int32) (hI : ts_I v)  : jj_M l D (ts_T c1 c2 c3) yX1_join wsX1_join rX1_join [.ref (b 0)] (wm b c1 v th z) (Nat → Int32) (fun r _ => r = ts_if (ts_req (decide (ts_k v < 7)) jj_IS) (nI (ts_k v)) (nI 0)) (fun u => wm b c1 (ts_if (ts_req (decide (ts_k v < 7)) jj_IS) ((ts_jn v)) v) (ts_cd 0 0 1 (ts_req (decide (ts_k v < 7)) jj_IS)) u) := by
  obtain ⟨hn, hk, hth, hwk, hli, hgr⟩ := id hI
  refine jj_met (cc := cX1_join) (nL := 2) (by decide) rfl (Nat.le_of_ble_eq_true rfl) (fun E Q hC hEl hED hD0 hret => ?_)
  show jj_J E 0 0 Q (wm b c1 v th z) 0 [(0, .ref (b 0))] []
  refine jj_aload_n hC dX1_join_0 rfl ?_
  refine jj_iconst hC dX1_join_1 (v := nI 0) (by decide) ?_
  refine jj_put hC 0 0 dX1_join_2 (by rfl) rfl (by decide) lkX1_join_28 rfl hinX1_join tyX1_ok nmX1 rfl rfl rfl rfl (Nat.le_of_ble_eq_true rfl) (wm_p0 ..) ?_
  refine jj_aload_n hC dX1_join_5 rfl ?_
  refine jj_get hC 0 1 dX1_join_6 (by rfl) rfl (by decide) lkX1_join_32 rfl hinX1_join (by rfl) ?_
  refine jj_bipush hC dX1_join_9 (v := nI 7) (by decide) ?_
  first | refine jj_icmp_neN hC dX1_join_11 (tgt := 20) (by decide) (by omega) (by omega) (fun c11t => ?_) (fun c11f => ?_) | refine jj_icmp_ne hC dX1_join_11 (tgt := 20) (by decide) (fun c11t => ?_) (fun c11f => ?_)
  · refine jj_iconst hC dX1_join_20 (v := nI 0) (by decide) ?_
    refine jj_istore_n hC dX1_join_21 (by decide) [1, 0] (lv' := [(0, _), (1, .int _)]) rfl ?_
    refine jj_ws (ws' := wm b c1 (ts_li' v (ts_lJ v 0)) (nI 0) z) (by rw [ts_lJ_0]) ?_
    refine jj_for (P := fun i => jj_J E 0 0 Q (wm b c1 (ts_li' v (ts_lJ v i)) (nI 0) z) 22 [(0, .ref (b 0)), (1, .int (nI i))] []) (N := 8) ?_ ?_ 0 (Nat.zero_le _)
    · refine jj_iload_n hC dX1_join_22 rfl ?_
      refine jj_bipush hC dX1_join_23 (v := nI 8) (by decide) ?_
      refine jj_icmp_geT hC dX1_join_25 (tgt := 49) (by decide) (nI_le (Nat.le_refl _) (by omega)) ?_
      refine jj_aload_n hC dX1_join_49 rfl ?_
      refine jj_dup hC dX1_join_50 rfl ?_
      refine jj_get hC 0 1 dX1_join_51 (by rfl) rfl (by decide) lkX1_join_32 rfl hinX1_join (by rfl) ?_
      refine jj_iconst hC dX1_join_54 (v := nI 1) (by decide) ?_
      first | refine jj_iaddN hC dX1_join_55 ?_ | refine jj_iadd hC dX1_join_55 ?_
      refine jj_put hC 0 1 dX1_join_56 (by rfl) rfl (by decide) lkX1_join_32 rfl hinX1_join tyX1_ok nmX1 rfl rfl rfl rfl (Nat.le_of_ble_eq_true rfl) (wm_p1 ..) ?_
      refine jj_aload_n hC dX1_join_59 rfl ?_
      refine jj_get hC 0 1 dX1_join_60 (by rfl) rfl (by decide) lkX1_join_32 rfl hinX1_join (by rfl) ?_
      refine jj_iconst hC dX1_join_63 (v := nI 1) (by decide) ?_
      refine jj_isub hC dX1_join_64 ?_
      have hlt : ts_k v < 7 := by omega
      have eO : (ts_req (decide (ts_k v < 7)) jj_IS) = none := by simp [ts_req, hlt]
      rw [eO] at hret
      refine jj_ws (ws' := wm b c1 (ts_jn v) (nI 0) z) (by rw [ts_lJ_8]; rfl) (hret _ _ _ z dX1_join_65 (by rfl) (nI_pred _))
    · intro i hi ih
      refine jj_iload_n hC dX1_join_22 rfl ?_
      refine jj_bipush hC dX1_join_23 (v := nI 8) (by decide) ?_
      refine jj_icmp_geF hC dX1_join_25 (tgt := 49) (by decide) (nI_ge hi (by omega)) ?_
      refine jj_aload_n hC dX1_join_28 rfl ?_
      refine jj_get hC 0 4 dX1_join_29 (by rfl) rfl (by decide) lkX1_join_13 rfl hinX1_join (by rfl) ?_
      refine jj_bipush hC dX1_join_32 (v := nI 8) (by decide) ?_
      refine jj_aload_n hC dX1_join_34 rfl ?_
      refine jj_get hC 0 1 dX1_join_35 (by rfl) rfl (by decide) lkX1_join_32 rfl hinX1_join (by rfl) ?_
      first | refine jj_imulN hC dX1_join_38 ?_ | refine jj_imul hC dX1_join_38 ?_
      refine jj_iload_n hC dX1_join_39 rfl ?_
      first | refine jj_iaddN hC dX1_join_40 ?_ | refine jj_iadd hC dX1_join_40 ?_
      refine jj_iconst hC dX1_join_41 (v := nI 1) (by decide) ?_
      refine jj_iast hC 2 0 dX1_join_42 (wm_g2 ..) rfl (show 8 * ts_k v + i < 56 by omega) (by decide) (wm_s2 b c1 _ (nI 0) z (ts_lJ v (i + 1)) _ (ts_lJ_s v i hi)) ?_
      refine jj_iincN hC dX1_join_43 rfl (d9 := 1) (by decide) (by decide) [1, 0] (lv' := [(0, _), (1, .int _)]) rfl ?_
      refine jj_goto hC dX1_join_46 (tgt := 22) (by decide) ?_
      exact ih
  · refine jj_aload_n hC dX1_join_14 rfl ?_
    refine jj_iconst hC dX1_join_15 (v := nI 1) (by decide) ?_
    refine jj_calli hC (mm_fail _ _ b c1 c2 c3 v (nI 0) z (nI 1)) gX1_join_X1_fail rfl 1 (by decide +kernel) ⟨by decide, by decide, by decide, by decide⟩ 0 1 (by rfl) rfl rfl rfl rfl (Nat.le_of_ble_eq_true rfl) dX1_join_16 (fun r u hp => ?_)
    obtain rfl := hp
    have eO : (ts_req (decide (ts_k v < 7)) jj_IS) = some jj_IS := by
      first
        | (simp [ts_req, c11f]; done)
        | (simp [ts_req, c11f]
           repeat' split
           all_goals simp_all)
    rw [eO, ts_cdIS] at hret
    exact hret _ _ _ z dX1_join_19 (by rfl) rfl
