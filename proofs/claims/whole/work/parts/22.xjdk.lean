abbrev rJ_bitCount : Room := { frames := 0, cells := 0, slots := 0, locals := 0 }
abbrev rJ_fill : Room := { frames := 0, cells := 0, slots := 0, locals := 0 }
set_option maxRecDepth 100000 in
set_option maxHeartbeats 4000000 in
theorem xm_fill (l : Launch) (D : va_G) (c1 c2 c3 : ClassId) (q N : Nat) (hN : N < 2 ^ 31) (f : Nat → Int32) (x : Int32) : jj_Mv l D (ts_T c1 c2 c3) yJ7_fill_53178 wsJ7_fill_53178 rJ_fill [.ref q, .int x] [(q, .inl (c1, N, .inl f))] Unit (fun _ => True) (fun _ => [(q, .inl (c1, N, .inl (fun j => if j < N then x else f j)))]) := by
  refine jj_metv (cc := cJ7_fill_53178) (nL := 4) (by decide) rfl (Nat.le_of_ble_eq_true rfl) (fun E Q hC hEl hED hD0 hnm hret => ?_)
  show jj_J E 0 0 Q [(q, .inl (c1, N, .inl f))] 0 [(0, .ref q), (1, .int x)] []
  refine jj_iconst hC dJ7_fill_53178_0 (v := nI 0) (by decide) ?_
  refine jj_istore_n hC dJ7_fill_53178_1 (by decide) [1, 2, 0] (lv' := [(0, _), (1, _), (2, .int _)]) rfl ?_
  refine jj_aload_n hC dJ7_fill_53178_2 rfl ?_
  refine jj_alen hC 0 0 dJ7_fill_53178_3 (by rfl) rfl ?_
  refine jj_istore_n hC dJ7_fill_53178_4 (by decide) [1, 2, 3, 0] (lv' := [(0, _), (1, _), (2, _), (3, .int _)]) rfl ?_
  refine jj_ws (ws' := [(q, .inl (c1, N, .inl (fun j => if j < 0 then x else f j)))]) (by simp) ?_
  refine jj_for (P := fun i => jj_J E 0 0 Q [(q, .inl (c1, N, .inl (fun j => if j < i then x else f j)))] 5 [(0, .ref q), (1, .int x), (2, .int (nI i)), (3, .int (nI N))] []) (N := N) ?_ ?_ 0 (Nat.zero_le _)
  · refine jj_iload_n hC dJ7_fill_53178_5 rfl ?_
    refine jj_iload_n hC dJ7_fill_53178_6 rfl ?_
    refine jj_icmp_geT hC dJ7_fill_53178_7 (tgt := 20) (by decide) (nI_le (Nat.le_refl _) hN) ?_
    exact hret _ _ () dJ7_fill_53178_20 trivial
  · intro i hi ih
    refine jj_iload_n hC dJ7_fill_53178_5 rfl ?_
    refine jj_iload_n hC dJ7_fill_53178_6 rfl ?_
    refine jj_icmp_geF hC dJ7_fill_53178_7 (tgt := 20) (by decide) (nI_ge hi hN) ?_
    refine jj_aload_n hC dJ7_fill_53178_10 rfl ?_
    refine jj_iload_n hC dJ7_fill_53178_11 rfl ?_
    refine jj_iload_n hC dJ7_fill_53178_12 rfl ?_
    refine jj_iast hC 0 0 dJ7_fill_53178_13 (by rfl) rfl hi hN (ws' := [(q, .inl (c1, N, .inl (fun j => if j < i + 1 then x else f j)))]) ?_ ?_
    · simp only [List.set_cons_zero, List.cons.injEq, Prod.mk.injEq, true_and, and_true, Sum.inl.injEq]
      funext j
      unfold upd
      by_cases h1 : j = i
      · simp [h1]
      · by_cases h2 : j < i
        · simp [h1, h2, Nat.lt_succ_of_lt h2]
        · simp [h1, h2, show ¬ j < i + 1 by omega]
    · refine jj_iincN hC dJ7_fill_53178_14 rfl (d9 := 1) (by decide) (by decide) [1, 2, 0, 3] (lv' := [(0, _), (1, _), (2, .int _), (3, _)]) rfl ?_
      refine jj_goto hC dJ7_fill_53178_17 (tgt := 5) (by decide) ?_
      exact ih
theorem mbJ_265 : Cond.constant RJ6 265 1431655765 ∈ wsJ6_bitCount_0f7a4 := by decide +kernel
theorem mbJ_266 : Cond.constant RJ6 266 858993459 ∈ wsJ6_bitCount_0f7a4 := by decide +kernel
theorem mbJ_267 : Cond.constant RJ6 267 252645135 ∈ wsJ6_bitCount_0f7a4 := by decide +kernel
theorem jj_ldcw {cc : ByteArray} {nL : Nat} {ret : Option FieldType} {Ts : List Cond} {own : String} {rm : Room} {tys : List (ClassId × FieldType)} {E : jj_E} {k n : Nat} {Q : State → Prop} {ws : va_W} {pc : Nat} {lv : List (Nat × Value)} {rest : List Value} {index : Nat} {v : Int32} (hC : jj_C cc nL ret Ts own rm tys E) (hd : decode cc pc = .ok (.ldc_w index, 3)) (hc : .constant own index v ∈ Ts) (hk : jj_J E k n Q ws (pc + 3) lv (.int v :: rest)) : jj_J E k n Q ws pc lv rest := fun H locs ls hP hD hS hl => lv_ldcw hC.1 hC.2.1 hC.2.2.2.1 (hC.2.2.2.2.1 _ hc) hd (hk H locs ls hP hD hS hl)
theorem jj_ldc2 {cc : ByteArray} {nL : Nat} {ret : Option FieldType} {Ts : List Cond} {own : String} {rm : Room} {tys : List (ClassId × FieldType)} {E : jj_E} {k n : Nat} {Q : State → Prop} {ws : va_W} {pc : Nat} {lv : List (Nat × Value)} {rest : List Value} {index : Nat} {v : Int64} (hC : jj_C cc nL ret Ts own rm tys E) (hd : decode cc pc = .ok (.ldc2_w index, 3)) (hc : .constantLong own index v ∈ Ts) (hk : jj_J E k n Q ws (pc + 3) lv (.long v :: rest)) : jj_J E k n Q ws pc lv rest := fun H locs ls hP hD hS hl => lv_ldc2 hC.1 hC.2.1 hC.2.2.2.1 (hC.2.2.2.2.1 _ hc) hd (hk H locs ls hP hD hS hl)
set_option maxRecDepth 100000 in
set_option maxHeartbeats 4000000 in
theorem xm_bitCount (l : Launch) (D : va_G) (c1 c2 c3 : ClassId) (x : Int32) : jj_M l D (ts_T c1 c2 c3) yJ6_bitCount_0f7a4 wsJ6_bitCount_0f7a4 rJ_bitCount [.int x] [] Unit (fun r _ => r = ts_bc x) (fun _ => []) := by
  refine jj_met (cc := cJ6_bitCount_0f7a4) (nL := 1) (by decide) rfl (Nat.le_of_ble_eq_true rfl) (fun E Q hC hEl hED hD0 hret => ?_)
  show jj_J E 0 0 Q [] 0 [(0, .int x)] []
  refine jj_iload_n hC dJ6_bitCount_0f7a4_0 rfl ?_
  refine jj_iload_n hC dJ6_bitCount_0f7a4_1 rfl ?_
  refine jj_iconst hC dJ6_bitCount_0f7a4_2 (v := 1) (by decide) ?_
  refine jj_iushr hC dJ6_bitCount_0f7a4_3 rfl ?_
  refine jj_ldcw hC dJ6_bitCount_0f7a4_4 mbJ_265 ?_
  refine jj_iand hC dJ6_bitCount_0f7a4_7 ?_
  refine jj_isub hC dJ6_bitCount_0f7a4_8 ?_
  refine jj_istore_n hC dJ6_bitCount_0f7a4_9 (by decide) [0] (lv' := [(0, .int _)]) rfl ?_
  refine jj_iload_n hC dJ6_bitCount_0f7a4_10 rfl ?_
  refine jj_ldcw hC dJ6_bitCount_0f7a4_11 mbJ_266 ?_
  refine jj_iand hC dJ6_bitCount_0f7a4_14 ?_
  refine jj_iload_n hC dJ6_bitCount_0f7a4_15 rfl ?_
  refine jj_iconst hC dJ6_bitCount_0f7a4_16 (v := 2) (by decide) ?_
  refine jj_iushr hC dJ6_bitCount_0f7a4_17 rfl ?_
  refine jj_ldcw hC dJ6_bitCount_0f7a4_18 mbJ_266 ?_
  refine jj_iand hC dJ6_bitCount_0f7a4_21 ?_
  refine jj_iadd hC dJ6_bitCount_0f7a4_22 ?_
  refine jj_istore_n hC dJ6_bitCount_0f7a4_23 (by decide) [0] (lv' := [(0, .int _)]) rfl ?_
  refine jj_iload_n hC dJ6_bitCount_0f7a4_24 rfl ?_
  refine jj_iload_n hC dJ6_bitCount_0f7a4_25 rfl ?_
  refine jj_iconst hC dJ6_bitCount_0f7a4_26 (v := 4) (by decide) ?_
  refine jj_iushr hC dJ6_bitCount_0f7a4_27 rfl ?_
  refine jj_iadd hC dJ6_bitCount_0f7a4_28 ?_
  refine jj_ldcw hC dJ6_bitCount_0f7a4_29 mbJ_267 ?_
  refine jj_iand hC dJ6_bitCount_0f7a4_32 ?_
  refine jj_istore_n hC dJ6_bitCount_0f7a4_33 (by decide) [0] (lv' := [(0, .int _)]) rfl ?_
  refine jj_iload_n hC dJ6_bitCount_0f7a4_34 rfl ?_
  refine jj_iload_n hC dJ6_bitCount_0f7a4_35 rfl ?_
  refine jj_bipush hC dJ6_bitCount_0f7a4_36 (v := 8) (by decide) ?_
  refine jj_iushr hC dJ6_bitCount_0f7a4_38 rfl ?_
  refine jj_iadd hC dJ6_bitCount_0f7a4_39 ?_
  refine jj_istore_n hC dJ6_bitCount_0f7a4_40 (by decide) [0] (lv' := [(0, .int _)]) rfl ?_
  refine jj_iload_n hC dJ6_bitCount_0f7a4_41 rfl ?_
  refine jj_iload_n hC dJ6_bitCount_0f7a4_42 rfl ?_
  refine jj_bipush hC dJ6_bitCount_0f7a4_43 (v := 16) (by decide) ?_
  refine jj_iushr hC dJ6_bitCount_0f7a4_45 rfl ?_
  refine jj_iadd hC dJ6_bitCount_0f7a4_46 ?_
  refine jj_istore_n hC dJ6_bitCount_0f7a4_47 (by decide) [0] (lv' := [(0, .int _)]) rfl ?_
  refine jj_iload_n hC dJ6_bitCount_0f7a4_48 rfl ?_
  refine jj_bipush hC dJ6_bitCount_0f7a4_49 (v := 63) (by decide) ?_
  refine jj_iand hC dJ6_bitCount_0f7a4_51 ?_
  exact hret _ _ _ () dJ6_bitCount_0f7a4_52 (by rfl) rfl
