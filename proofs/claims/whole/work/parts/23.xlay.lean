theorem lkX0_numbersLaidOut_42 : Cond.fieldLink RX0 42 RX0 (TX0 15).2.1 (TX0 15).2.2.1 ∈ wsX0_numbersLaidOut := by decide +kernel
theorem hinX0_numbersLaidOut : ∀ w ∈ wsX00, w ∈ wsX0_numbersLaidOut := by decide +kernel
set_option maxRecDepth 100000 in
set_option maxHeartbeats 4000000 in
theorem xm_numbersLaidOut (l : Launch) (D : va_G) (a : Nat → Nat) (c1 c2 c3 : ClassId) (v : ts_V) (g : Nat → Int32) (h : Int32) (G : Nat → Nat) (hG : ∀ j, G j ≤ 10) (hg : ∀ j, j < 48 → g j = ts_m1 (G j)) (s : Nat) (hs : s < 8) : jj_M l D (ts_T c1 c2 c3) yX0_numbersLaidOut wsX0_numbersLaidOut rX0_numbersLaidOut [.ref (a 0), .int (nI s)] (wx a c1 c2 v g h) Unit (fun x _ => x = nI (ts_numG G s)) (fun _ => wx a c1 c2 v g h) := by
  refine jj_met (cc := cX0_numbersLaidOut) (nL := 4) (by decide) rfl (Nat.le_of_ble_eq_true rfl) (fun E Q hC hEl hED hD0 hret => ?_)
  show jj_J E 0 0 Q (wx a c1 c2 v g h) 0 [(0, .ref (a 0)), (1, .int (nI s))] []
  refine jj_iconst hC dX0_numbersLaidOut_0 (v := nI 0) (by decide) ?_
  refine jj_istore_n hC dX0_numbersLaidOut_1 (by decide) [1, 2, 0] (lv' := [(0, _), (1, _), (2, .int _)]) rfl ?_
  refine jj_iconst hC dX0_numbersLaidOut_2 (v := nI 0) (by decide) ?_
  refine jj_istore_n hC dX0_numbersLaidOut_3 (by decide) [1, 2, 3, 0] (lv' := [(0, _), (1, _), (2, _), (3, .int _)]) rfl ?_
  refine jj_for (P := fun i => jj_J E 0 0 Q (wx a c1 c2 v g h) 4 [(0, .ref (a 0)), (1, .int (nI s)), (2, .int (nI (ts_cnt (fun k => decide (0 < G (s * 6 + k))) i))), (3, .int (nI i))] []) (N := 6) ?_ ?_ 0 (Nat.zero_le _)
  · refine jj_iload_n hC dX0_numbersLaidOut_4 rfl ?_
    refine jj_bipush hC dX0_numbersLaidOut_5 (v := nI 6) (by decide) ?_
    refine jj_icmp_geT hC dX0_numbersLaidOut_7 (tgt := 34) (by decide) (nI_le (Nat.le_refl _) (by omega)) ?_
    refine jj_iload_n hC dX0_numbersLaidOut_34 rfl ?_
    exact hret _ _ _ () dX0_numbersLaidOut_35 (by rfl) rfl
  · intro i hi ih
    refine jj_iload_n hC dX0_numbersLaidOut_4 rfl ?_
    refine jj_bipush hC dX0_numbersLaidOut_5 (v := nI 6) (by decide) ?_
    refine jj_icmp_geF hC dX0_numbersLaidOut_7 (tgt := 34) (by decide) (nI_ge hi (by omega)) ?_
    refine jj_aload_n hC dX0_numbersLaidOut_10 rfl ?_
    refine jj_get hC 0 15 dX0_numbersLaidOut_11 (by rfl) rfl (by decide) lkX0_numbersLaidOut_42 rfl hinX0_numbersLaidOut (by rfl) ?_
    refine jj_iload_n hC dX0_numbersLaidOut_14 rfl ?_
    refine jj_bipush hC dX0_numbersLaidOut_15 (v := nI 6) (by decide) ?_
    first | refine jj_imulN hC dX0_numbersLaidOut_17 ?_ | refine jj_imul hC dX0_numbersLaidOut_17 ?_
    refine jj_iload_n hC dX0_numbersLaidOut_18 rfl ?_
    first | refine jj_iaddN hC dX0_numbersLaidOut_19 ?_ | refine jj_iadd hC dX0_numbersLaidOut_19 ?_
    refine jj_iald hC 11 0 dX0_numbersLaidOut_20 (wx_g11 ..) rfl (by omega) (by decide) ?_
    refine jj_iconst hC dX0_numbersLaidOut_21 (v := -1) (by decide) ?_
    refine jj_icmp_eq hC dX0_numbersLaidOut_22 (tgt := 28) (by decide) (fun c22 => ?_) (fun c22 => ?_)
    · refine jj_iincN hC dX0_numbersLaidOut_28 rfl (d9 := 1) (by decide) (by decide) [1, 2, 3, 0] (lv' := [(0, _), (1, _), (2, _), (3, .int _)]) rfl ?_
      refine jj_goto hC dX0_numbersLaidOut_31 (tgt := 4) (by decide) ?_
      rw [hg _ (by omega), ts_m1_eq (by have := hG (s * 6 + i); omega)] at c22
      exact jj_lv ih (by simp [ts_cnt, c22, Nat.pos_iff_ne_zero])
    · refine jj_iincN hC dX0_numbersLaidOut_25 rfl (d9 := 1) (by decide) (by decide) [1, 2, 0, 3] (lv' := [(0, _), (1, _), (2, .int _), (3, _)]) rfl ?_
      refine jj_iincN hC dX0_numbersLaidOut_28 rfl (d9 := 1) (by decide) (by decide) [1, 2, 3, 0] (lv' := [(0, _), (1, _), (2, _), (3, .int _)]) rfl ?_
      refine jj_goto hC dX0_numbersLaidOut_31 (tgt := 4) (by decide) ?_
      rw [hg _ (by omega), ts_m1_eq (by have := hG (s * 6 + i); omega)] at c22
      exact jj_lv ih (by simp [ts_cnt, c22, Nat.pos_iff_ne_zero])
theorem lkX0_statesLaidOut_42 : Cond.fieldLink RX0 42 RX0 (TX0 15).2.1 (TX0 15).2.2.1 ∈ wsX0_statesLaidOut := by decide +kernel
theorem mkX0_statesLaidOut_233 : Cond.methodLink RX0 233 Lib.Math.max.name ∈ wsX0_statesLaidOut := by decide +kernel
theorem msX0_statesLaidOut_max : Cond.static Lib.Math.max.name ∈ wsX0_statesLaidOut := by decide +kernel
theorem miX0_statesLaidOut : Cond.initialized "java/lang/Math" ∈ wsX0_statesLaidOut := by decide +kernel
theorem mcX0_statesLaidOut_max : Cond.code Lib.Math.max.name Lib.Math.max.code 2 (some .int) ∈ wsX0_statesLaidOut := by decide +kernel
theorem hinX0_statesLaidOut : ∀ w ∈ wsX00, w ∈ wsX0_statesLaidOut := by decide +kernel
set_option maxRecDepth 100000 in
set_option maxHeartbeats 4000000 in
theorem xm_statesLaidOut (l : Launch) (D : va_G) (a : Nat → Nat) (c1 c2 c3 : ClassId) (v : ts_V) (g : Nat → Int32) (h : Int32) (G : Nat → Nat) (hG : ∀ j, G j ≤ 10) (hg : ∀ j, j < 48 → g j = ts_m1 (G j)) (s : Nat) (hs : s < 8) : jj_M l D (ts_T c1 c2 c3) yX0_statesLaidOut wsX0_statesLaidOut rX0_statesLaidOut [.ref (a 0), .int (nI s)] (wx a c1 c2 v g h) Unit (fun x _ => x = nI (ts_sttG G s)) (fun _ => wx a c1 c2 v g h) := by
  refine jj_met (cc := cX0_statesLaidOut) (nL := 4) (by decide) rfl (Nat.le_of_ble_eq_true rfl) (fun E Q hC hEl hED hD0 hret => ?_)
  show jj_J E 0 0 Q (wx a c1 c2 v g h) 0 [(0, .ref (a 0)), (1, .int (nI s))] []
  refine jj_iconst hC dX0_statesLaidOut_0 (v := nI 0) (by decide) ?_
  refine jj_istore_n hC dX0_statesLaidOut_1 (by decide) [1, 2, 0] (lv' := [(0, _), (1, _), (2, .int _)]) rfl ?_
  refine jj_iconst hC dX0_statesLaidOut_2 (v := nI 0) (by decide) ?_
  refine jj_istore_n hC dX0_statesLaidOut_3 (by decide) [1, 2, 3, 0] (lv' := [(0, _), (1, _), (2, _), (3, .int _)]) rfl ?_
  refine jj_for (P := fun i => jj_J E 0 0 Q (wx a c1 c2 v g h) 4 [(0, .ref (a 0)), (1, .int (nI s)), (2, .int (nI (ts_sum (fun k => G (s * 6 + k) - 1) i))), (3, .int (nI i))] []) (N := 6) ?_ ?_ 0 (Nat.zero_le _)
  · refine jj_iload_n hC dX0_statesLaidOut_4 rfl ?_
    refine jj_bipush hC dX0_statesLaidOut_5 (v := nI 6) (by decide) ?_
    refine jj_icmp_geT hC dX0_statesLaidOut_7 (tgt := 34) (by decide) (nI_le (Nat.le_refl _) (by omega)) ?_
    refine jj_iload_n hC dX0_statesLaidOut_34 rfl ?_
    exact hret _ _ _ () dX0_statesLaidOut_35 (by rfl) rfl
  · intro i hi ih
    refine jj_iload_n hC dX0_statesLaidOut_4 rfl ?_
    refine jj_bipush hC dX0_statesLaidOut_5 (v := nI 6) (by decide) ?_
    refine jj_icmp_geF hC dX0_statesLaidOut_7 (tgt := 34) (by decide) (nI_ge hi (by omega)) ?_
    refine jj_iload_n hC dX0_statesLaidOut_10 rfl ?_
    refine jj_aload_n hC dX0_statesLaidOut_11 rfl ?_
    refine jj_get hC 0 15 dX0_statesLaidOut_12 (by rfl) rfl (by decide) lkX0_statesLaidOut_42 rfl hinX0_statesLaidOut (by rfl) ?_
    refine jj_iload_n hC dX0_statesLaidOut_15 rfl ?_
    refine jj_bipush hC dX0_statesLaidOut_16 (v := nI 6) (by decide) ?_
    first | refine jj_imulN hC dX0_statesLaidOut_18 ?_ | refine jj_imul hC dX0_statesLaidOut_18 ?_
    refine jj_iload_n hC dX0_statesLaidOut_19 rfl ?_
    first | refine jj_iaddN hC dX0_statesLaidOut_20 ?_ | refine jj_iadd hC dX0_statesLaidOut_20 ?_
    refine jj_iald hC 11 0 dX0_statesLaidOut_21 (wx_g11 ..) rfl (by omega) (by decide) ?_
    refine jj_iconst hC dX0_statesLaidOut_22 (v := nI 0) (by decide) ?_
    refine jj_mmax hC dX0_statesLaidOut_23 mkX0_statesLaidOut_233 msX0_statesLaidOut_max miX0_statesLaidOut mcX0_statesLaidOut_max ⟨by decide, Nat.le_of_ble_eq_true rfl, by decide, by decide⟩ ?_
    rw [hg _ (by omega), ts_m1_max0 (by have := hG (s * 6 + i); omega)]
    first | refine jj_iaddN hC dX0_statesLaidOut_26 ?_ | refine jj_iadd hC dX0_statesLaidOut_26 ?_
    refine jj_istore_n hC dX0_statesLaidOut_27 (by decide) [1, 2, 0, 3] (lv' := [(0, _), (1, _), (2, .int _), (3, _)]) rfl ?_
    refine jj_iincN hC dX0_statesLaidOut_28 rfl (d9 := 1) (by decide) (by decide) [1, 2, 3, 0] (lv' := [(0, _), (1, _), (2, _), (3, .int _)]) rfl ?_
    refine jj_goto hC dX0_statesLaidOut_31 (tgt := 4) (by decide) ?_
    exact ih
theorem lkX0_worthLaidOut_230 : Cond.fieldLink RX0 230 RX0 (TX0 16).2.1 (TX0 16).2.2.1 ∈ wsX0_worthLaidOut := by decide +kernel
theorem lkX0_worthLaidOut_33 : Cond.fieldLink RX0 33 RX0 (TX0 12).2.1 (TX0 12).2.2.1 ∈ wsX0_worthLaidOut := by decide +kernel
theorem hinX0_worthLaidOut : ∀ w ∈ wsX00, w ∈ wsX0_worthLaidOut := by decide +kernel
set_option maxRecDepth 100000 in
set_option maxHeartbeats 4000000 in
theorem xm_worthLaidOut (l : Launch) (D : va_G) (a : Nat → Nat) (c1 c2 c3 : ClassId) (v : ts_V) (g : Nat → Int32) (h : Int32) (hI : ts_I v) (G : Nat → Nat) (hG : ∀ j, G j ≤ 10) (hg : ∀ j, j < 48 → g j = ts_m1 (G j)) (c : Nat) (hc : c < ts_k v) : jj_M l D (ts_T c1 c2 c3) yX0_worthLaidOut wsX0_worthLaidOut rX0_worthLaidOut [.ref (a 0), .int (nI c)] (wx a c1 c2 v g h) Unit (fun x _ => x = nI (ts_woG G (ts_bcN h) (ts_li v c))) (fun _ => wx a c1 c2 v g h) := by
  obtain ⟨hn, hk, hth, hwk, hli, hgr⟩ := id hI
  refine jj_met (cc := cX0_worthLaidOut) (nL := 5) (by decide) rfl (Nat.le_of_ble_eq_true rfl) (fun E Q hC hEl hED hD0 hret => ?_)
  show jj_J E 0 0 Q (wx a c1 c2 v g h) 0 [(0, .ref (a 0)), (1, .int (nI c))] []
  refine jj_iconst hC dX0_worthLaidOut_0 (v := nI 3) (by decide) ?_
  refine jj_aload_n hC dX0_worthLaidOut_1 rfl ?_
  refine jj_get hC 0 16 dX0_worthLaidOut_2 (by rfl) rfl (by decide) lkX0_worthLaidOut_230 rfl hinX0_worthLaidOut (by rfl) ?_
  refine jj_scalliN hC (xm_bitCount _ _ c1 c2 c3 h) gX0_worthLaidOut_J6_bitCount_0f7a4 rfl 1 (by decide +kernel) ⟨by decide, by decide, by decide, by decide⟩ rfl rfl rfl (Nat.le_of_ble_eq_true rfl) dX0_worthLaidOut_5 (fun r u hp => ?_)
  obtain rfl := hp
  rw [(ts_bc_eq h).1]
  first | refine jj_imulN hC dX0_worthLaidOut_8 ?_ | refine jj_imul hC dX0_worthLaidOut_8 ?_
  refine jj_istore_n hC dX0_worthLaidOut_9 (by decide) [1, 2, 0] (lv' := [(0, _), (1, _), (2, .int _)]) rfl ?_
  refine jj_iconst hC dX0_worthLaidOut_10 (v := nI 0) (by decide) ?_
  refine jj_istore_n hC dX0_worthLaidOut_11 (by decide) [1, 2, 3, 0] (lv' := [(0, _), (1, _), (2, _), (3, .int _)]) rfl ?_
  refine jj_for (P := fun i => jj_J E 0 0 Q (wx a c1 c2 v g h) 12 [(0, .ref (a 0)), (1, .int (nI c)), (2, .int (nI (3 * ts_bcN h + ts_sum (fun s => ts_li v c s * 2 * ts_numG G s * ts_numG G s + ts_sttG G s) i))), (3, .int (nI i))] []) (N := 8) ?_ ?_ 0 (Nat.zero_le _)
  · refine jj_iload_n hC dX0_worthLaidOut_12 rfl ?_
    refine jj_bipush hC dX0_worthLaidOut_13 (v := nI 8) (by decide) ?_
    refine jj_icmp_geT hC dX0_worthLaidOut_15 (tgt := 56) (by decide) (nI_le (Nat.le_refl _) (by omega)) ?_
    refine jj_iload_n hC dX0_worthLaidOut_56 rfl ?_
    exact hret _ _ _ () dX0_worthLaidOut_57 (by rfl) rfl
  · intro i hi ih
    refine jj_iload_n hC dX0_worthLaidOut_12 rfl ?_
    refine jj_bipush hC dX0_worthLaidOut_13 (v := nI 8) (by decide) ?_
    refine jj_icmp_geF hC dX0_worthLaidOut_15 (tgt := 56) (by decide) (nI_ge hi (by omega)) ?_
    refine jj_aload_n hC dX0_worthLaidOut_18 rfl ?_
    refine jj_iload_n hC dX0_worthLaidOut_19 rfl ?_
    refine jj_calli hC (xm_numbersLaidOut _ _ a c1 c2 c3 v g h G hG hg i hi) gX0_worthLaidOut_X0_numbersLaidOut rfl 1 (by decide +kernel) ⟨by decide, by decide, by decide, by decide⟩ 0 0 (by rfl) rfl rfl rfl rfl (Nat.le_of_ble_eq_true rfl) dX0_worthLaidOut_20 (fun r u hp => ?_)
    obtain rfl := hp
    refine jj_istore hC dX0_worthLaidOut_23 (by decide) [1, 2, 3, 4, 0] (lv' := [(0, _), (1, _), (2, _), (3, _), (4, .int _)]) rfl ?_
    refine jj_iload_n hC dX0_worthLaidOut_25 rfl ?_
    refine jj_aload_n hC dX0_worthLaidOut_26 rfl ?_
    refine jj_get hC 0 12 dX0_worthLaidOut_27 (by rfl) rfl (by decide) lkX0_worthLaidOut_33 rfl hinX0_worthLaidOut (by rfl) ?_
    refine jj_iload_n hC dX0_worthLaidOut_30 rfl ?_
    refine jj_aald hC 8 1 dX0_worthLaidOut_31 (wx_g8 ..) rfl rfl (by omega) (by decide) (if_pos (by omega)) ?_
    refine jj_iload_n hC dX0_worthLaidOut_32 rfl ?_
    refine jj_iald hC _ 0 dX0_worthLaidOut_33 (wx_gli _ _ _ _ _ _ _ (by omega)) rfl (by omega) (by decide) ?_
    refine jj_iconst hC dX0_worthLaidOut_34 (v := nI 2) (by decide) ?_
    first | refine jj_imulN hC dX0_worthLaidOut_35 ?_ | refine jj_imul hC dX0_worthLaidOut_35 ?_
    refine jj_iload hC dX0_worthLaidOut_36 rfl ?_
    first | refine jj_imulN hC dX0_worthLaidOut_38 ?_ | refine jj_imul hC dX0_worthLaidOut_38 ?_
    refine jj_iload hC dX0_worthLaidOut_39 rfl ?_
    first | refine jj_imulN hC dX0_worthLaidOut_41 ?_ | refine jj_imul hC dX0_worthLaidOut_41 ?_
    refine jj_aload_n hC dX0_worthLaidOut_42 rfl ?_
    refine jj_iload_n hC dX0_worthLaidOut_43 rfl ?_
    refine jj_calli hC (xm_statesLaidOut _ _ a c1 c2 c3 v g h G hG hg i hi) gX0_worthLaidOut_X0_statesLaidOut rfl 1 (by decide +kernel) ⟨by decide, by decide, by decide, by decide⟩ 0 0 (by rfl) rfl rfl rfl rfl (Nat.le_of_ble_eq_true rfl) dX0_worthLaidOut_44 (fun r u hp => ?_)
    obtain rfl := hp
    first | refine jj_iaddN hC dX0_worthLaidOut_47 ?_ | refine jj_iadd hC dX0_worthLaidOut_47 ?_
    first | refine jj_iaddN hC dX0_worthLaidOut_48 ?_ | refine jj_iadd hC dX0_worthLaidOut_48 ?_
    refine jj_istore_n hC dX0_worthLaidOut_49 (by decide) [1, 2, 0, 3, 4] (lv' := [(0, _), (1, _), (2, .int _), (3, _), (4, _)]) rfl ?_
    refine jj_iincN hC dX0_worthLaidOut_50 rfl (d9 := 1) (by decide) (by decide) [1, 2, 3, 0, 4] (lv' := [(0, _), (1, _), (2, _), (3, .int _), (4, _)]) rfl ?_
    refine jj_goto hC dX0_worthLaidOut_53 (tgt := 12) (by decide) ?_
    refine jj_sub [0, 1, 2, 3] (lv' := [(0, _), (1, _), (2, _), (3, _)]) rfl (jj_lv ih (by simp [ts_sum, Nat.add_assoc]))
theorem lkX0_layOut_42 : Cond.fieldLink RX0 42 RX0 (TX0 15).2.1 (TX0 15).2.2.1 ∈ wsX0_layOut := by decide +kernel
theorem lkX0_layOut_230 : Cond.fieldLink RX0 230 RX0 (TX0 16).2.1 (TX0 16).2.2.1 ∈ wsX0_layOut := by decide +kernel
theorem lkX0_layOut_75 : Cond.fieldLink RX0 75 RX0 (TX0 2).2.1 (TX0 2).2.2.1 ∈ wsX0_layOut := by decide +kernel
theorem lkX0_layOut_9 : Cond.fieldLink RX0 9 RX0 (TX0 5).2.1 (TX0 5).2.2.1 ∈ wsX0_layOut := by decide +kernel
theorem lkX0_layOut_13 : Cond.fieldLink RX0 13 RX0 (TX0 6).2.1 (TX0 6).2.2.1 ∈ wsX0_layOut := by decide +kernel
theorem lkX0_layOut_19 : Cond.fieldLink RX0 19 RX0 (TX0 8).2.1 (TX0 8).2.2.1 ∈ wsX0_layOut := by decide +kernel
theorem mkX0_layOut_233 : Cond.methodLink RX0 233 Lib.Math.max.name ∈ wsX0_layOut := by decide +kernel
theorem msX0_layOut_max : Cond.static Lib.Math.max.name ∈ wsX0_layOut := by decide +kernel
theorem miX0_layOut : Cond.initialized "java/lang/Math" ∈ wsX0_layOut := by decide +kernel
theorem mcX0_layOut_max : Cond.code Lib.Math.max.name Lib.Math.max.code 2 (some .int) ∈ wsX0_layOut := by decide +kernel
theorem lkX0_layOut_16 : Cond.fieldLink RX0 16 RX0 (TX0 7).2.1 (TX0 7).2.2.1 ∈ wsX0_layOut := by decide +kernel
theorem lkX0_layOut_22 : Cond.fieldLink RX0 22 RX0 (TX0 9).2.1 (TX0 9).2.2.1 ∈ wsX0_layOut := by decide +kernel
theorem hinX0_layOut : ∀ w ∈ wsX00, w ∈ wsX0_layOut := by decide +kernel
set_option maxRecDepth 100000 in
set_option maxHeartbeats 4000000 in
theorem xm_layOut (l : Launch) (D : va_G) (a : Nat → Nat) (c1 c2 c3 : ClassId) (v : ts_V) (g : Nat → Int32) (h : Int32) (hI : ts_I v) (c : Nat) (hc : c < 36) (x y : Int32) (p : Nat → Bool) (hp : ∀ t, t < 36 → p t = (decide (nI t = y) || (decide (¬ nI t = x) && ts_ow v t == c))) : jj_Mv l D (ts_T c1 c2 c3) yX0_layOut wsX0_layOut rX0_layOut [.ref (a 0), .int (nI c), .int x, .int y] (wx a c1 c2 v g h) (Nat → Int32) (fun (u : Nat → Int32) => ∀ j, j < 48 → u j = ts_m1 (ts_lay v p j)) (fun u => wx a c1 c2 v u (ts_or p (ts_ha v) (ts_n v))) := by
  obtain ⟨hn, hk, hth, hwk, hli, hgr⟩ := id hI
  refine jj_metv (cc := cX0_layOut) (nL := 6) (by decide) rfl (Nat.le_of_ble_eq_true rfl) (fun E Q hC hEl hED hD0 hnm hret => ?_)
  show jj_J E 0 0 Q (wx a c1 c2 v g h) 0 [(0, .ref (a 0)), (1, .int (nI c)), (2, .int x), (3, .int y)] []
  refine jj_aload_n hC dX0_layOut_0 rfl ?_
  refine jj_get hC 0 15 dX0_layOut_1 (by rfl) rfl (by decide) lkX0_layOut_42 rfl hinX0_layOut (by rfl) ?_
  refine jj_iconst hC dX0_layOut_4 (v := -1) (by decide) ?_
  refine jj_scallv1 hC (q := 11) (by rfl) (xm_fill _ _ c1 c2 c3 (a 11) 48 (by decide) g (-1)) gX0_layOut_J7_fill_53178 rfl 2 (by decide +kernel) ⟨by decide, by decide, by decide, by decide⟩ rfl rfl rfl (Nat.le_of_ble_eq_true rfl) dX0_layOut_5 (wx_s11 ..) ?_
  refine jj_aload_n hC dX0_layOut_8 rfl ?_
  refine jj_iconst hC dX0_layOut_9 (v := nI 0) (by decide) ?_
  refine jj_put hC 0 16 dX0_layOut_10 (by rfl) rfl (by decide) lkX0_layOut_230 rfl hinX0_layOut tyX0_ok nmX0 rfl rfl rfl rfl (Nat.le_of_ble_eq_true rfl) (wx_p16 ..) ?_
  refine jj_iconst hC dX0_layOut_13 (v := nI 0) (by decide) ?_
  refine jj_istore hC dX0_layOut_14 (by decide) [1, 2, 3, 4, 0] (lv' := [(0, _), (1, _), (2, _), (3, _), (4, .int _)]) rfl ?_
  refine jj_for (P := fun i => ∀ g1 : Nat → Int32, (∀ j, j < 48 → g1 j = ts_m1 (ts_gs p (ts_se v) (ts_nu v) (ts_st v) (j / 6) (j % 6) i)) → jj_J E 0 0 Q (wx a c1 c2 v g1 (ts_or p (ts_ha v) i)) 16 [(0, .ref (a 0)), (1, .int (nI c)), (2, .int x), (3, .int y), (4, .int (nI i))] []) (N := ts_n v) ?_ ?_ 0 (Nat.zero_le _) _ ?_
  · intro g1 hg1
    refine jj_iload hC dX0_layOut_16 rfl ?_
    refine jj_aload_n hC dX0_layOut_18 rfl ?_
    refine jj_get hC 0 2 dX0_layOut_19 (by rfl) rfl (by decide) lkX0_layOut_75 rfl hinX0_layOut (by rfl) ?_
    refine jj_icmp_geT hC dX0_layOut_22 (tgt := 116) (by decide) (nI_le (Nat.le_refl _) (by omega)) ?_
    exact hret _ _ g1 dX0_layOut_116 hg1
  · intro i hi ih g1 hg1
    have hb := hth i hi
    refine jj_iload hC dX0_layOut_16 rfl ?_
    refine jj_aload_n hC dX0_layOut_18 rfl ?_
    refine jj_get hC 0 2 dX0_layOut_19 (by rfl) rfl (by decide) lkX0_layOut_75 rfl hinX0_layOut (by rfl) ?_
    refine jj_icmp_geF hC dX0_layOut_22 (tgt := 116) (by decide) (nI_ge hi (by omega)) ?_
    refine jj_iload hC dX0_layOut_25 rfl ?_
    refine jj_iload_n hC dX0_layOut_27 rfl ?_
    refine jj_icmp_eq hC dX0_layOut_28 (tgt := 48) (by decide) (fun c28 => ?_) (fun c28 => ?_)
    · have pt : p i = true := by rw [hp i (by omega)]; simp [c28]
      have hs9 : ∀ j, j ≤ i → ts_st v j ≤ 9 := fun j hj => (hth j (by omega)).2.2.2.1
      refine jj_aload_n hC dX0_layOut_48 rfl ?_
      refine jj_get hC 0 5 dX0_layOut_49 (by rfl) rfl (by decide) lkX0_layOut_9 rfl hinX0_layOut (by rfl) ?_
      refine jj_iload hC dX0_layOut_52 rfl ?_
      refine jj_iald hC 1 0 dX0_layOut_54 (wx_g1 ..) rfl (by omega) (by decide) ?_
      refine jj_bipush hC dX0_layOut_55 (v := nI 6) (by decide) ?_
      first | refine jj_imulN hC dX0_layOut_57 ?_ | refine jj_imul hC dX0_layOut_57 ?_
      refine jj_aload_n hC dX0_layOut_58 rfl ?_
      refine jj_get hC 0 6 dX0_layOut_59 (by rfl) rfl (by decide) lkX0_layOut_13 rfl hinX0_layOut (by rfl) ?_
      refine jj_iload hC dX0_layOut_62 rfl ?_
      refine jj_iald hC 2 0 dX0_layOut_64 (wx_g2 ..) rfl (by omega) (by decide) ?_
      first | refine jj_iaddN hC dX0_layOut_65 ?_ | refine jj_iadd hC dX0_layOut_65 ?_
      refine jj_istore hC dX0_layOut_66 (by decide) [1, 2, 3, 4, 5, 0] (lv' := [(0, _), (1, _), (2, _), (3, _), (4, _), (5, .int _)]) rfl ?_
      refine jj_aload_n hC dX0_layOut_68 rfl ?_
      refine jj_get hC 0 15 dX0_layOut_69 (by rfl) rfl (by decide) lkX0_layOut_42 rfl hinX0_layOut (by rfl) ?_
      refine jj_iload hC dX0_layOut_72 rfl ?_
      refine jj_aload_n hC dX0_layOut_74 rfl ?_
      refine jj_get hC 0 15 dX0_layOut_75 (by rfl) rfl (by decide) lkX0_layOut_42 rfl hinX0_layOut (by rfl) ?_
      refine jj_iload hC dX0_layOut_78 rfl ?_
      refine jj_iald hC 11 0 dX0_layOut_80 (wx_g11 ..) rfl (by omega) (by decide) ?_
      refine jj_aload_n hC dX0_layOut_81 rfl ?_
      refine jj_get hC 0 8 dX0_layOut_82 (by rfl) rfl (by decide) lkX0_layOut_19 rfl hinX0_layOut (by rfl) ?_
      refine jj_iload hC dX0_layOut_85 rfl ?_
      refine jj_iald hC 4 0 dX0_layOut_87 (wx_g4 ..) rfl (by omega) (by decide) ?_
      refine jj_mmax hC dX0_layOut_88 mkX0_layOut_233 msX0_layOut_max miX0_layOut mcX0_layOut_max ⟨by decide, Nat.le_of_ble_eq_true rfl, by decide, by decide⟩ ?_
      refine jj_iast hC 11 0 dX0_layOut_91 (wx_g11 ..) rfl (by omega) (by decide) (wx_s11 ..) ?_
      refine jj_aload_n hC dX0_layOut_92 rfl ?_
      refine jj_dup hC dX0_layOut_93 rfl ?_
      refine jj_get hC 0 16 dX0_layOut_94 (by rfl) rfl (by decide) lkX0_layOut_230 rfl hinX0_layOut (by rfl) ?_
      refine jj_iconst hC dX0_layOut_97 (v := nI 1) (by decide) ?_
      refine jj_aload_n hC dX0_layOut_98 rfl ?_
      refine jj_get hC 0 7 dX0_layOut_99 (by rfl) rfl (by decide) lkX0_layOut_16 rfl hinX0_layOut (by rfl) ?_
      refine jj_iload hC dX0_layOut_102 rfl ?_
      refine jj_iald hC 3 0 dX0_layOut_104 (wx_g3 ..) rfl (by omega) (by decide) ?_
      refine jj_ishl hC dX0_layOut_105 ?_
      refine jj_ior hC dX0_layOut_106 ?_
      refine jj_put hC 0 16 dX0_layOut_107 (by rfl) rfl (by decide) lkX0_layOut_230 rfl hinX0_layOut tyX0_ok nmX0 rfl rfl rfl rfl (Nat.le_of_ble_eq_true rfl) (wx_p16 ..) ?_
      
      refine jj_iincN hC dX0_layOut_110 rfl (d9 := 1) (by decide) (by decide) [1, 2, 3, 4, 0, 5] (lv' := [(0, _), (1, _), (2, _), (3, _), (4, .int _), (5, _)]) rfl ?_
      refine jj_goto hC dX0_layOut_113 (tgt := 16) (by decide) ?_
      refine jj_sub [0, 1, 2, 3, 4] (lv' := [(0, _), (1, _), (2, _), (3, _), (4, _)]) rfl ?_
      first
        | (rw [show ts_or p (ts_ha v) (i + 1) = ts_or p (ts_ha v) i ||| ((1 : Int32) <<< (nI (ts_ha v i) &&& 31)) by simp [ts_or, pt]] at ih; exact ih _ (ts_lay_step hb.1 hb.2.1 hs9 pt hg1))
        | (have pf : p i = false := by (rw [hp i (by omega)]; first | (simp [c28]; done) | (simp [c28]; simp [c34]))
           rw [show ts_or p (ts_ha v) (i + 1) = ts_or p (ts_ha v) i by simp [ts_or, pf]] at ih; exact ih _ (ts_lay_skip pf hg1))
    · refine jj_iload hC dX0_layOut_31 rfl ?_
      refine jj_iload_n hC dX0_layOut_33 rfl ?_
      refine jj_icmp_eq hC dX0_layOut_34 (tgt := 110) (by decide) (fun c34 => ?_) (fun c34 => ?_)
      · 
        refine jj_iincN hC dX0_layOut_110 rfl (d9 := 1) (by decide) (by decide) [1, 2, 3, 4, 0] (lv' := [(0, _), (1, _), (2, _), (3, _), (4, .int _)]) rfl ?_
        refine jj_goto hC dX0_layOut_113 (tgt := 16) (by decide) ?_
        refine jj_sub [0, 1, 2, 3, 4] (lv' := [(0, _), (1, _), (2, _), (3, _), (4, _)]) rfl ?_
        first
          | (rw [show ts_or p (ts_ha v) (i + 1) = ts_or p (ts_ha v) i ||| ((1 : Int32) <<< (nI (ts_ha v i) &&& 31)) by simp [ts_or, pt]] at ih; exact ih _ (ts_lay_step hb.1 hb.2.1 hs9 pt hg1))
          | (have pf : p i = false := by (rw [hp i (by omega)]; first | (simp [c28, c34]; done) | (simp [c28]; simp [c34]))
             rw [show ts_or p (ts_ha v) (i + 1) = ts_or p (ts_ha v) i by simp [ts_or, pf]] at ih; exact ih _ (ts_lay_skip pf hg1))
      · refine jj_aload_n hC dX0_layOut_37 rfl ?_
        refine jj_get hC 0 9 dX0_layOut_38 (by rfl) rfl (by decide) lkX0_layOut_22 rfl hinX0_layOut (by rfl) ?_
        refine jj_iload hC dX0_layOut_41 rfl ?_
        refine jj_iald hC 5 0 dX0_layOut_43 (wx_g5 ..) rfl (by omega) (by decide) ?_
        refine jj_iload_n hC dX0_layOut_44 rfl ?_
        first | refine jj_icmp_neN hC dX0_layOut_45 (tgt := 110) (by decide) (by omega) (by omega) (fun c45 => ?_) (fun c45 => ?_) | refine jj_icmp_ne hC dX0_layOut_45 (tgt := 110) (by decide) (fun c45 => ?_) (fun c45 => ?_)
        · 
          refine jj_iincN hC dX0_layOut_110 rfl (d9 := 1) (by decide) (by decide) [1, 2, 3, 4, 0] (lv' := [(0, _), (1, _), (2, _), (3, _), (4, .int _)]) rfl ?_
          refine jj_goto hC dX0_layOut_113 (tgt := 16) (by decide) ?_
          refine jj_sub [0, 1, 2, 3, 4] (lv' := [(0, _), (1, _), (2, _), (3, _), (4, _)]) rfl ?_
          first
            | (rw [show ts_or p (ts_ha v) (i + 1) = ts_or p (ts_ha v) i ||| ((1 : Int32) <<< (nI (ts_ha v i) &&& 31)) by simp [ts_or, pt]] at ih; exact ih _ (ts_lay_step hb.1 hb.2.1 hs9 pt hg1))
            | (have pf : p i = false := by (rw [hp i (by omega)]; first | (simp [c28, c34, c45]; done) | (simp [c28]; simp [c34]))
               rw [show ts_or p (ts_ha v) (i + 1) = ts_or p (ts_ha v) i by simp [ts_or, pf]] at ih; exact ih _ (ts_lay_skip pf hg1))
        · have pt : p i = true := by rw [hp i (by omega)]; simp [c28, c34, c45]
          have hs9 : ∀ j, j ≤ i → ts_st v j ≤ 9 := fun j hj => (hth j (by omega)).2.2.2.1
          refine jj_aload_n hC dX0_layOut_48 rfl ?_
          refine jj_get hC 0 5 dX0_layOut_49 (by rfl) rfl (by decide) lkX0_layOut_9 rfl hinX0_layOut (by rfl) ?_
          refine jj_iload hC dX0_layOut_52 rfl ?_
          refine jj_iald hC 1 0 dX0_layOut_54 (wx_g1 ..) rfl (by omega) (by decide) ?_
          refine jj_bipush hC dX0_layOut_55 (v := nI 6) (by decide) ?_
          first | refine jj_imulN hC dX0_layOut_57 ?_ | refine jj_imul hC dX0_layOut_57 ?_
          refine jj_aload_n hC dX0_layOut_58 rfl ?_
          refine jj_get hC 0 6 dX0_layOut_59 (by rfl) rfl (by decide) lkX0_layOut_13 rfl hinX0_layOut (by rfl) ?_
          refine jj_iload hC dX0_layOut_62 rfl ?_
          refine jj_iald hC 2 0 dX0_layOut_64 (wx_g2 ..) rfl (by omega) (by decide) ?_
          first | refine jj_iaddN hC dX0_layOut_65 ?_ | refine jj_iadd hC dX0_layOut_65 ?_
          refine jj_istore hC dX0_layOut_66 (by decide) [1, 2, 3, 4, 5, 0] (lv' := [(0, _), (1, _), (2, _), (3, _), (4, _), (5, .int _)]) rfl ?_
          refine jj_aload_n hC dX0_layOut_68 rfl ?_
          refine jj_get hC 0 15 dX0_layOut_69 (by rfl) rfl (by decide) lkX0_layOut_42 rfl hinX0_layOut (by rfl) ?_
          refine jj_iload hC dX0_layOut_72 rfl ?_
          refine jj_aload_n hC dX0_layOut_74 rfl ?_
          refine jj_get hC 0 15 dX0_layOut_75 (by rfl) rfl (by decide) lkX0_layOut_42 rfl hinX0_layOut (by rfl) ?_
          refine jj_iload hC dX0_layOut_78 rfl ?_
          refine jj_iald hC 11 0 dX0_layOut_80 (wx_g11 ..) rfl (by omega) (by decide) ?_
          refine jj_aload_n hC dX0_layOut_81 rfl ?_
          refine jj_get hC 0 8 dX0_layOut_82 (by rfl) rfl (by decide) lkX0_layOut_19 rfl hinX0_layOut (by rfl) ?_
          refine jj_iload hC dX0_layOut_85 rfl ?_
          refine jj_iald hC 4 0 dX0_layOut_87 (wx_g4 ..) rfl (by omega) (by decide) ?_
          refine jj_mmax hC dX0_layOut_88 mkX0_layOut_233 msX0_layOut_max miX0_layOut mcX0_layOut_max ⟨by decide, Nat.le_of_ble_eq_true rfl, by decide, by decide⟩ ?_
          refine jj_iast hC 11 0 dX0_layOut_91 (wx_g11 ..) rfl (by omega) (by decide) (wx_s11 ..) ?_
          refine jj_aload_n hC dX0_layOut_92 rfl ?_
          refine jj_dup hC dX0_layOut_93 rfl ?_
          refine jj_get hC 0 16 dX0_layOut_94 (by rfl) rfl (by decide) lkX0_layOut_230 rfl hinX0_layOut (by rfl) ?_
          refine jj_iconst hC dX0_layOut_97 (v := nI 1) (by decide) ?_
          refine jj_aload_n hC dX0_layOut_98 rfl ?_
          refine jj_get hC 0 7 dX0_layOut_99 (by rfl) rfl (by decide) lkX0_layOut_16 rfl hinX0_layOut (by rfl) ?_
          refine jj_iload hC dX0_layOut_102 rfl ?_
          refine jj_iald hC 3 0 dX0_layOut_104 (wx_g3 ..) rfl (by omega) (by decide) ?_
          refine jj_ishl hC dX0_layOut_105 ?_
          refine jj_ior hC dX0_layOut_106 ?_
          refine jj_put hC 0 16 dX0_layOut_107 (by rfl) rfl (by decide) lkX0_layOut_230 rfl hinX0_layOut tyX0_ok nmX0 rfl rfl rfl rfl (Nat.le_of_ble_eq_true rfl) (wx_p16 ..) ?_
          
          refine jj_iincN hC dX0_layOut_110 rfl (d9 := 1) (by decide) (by decide) [1, 2, 3, 4, 0, 5] (lv' := [(0, _), (1, _), (2, _), (3, _), (4, .int _), (5, _)]) rfl ?_
          refine jj_goto hC dX0_layOut_113 (tgt := 16) (by decide) ?_
          refine jj_sub [0, 1, 2, 3, 4] (lv' := [(0, _), (1, _), (2, _), (3, _), (4, _)]) rfl ?_
          first
            | (rw [show ts_or p (ts_ha v) (i + 1) = ts_or p (ts_ha v) i ||| ((1 : Int32) <<< (nI (ts_ha v i) &&& 31)) by simp [ts_or, pt]] at ih; exact ih _ (ts_lay_step hb.1 hb.2.1 hs9 pt hg1))
            | (have pf : p i = false := by (rw [hp i (by omega)]; first | (simp [c28, c34, c45]; done) | (simp [c28]; simp [c34]))
               rw [show ts_or p (ts_ha v) (i + 1) = ts_or p (ts_ha v) i by simp [ts_or, pf]] at ih; exact ih _ (ts_lay_skip pf hg1))
  · intro j hj
    simp only [hj, if_true, ts_gs]
    rfl
theorem ts_nI_m1 (t : Nat) (ht : t < 2 ^ 31) : ¬ nI t = -1 := by
  intro e
  have e2 := congrArg Int32.toInt e
  rw [nI_toInt ht] at e2
  have e3 : (-1 : Int32).toInt = -1 := by decide
  omega
set_option maxRecDepth 100000 in
set_option maxHeartbeats 4000000 in
theorem xm_layOutOwn (l : Launch) (D : va_G) (a : Nat → Nat) (c1 c2 c3 : ClassId) (v : ts_V) (g : Nat → Int32) (h : Int32) (hI : ts_I v) (c : Nat) (hc : c < 36) : jj_Mv l D (ts_T c1 c2 c3) yX0_layOutOwn wsX0_layOutOwn rX0_layOutOwn [.ref (a 0), .int (nI c)] (wx a c1 c2 v g h) (Nat → Int32) (fun (u : Nat → Int32) => ∀ j, j < 48 → u j = ts_m1 (ts_lay v (ts_of v c) j)) (fun u => wx a c1 c2 v u (ts_or (ts_of v c) (ts_ha v) (ts_n v))) := by
  obtain ⟨hn, hk, hth, hwk, hli, hgr⟩ := id hI
  refine jj_metv (cc := cX0_layOutOwn) (nL := 2) (by decide) rfl (Nat.le_of_ble_eq_true rfl) (fun E Q hC hEl hED hD0 hnm hret => ?_)
  show jj_J E 0 0 Q (wx a c1 c2 v g h) 0 [(0, .ref (a 0)), (1, .int (nI c))] []
  refine jj_aload_n hC dX0_layOutOwn_0 rfl ?_
  refine jj_iload_n hC dX0_layOutOwn_1 rfl ?_
  refine jj_iconst hC dX0_layOutOwn_2 (v := -1) (by decide) ?_
  refine jj_iconst hC dX0_layOutOwn_3 (v := -1) (by decide) ?_
  refine jj_callv hC (xm_layOut _ _ a c1 c2 c3 v g h hI c hc (-1) (-1) (ts_of v c) (fun t ht => by simp [ts_of, ts_nI_m1 t (by omega)])) gX0_layOutOwn_X0_layOut rfl 3 (by decide +kernel) ⟨by decide, by decide, by decide, by decide⟩ 0 0 (by rfl) rfl rfl rfl rfl (Nat.le_of_ble_eq_true rfl) dX0_layOutOwn_4 (fun u hp => ?_)
  exact hret _ _ u dX0_layOutOwn_7 hp
set_option maxRecDepth 100000 in
set_option maxHeartbeats 4000000 in
theorem xm_worthNow (l : Launch) (D : va_G) (a : Nat → Nat) (c1 c2 c3 : ClassId) (v : ts_V) (g : Nat → Int32) (h : Int32) (hI : ts_I v) (c : Nat) (hc : c < ts_k v) : jj_M l D (ts_T c1 c2 c3) yX0_worthNow wsX0_worthNow rX0_worthNow [.ref (a 0), .int (nI c)] (wx a c1 c2 v g h) ((Nat → Int32) × Int32) (fun x _ => x = nI (ts_now v c)) (fun u => wx a c1 c2 v u.1 u.2) := by
  obtain ⟨hn, hk, hth, hwk, hli, hgr⟩ := id hI
  refine jj_met (cc := cX0_worthNow) (nL := 2) (by decide) rfl (Nat.le_of_ble_eq_true rfl) (fun E Q hC hEl hED hD0 hret => ?_)
  show jj_J E 0 0 Q (wx a c1 c2 v g h) 0 [(0, .ref (a 0)), (1, .int (nI c))] []
  refine jj_aload_n hC dX0_worthNow_0 rfl ?_
  refine jj_iload_n hC dX0_worthNow_1 rfl ?_
  refine jj_callv hC (xm_layOutOwn _ _ a c1 c2 c3 v g h hI c (by omega)) gX0_worthNow_X0_layOutOwn rfl 1 (by decide +kernel) ⟨by decide, by decide, by decide, by decide⟩ 0 0 (by rfl) rfl rfl rfl rfl (Nat.le_of_ble_eq_true rfl) dX0_worthNow_2 (fun u hp => ?_)
  obtain ⟨g1, hg1⟩ : ∃ g1, g1 = u := ⟨u, rfl⟩
  rw [← hg1] at hp ⊢
  clear hg1
  have hg1 := hp
  refine jj_aload_n hC dX0_worthNow_5 rfl ?_
  refine jj_iload_n hC dX0_worthNow_6 rfl ?_
  refine jj_calli hC (xm_worthLaidOut _ _ a c1 c2 c3 v g1 (ts_or (ts_of v c) (ts_ha v) (ts_n v)) hI (ts_lay v (ts_of v c)) (ts_lay_le hI _) hg1 c hc) gX0_worthNow_X0_worthLaidOut rfl 1 (by decide +kernel) ⟨by decide, by decide, by decide, by decide⟩ 0 0 (by rfl) rfl rfl rfl rfl (Nat.le_of_ble_eq_true rfl) dX0_worthNow_7 (fun r u hp => ?_)
  obtain rfl := hp
  exact hret _ _ _ (g1, ts_or (ts_of v c) (ts_ha v) (ts_n v)) dX0_worthNow_10 (by rfl) (by rw [show ts_bcN (ts_or (ts_of v c) (ts_ha v) (ts_n v)) = ts_hm v (ts_of v c) from rfl, ts_woG_lay]; rfl)
set_option maxRecDepth 100000 in
set_option maxHeartbeats 4000000 in
theorem xm_worthAfter (l : Launch) (D : va_G) (a : Nat → Nat) (c1 c2 c3 : ClassId) (v : ts_V) (g : Nat → Int32) (h : Int32) (hI : ts_I v) (c : Nat) (hc : c < ts_k v) (x y : Nat) (hx : x < 36) (hy : y < 36) : jj_M l D (ts_T c1 c2 c3) yX0_worthAfter wsX0_worthAfter rX0_worthAfter [.ref (a 0), .int (nI c), .int (nI x), .int (nI y)] (wx a c1 c2 v g h) ((Nat → Int32) × Int32) (fun r _ => r = nI (ts_aft v c x y)) (fun u => wx a c1 c2 v u.1 u.2) := by
  obtain ⟨hn, hk, hth, hwk, hli, hgr⟩ := id hI
  refine jj_met (cc := cX0_worthAfter) (nL := 4) (by decide) rfl (Nat.le_of_ble_eq_true rfl) (fun E Q hC hEl hED hD0 hret => ?_)
  show jj_J E 0 0 Q (wx a c1 c2 v g h) 0 [(0, .ref (a 0)), (1, .int (nI c)), (2, .int (nI x)), (3, .int (nI y))] []
  refine jj_aload_n hC dX0_worthAfter_0 rfl ?_
  refine jj_iload_n hC dX0_worthAfter_1 rfl ?_
  refine jj_iload_n hC dX0_worthAfter_2 rfl ?_
  refine jj_iload_n hC dX0_worthAfter_3 rfl ?_
  refine jj_callv hC (xm_layOut _ _ a c1 c2 c3 v g h hI c (by omega) (nI x) (nI y) (ts_af v c x y) (fun t ht => by simp [ts_af, nI_eq (show t < 2 ^ 31 by omega) (show x < 2 ^ 31 by omega), nI_eq (show t < 2 ^ 31 by omega) (show y < 2 ^ 31 by omega)]; rfl)) gX0_worthAfter_X0_layOut rfl 3 (by decide +kernel) ⟨by decide, by decide, by decide, by decide⟩ 0 0 (by rfl) rfl rfl rfl rfl (Nat.le_of_ble_eq_true rfl) dX0_worthAfter_4 (fun u hp => ?_)
  obtain ⟨g1, hg1⟩ : ∃ g1, g1 = u := ⟨u, rfl⟩
  rw [← hg1] at hp ⊢
  clear hg1
  have hg1 := hp
  refine jj_aload_n hC dX0_worthAfter_7 rfl ?_
  refine jj_iload_n hC dX0_worthAfter_8 rfl ?_
  refine jj_calli hC (xm_worthLaidOut _ _ a c1 c2 c3 v g1 (ts_or (ts_af v c x y) (ts_ha v) (ts_n v)) hI (ts_lay v (ts_af v c x y)) (ts_lay_le hI _) hg1 c hc) gX0_worthAfter_X0_worthLaidOut rfl 1 (by decide +kernel) ⟨by decide, by decide, by decide, by decide⟩ 0 0 (by rfl) rfl rfl rfl rfl (Nat.le_of_ble_eq_true rfl) dX0_worthAfter_9 (fun r u hp => ?_)
  obtain rfl := hp
  exact hret _ _ _ (g1, ts_or (ts_af v c x y) (ts_ha v) (ts_n v)) dX0_worthAfter_12 (by rfl) (by rw [show ts_bcN (ts_or (ts_af v c x y) (ts_ha v) (ts_n v)) = ts_hm v (ts_af v c x y) from rfl, ts_woG_lay]; rfl)
theorem lkX0_differentHallmarks_230 : Cond.fieldLink RX0 230 RX0 (TX0 16).2.1 (TX0 16).2.2.1 ∈ wsX0_differentHallmarks := by decide +kernel
theorem hinX0_differentHallmarks : ∀ w ∈ wsX00, w ∈ wsX0_differentHallmarks := by decide +kernel
set_option maxRecDepth 100000 in
set_option maxHeartbeats 4000000 in
theorem xm_differentHallmarks (l : Launch) (D : va_G) (a : Nat → Nat) (c1 c2 c3 : ClassId) (v : ts_V) (g : Nat → Int32) (h : Int32) (hI : ts_I v) (c : Nat) (hc : c < ts_k v) : jj_M l D (ts_T c1 c2 c3) yX0_differentHallmarks wsX0_differentHallmarks rX0_differentHallmarks [.ref (a 0), .int (nI c)] (wx a c1 c2 v g h) ((Nat → Int32) × Int32) (fun x _ => x = nI (ts_hm v (ts_of v c))) (fun u => wx a c1 c2 v u.1 u.2) := by
  obtain ⟨hn, hk, hth, hwk, hli, hgr⟩ := id hI
  refine jj_met (cc := cX0_differentHallmarks) (nL := 2) (by decide) rfl (Nat.le_of_ble_eq_true rfl) (fun E Q hC hEl hED hD0 hret => ?_)
  show jj_J E 0 0 Q (wx a c1 c2 v g h) 0 [(0, .ref (a 0)), (1, .int (nI c))] []
  refine jj_aload_n hC dX0_differentHallmarks_0 rfl ?_
  refine jj_iload_n hC dX0_differentHallmarks_1 rfl ?_
  refine jj_callv hC (xm_layOutOwn _ _ a c1 c2 c3 v g h hI c (by omega)) gX0_differentHallmarks_X0_layOutOwn rfl 1 (by decide +kernel) ⟨by decide, by decide, by decide, by decide⟩ 0 0 (by rfl) rfl rfl rfl rfl (Nat.le_of_ble_eq_true rfl) dX0_differentHallmarks_2 (fun u hp => ?_)
  obtain ⟨g1, hg1⟩ : ∃ g1, g1 = u := ⟨u, rfl⟩
  rw [← hg1] at hp ⊢
  refine jj_aload_n hC dX0_differentHallmarks_5 rfl ?_
  refine jj_get hC 0 16 dX0_differentHallmarks_6 (by rfl) rfl (by decide) lkX0_differentHallmarks_230 rfl hinX0_differentHallmarks (by rfl) ?_
  refine jj_scalliN hC (xm_bitCount _ _ c1 c2 c3 _) gX0_differentHallmarks_J6_bitCount_0f7a4 rfl 1 (by decide +kernel) ⟨by decide, by decide, by decide, by decide⟩ rfl rfl rfl (Nat.le_of_ble_eq_true rfl) dX0_differentHallmarks_9 (fun r u hp => ?_)
  obtain rfl := hp
  exact hret _ _ _ (g1, ts_or (ts_of v c) (ts_ha v) (ts_n v)) dX0_differentHallmarks_12 (by rfl) ((ts_bc_eq _).1)
set_option maxRecDepth 100000 in
set_option maxHeartbeats 4000000 in
theorem xm_wholeSets (l : Launch) (D : va_G) (a : Nat → Nat) (c1 c2 c3 : ClassId) (v : ts_V) (g : Nat → Int32) (h : Int32) (hI : ts_I v) (c : Nat) (hc : c < ts_k v) : jj_M l D (ts_T c1 c2 c3) yX0_wholeSets wsX0_wholeSets rX0_wholeSets [.ref (a 0), .int (nI c)] (wx a c1 c2 v g h) ((Nat → Int32) × Int32) (fun x _ => x = nI (ts_whole v c)) (fun u => wx a c1 c2 v u.1 u.2) := by
  obtain ⟨hn, hk, hth, hwk, hli, hgr⟩ := id hI
  refine jj_met (cc := cX0_wholeSets) (nL := 4) (by decide) rfl (Nat.le_of_ble_eq_true rfl) (fun E Q hC hEl hED hD0 hret => ?_)
  show jj_J E 0 0 Q (wx a c1 c2 v g h) 0 [(0, .ref (a 0)), (1, .int (nI c))] []
  refine jj_aload_n hC dX0_wholeSets_0 rfl ?_
  refine jj_iload_n hC dX0_wholeSets_1 rfl ?_
  refine jj_callv hC (xm_layOutOwn _ _ a c1 c2 c3 v g h hI c (by omega)) gX0_wholeSets_X0_layOutOwn rfl 1 (by decide +kernel) ⟨by decide, by decide, by decide, by decide⟩ 0 0 (by rfl) rfl rfl rfl rfl (Nat.le_of_ble_eq_true rfl) dX0_wholeSets_2 (fun u hp => ?_)
  obtain ⟨g1, hg1⟩ : ∃ g1, g1 = u := ⟨u, rfl⟩
  rw [← hg1] at hp ⊢
  clear hg1
  have hg1 := hp
  refine jj_iconst hC dX0_wholeSets_5 (v := nI 0) (by decide) ?_
  refine jj_istore_n hC dX0_wholeSets_6 (by decide) [1, 2, 0] (lv' := [(0, _), (1, _), (2, .int _)]) rfl ?_
  refine jj_iconst hC dX0_wholeSets_7 (v := nI 0) (by decide) ?_
  refine jj_istore_n hC dX0_wholeSets_8 (by decide) [1, 2, 3, 0] (lv' := [(0, _), (1, _), (2, _), (3, .int _)]) rfl ?_
  refine jj_for (P := fun i => jj_J E 0 0 Q (wx a c1 c2 v g1 (ts_or (ts_of v c) (ts_ha v) (ts_n v))) 9 [(0, .ref (a 0)), (1, .int (nI c)), (2, .int (nI (ts_cnt (fun s => decide (ts_nums v (ts_of v c) s = 6)) i))), (3, .int (nI i))] []) (N := 8) ?_ ?_ 0 (Nat.zero_le _)
  · refine jj_iload_n hC dX0_wholeSets_9 rfl ?_
    refine jj_bipush hC dX0_wholeSets_10 (v := nI 8) (by decide) ?_
    refine jj_icmp_geT hC dX0_wholeSets_12 (tgt := 34) (by decide) (nI_le (Nat.le_refl _) (by omega)) ?_
    refine jj_iload_n hC dX0_wholeSets_34 rfl ?_
    exact hret _ _ _ (g1, ts_or (ts_of v c) (ts_ha v) (ts_n v)) dX0_wholeSets_35 (by rfl) rfl
  · intro i hi ih
    refine jj_iload_n hC dX0_wholeSets_9 rfl ?_
    refine jj_bipush hC dX0_wholeSets_10 (v := nI 8) (by decide) ?_
    refine jj_icmp_geF hC dX0_wholeSets_12 (tgt := 34) (by decide) (nI_ge hi (by omega)) ?_
    refine jj_aload_n hC dX0_wholeSets_15 rfl ?_
    refine jj_iload_n hC dX0_wholeSets_16 rfl ?_
    refine jj_calli hC (xm_numbersLaidOut _ _ a c1 c2 c3 v g1 _ (ts_lay v (ts_of v c)) (ts_lay_le hI _) hg1 i hi) gX0_wholeSets_X0_numbersLaidOut rfl 1 (by decide +kernel) ⟨by decide, by decide, by decide, by decide⟩ 0 0 (by rfl) rfl rfl rfl rfl (Nat.le_of_ble_eq_true rfl) dX0_wholeSets_17 (fun r u hp => ?_)
    obtain rfl := hp
    rw [ts_numG_lay]
    have hn6 : ts_nums v (ts_of v c) i ≤ 6 := ts_cnt_le _ 6
    refine jj_bipush hC dX0_wholeSets_20 (v := nI 6) (by decide) ?_
    first | refine jj_icmp_neN hC dX0_wholeSets_22 (tgt := 28) (by decide) (by omega) (by omega) (fun c22 => ?_) (fun c22 => ?_) | refine jj_icmp_ne hC dX0_wholeSets_22 (tgt := 28) (by decide) (fun c22 => ?_) (fun c22 => ?_)
    · refine jj_iincN hC dX0_wholeSets_28 rfl (d9 := 1) (by decide) (by decide) [1, 2, 3, 0] (lv' := [(0, _), (1, _), (2, _), (3, .int _)]) rfl ?_
      refine jj_goto hC dX0_wholeSets_31 (tgt := 9) (by decide) ?_
      exact jj_lv ih (by simp [ts_cnt, c22])
    · refine jj_iincN hC dX0_wholeSets_25 rfl (d9 := 1) (by decide) (by decide) [1, 2, 0, 3] (lv' := [(0, _), (1, _), (2, .int _), (3, _)]) rfl ?_
      refine jj_iincN hC dX0_wholeSets_28 rfl (d9 := 1) (by decide) (by decide) [1, 2, 3, 0] (lv' := [(0, _), (1, _), (2, _), (3, .int _)]) rfl ?_
      refine jj_goto hC dX0_wholeSets_31 (tgt := 9) (by decide) ?_
      exact jj_lv ih (by simp [ts_cnt, c22])
theorem lkX0_worthOfAll_45 : Cond.fieldLink RX0 45 RX0 (TX0 1).2.1 (TX0 1).2.2.1 ∈ wsX0_worthOfAll := by decide +kernel
theorem hinX0_worthOfAll : ∀ w ∈ wsX00, w ∈ wsX0_worthOfAll := by decide +kernel
set_option maxRecDepth 100000 in
set_option maxHeartbeats 4000000 in
theorem xm_worthOfAll (l : Launch) (D : va_G) (a : Nat → Nat) (c1 c2 c3 : ClassId) (v : ts_V) (g : Nat → Int32) (h : Int32) (hI : ts_I v) : jj_M l D (ts_T c1 c2 c3) yX0_worthOfAll wsX0_worthOfAll rX0_worthOfAll [.ref (a 0)] (wx a c1 c2 v g h) ((Nat → Int32) × Int32) (fun x _ => x = nI (ts_all v)) (fun u => wx a c1 c2 v u.1 u.2) := by
  obtain ⟨hn, hk, hth, hwk, hli, hgr⟩ := id hI
  refine jj_met (cc := cX0_worthOfAll) (nL := 3) (by decide) rfl (Nat.le_of_ble_eq_true rfl) (fun E Q hC hEl hED hD0 hret => ?_)
  show jj_J E 0 0 Q (wx a c1 c2 v g h) 0 [(0, .ref (a 0))] []
  refine jj_iconst hC dX0_worthOfAll_0 (v := nI 0) (by decide) ?_
  refine jj_istore_n hC dX0_worthOfAll_1 (by decide) [1, 0] (lv' := [(0, _), (1, .int _)]) rfl ?_
  refine jj_iconst hC dX0_worthOfAll_2 (v := nI 0) (by decide) ?_
  refine jj_istore_n hC dX0_worthOfAll_3 (by decide) [1, 2, 0] (lv' := [(0, _), (1, _), (2, .int _)]) rfl ?_
  refine jj_for (P := fun i => ∀ (g1 : Nat → Int32) (h1 : Int32), jj_J E 0 0 Q (wx a c1 c2 v g1 h1) 4 [(0, .ref (a 0)), (1, .int (nI (ts_sum (fun c => ts_now v c) i))), (2, .int (nI i))] []) (N := ts_k v) ?_ ?_ 0 (Nat.zero_le _) g h
  · intro g1 h1
    refine jj_iload_n hC dX0_worthOfAll_4 rfl ?_
    refine jj_aload_n hC dX0_worthOfAll_5 rfl ?_
    refine jj_get hC 0 1 dX0_worthOfAll_6 (by rfl) rfl (by decide) lkX0_worthOfAll_45 rfl hinX0_worthOfAll (by rfl) ?_
    refine jj_icmp_geT hC dX0_worthOfAll_9 (tgt := 26) (by decide) (nI_le (Nat.le_refl _) (by omega)) ?_
    refine jj_iload_n hC dX0_worthOfAll_26 rfl ?_
    exact hret _ _ _ (g1, h1) dX0_worthOfAll_27 (by rfl) rfl
  · intro i hi ih g1 h1
    refine jj_iload_n hC dX0_worthOfAll_4 rfl ?_
    refine jj_aload_n hC dX0_worthOfAll_5 rfl ?_
    refine jj_get hC 0 1 dX0_worthOfAll_6 (by rfl) rfl (by decide) lkX0_worthOfAll_45 rfl hinX0_worthOfAll (by rfl) ?_
    refine jj_icmp_geF hC dX0_worthOfAll_9 (tgt := 26) (by decide) (nI_ge hi (by omega)) ?_
    refine jj_iload_n hC dX0_worthOfAll_12 rfl ?_
    refine jj_aload_n hC dX0_worthOfAll_13 rfl ?_
    refine jj_iload_n hC dX0_worthOfAll_14 rfl ?_
    refine jj_calli hC (xm_worthNow _ _ a c1 c2 c3 v g1 h1 hI i hi) gX0_worthOfAll_X0_worthNow rfl 1 (by decide +kernel) ⟨by decide, by decide, by decide, by decide⟩ 0 0 (by rfl) rfl rfl rfl rfl (Nat.le_of_ble_eq_true rfl) dX0_worthOfAll_15 (fun r u hp => ?_)
    obtain rfl := hp
    obtain ⟨g2, h2⟩ := u
    first | refine jj_iaddN hC dX0_worthOfAll_18 ?_ | refine jj_iadd hC dX0_worthOfAll_18 ?_
    refine jj_istore_n hC dX0_worthOfAll_19 (by decide) [1, 0, 2] (lv' := [(0, _), (1, .int _), (2, _)]) rfl ?_
    refine jj_iincN hC dX0_worthOfAll_20 rfl (d9 := 1) (by decide) (by decide) [1, 2, 0] (lv' := [(0, _), (1, _), (2, .int _)]) rfl ?_
    refine jj_goto hC dX0_worthOfAll_23 (tgt := 4) (by decide) ?_
    exact ih g2 h2
theorem lkX0_gainOfOwner_22 : Cond.fieldLink RX0 22 RX0 (TX0 9).2.1 (TX0 9).2.2.1 ∈ wsX0_gainOfOwner := by decide +kernel
theorem hinX0_gainOfOwner : ∀ w ∈ wsX00, w ∈ wsX0_gainOfOwner := by decide +kernel
set_option maxRecDepth 100000 in
set_option maxHeartbeats 4000000 in
theorem xm_gainOfOwner (l : Launch) (D : va_G) (a : Nat → Nat) (c1 c2 c3 : ClassId) (v : ts_V) (g : Nat → Int32) (h : Int32) (hI : ts_I v) (x y : Nat) (hx : x < ts_n v) (hy : y < ts_n v) : jj_M l D (ts_T c1 c2 c3) yX0_gainOfOwner wsX0_gainOfOwner rX0_gainOfOwner [.ref (a 0), .int (nI x), .int (nI y)] (wx a c1 c2 v g h) ((Nat → Int32) × Int32) (fun r _ => r = ts_gain v x y) (fun u => wx a c1 c2 v u.1 u.2) := by
  obtain ⟨hn, hk, hth, hwk, hli, hgr⟩ := id hI
  have hbx := hth x hx
  refine jj_met (cc := cX0_gainOfOwner) (nL := 4) (by decide) rfl (Nat.le_of_ble_eq_true rfl) (fun E Q hC hEl hED hD0 hret => ?_)
  show jj_J E 0 0 Q (wx a c1 c2 v g h) 0 [(0, .ref (a 0)), (1, .int (nI x)), (2, .int (nI y))] []
  refine jj_aload_n hC dX0_gainOfOwner_0 rfl ?_
  refine jj_get hC 0 9 dX0_gainOfOwner_1 (by rfl) rfl (by decide) lkX0_gainOfOwner_22 rfl hinX0_gainOfOwner (by rfl) ?_
  refine jj_iload_n hC dX0_gainOfOwner_4 rfl ?_
  refine jj_iald hC 5 0 dX0_gainOfOwner_5 (wx_g5 ..) rfl (by omega) (by decide) ?_
  refine jj_istore_n hC dX0_gainOfOwner_6 (by decide) [1, 2, 3, 0] (lv' := [(0, _), (1, _), (2, _), (3, .int _)]) rfl ?_
  refine jj_aload_n hC dX0_gainOfOwner_7 rfl ?_
  refine jj_iload_n hC dX0_gainOfOwner_8 rfl ?_
  refine jj_iload_n hC dX0_gainOfOwner_9 rfl ?_
  refine jj_iload_n hC dX0_gainOfOwner_10 rfl ?_
  refine jj_calli hC (xm_worthAfter _ _ a c1 c2 c3 v g h hI (ts_ow v x) hbx.2.2.2.2 x y (by omega) (by omega)) gX0_gainOfOwner_X0_worthAfter rfl 3 (by decide +kernel) ⟨by decide, by decide, by decide, by decide⟩ 0 0 (by rfl) rfl rfl rfl rfl (Nat.le_of_ble_eq_true rfl) dX0_gainOfOwner_11 (fun r u hp => ?_)
  obtain rfl := hp
  obtain ⟨g2, h2⟩ := u
  refine jj_aload_n hC dX0_gainOfOwner_14 rfl ?_
  refine jj_iload_n hC dX0_gainOfOwner_15 rfl ?_
  refine jj_calli hC (xm_worthNow _ _ a c1 c2 c3 v g2 h2 hI (ts_ow v x) hbx.2.2.2.2) gX0_gainOfOwner_X0_worthNow rfl 1 (by decide +kernel) ⟨by decide, by decide, by decide, by decide⟩ 0 0 (by rfl) rfl rfl rfl rfl (Nat.le_of_ble_eq_true rfl) dX0_gainOfOwner_16 (fun r u hp => ?_)
  obtain rfl := hp
  refine jj_isub hC dX0_gainOfOwner_19 ?_
  exact hret _ _ _ u dX0_gainOfOwner_20 (by rfl) rfl
theorem lkX0_isEnough_36 : Cond.fieldLink RX0 36 RX0 (TX0 13).2.1 (TX0 13).2.2.1 ∈ wsX0_isEnough := by decide +kernel
theorem hinX0_isEnough : ∀ w ∈ wsX00, w ∈ wsX0_isEnough := by decide +kernel
set_option maxRecDepth 100000 in
set_option maxHeartbeats 4000000 in
theorem xm_isEnough (l : Launch) (D : va_G) (a : Nat → Nat) (c1 c2 c3 : ClassId) (v : ts_V) (g : Nat → Int32) (h : Int32) (x : Int32) (c o : Nat) (hc : c < 7) (ho : o < 7) : jj_M l D (ts_T c1 c2 c3) yX0_isEnough wsX0_isEnough rX0_isEnough [.ref (a 0), .int x, .int (nI c), .int (nI o)] (wx a c1 c2 v g h) Unit (fun r _ => r = ts_b (ts_en v x c o)) (fun _ => wx a c1 c2 v g h) := by
  refine jj_met (cc := cX0_isEnough) (nL := 4) (by decide) rfl (Nat.le_of_ble_eq_true rfl) (fun E Q hC hEl hED hD0 hret => ?_)
  show jj_J E 0 0 Q (wx a c1 c2 v g h) 0 [(0, .ref (a 0)), (1, .int x), (2, .int (nI c)), (3, .int (nI o))] []
  refine jj_iload_n hC dX0_isEnough_0 rfl ?_
  refine jj_iconst hC dX0_isEnough_1 (v := nI 2) (by decide) ?_
  refine jj_aload_n hC dX0_isEnough_2 rfl ?_
  refine jj_get hC 0 13 dX0_isEnough_3 (by rfl) rfl (by decide) lkX0_isEnough_36 rfl hinX0_isEnough (by rfl) ?_
  refine jj_iload_n hC dX0_isEnough_6 rfl ?_
  refine jj_aald hC 9 1 dX0_isEnough_7 (wx_g9 ..) rfl rfl (by omega) (by decide) (if_pos (by omega)) ?_
  refine jj_iload_n hC dX0_isEnough_8 rfl ?_
  refine jj_iald hC _ 0 dX0_isEnough_9 (wx_ggr _ _ _ _ _ _ _ (by omega)) rfl (by omega) (by decide) ?_
  first | refine jj_imulN hC dX0_isEnough_10 ?_ | refine jj_imul hC dX0_isEnough_10 ?_
  refine jj_icmp_le hC dX0_isEnough_11 (tgt := 18) (by decide) (fun c11 => ?_) (fun c11 => ?_)
  · refine jj_iconst hC dX0_isEnough_18 (v := nI 0) (by decide) ?_
    exact hret _ _ _ () dX0_isEnough_19 (by rfl) (by
      have e : (nI (2 * ts_gr v c o) < x) ↔ ¬ x ≤ nI (2 * ts_gr v c o) := by rw [Int32.lt_iff_toInt_lt, Int32.le_iff_toInt_le]; omega
      simp only [ts_b, ts_en, e, c11, not_true_eq_false, not_false_eq_true, decide_true, decide_false, Bool.false_eq_true, if_true, if_false]
      try rfl)
  · refine jj_iconst hC dX0_isEnough_14 (v := nI 1) (by decide) ?_
    refine jj_goto hC dX0_isEnough_15 (tgt := 19) (by decide) ?_
    exact hret _ _ _ () dX0_isEnough_19 (by rfl) (by
      have e : (nI (2 * ts_gr v c o) < x) ↔ ¬ x ≤ nI (2 * ts_gr v c o) := by rw [Int32.lt_iff_toInt_lt, Int32.le_iff_toInt_le]; omega
      simp only [ts_b, ts_en, e, c11, not_true_eq_false, not_false_eq_true, decide_true, decide_false, Bool.false_eq_true, if_true, if_false]
      try rfl)
def ts_one (x : Int32) : Nat := if 0 < x then 1 else 0
set_option maxRecDepth 100000 in
set_option maxHeartbeats 4000000 in
theorem xm_oneIfAbove0 (l : Launch) (D : va_G) (c1 c2 c3 : ClassId) (x : Int32) : jj_M l D (ts_T c1 c2 c3) yX0_oneIfAbove0 wsX0_oneIfAbove0 rX0_oneIfAbove0 [.int x] ([]) Unit (fun r _ => r = nI (ts_one x)) (fun _ => []) := by
  refine jj_met (cc := cX0_oneIfAbove0) (nL := 1) (by decide) rfl (Nat.le_of_ble_eq_true rfl) (fun E Q hC hEl hED hD0 hret => ?_)
  show jj_J E 0 0 Q ([]) 0 [(0, .int x)] []
  refine jj_iload_n hC dX0_oneIfAbove0_0 rfl ?_
  refine jj_if_le hC dX0_oneIfAbove0_1 (tgt := 8) (by decide) (fun c1 => ?_) (fun c1 => ?_)
  · refine jj_iconst hC dX0_oneIfAbove0_8 (v := nI 0) (by decide) ?_
    exact hret _ _ _ () dX0_oneIfAbove0_9 (by rfl) (by
      have e : (0 < x) ↔ ¬ x ≤ 0 := by rw [Int32.lt_iff_toInt_lt, Int32.le_iff_toInt_le]; omega
      simp only [ts_one, e, c1, not_true_eq_false, not_false_eq_true, if_true, if_false])
  · refine jj_iconst hC dX0_oneIfAbove0_4 (v := nI 1) (by decide) ?_
    refine jj_goto hC dX0_oneIfAbove0_5 (tgt := 9) (by decide) ?_
    exact hret _ _ _ () dX0_oneIfAbove0_9 (by rfl) (by
      have e : (0 < x) ↔ ¬ x ≤ 0 := by rw [Int32.lt_iff_toInt_lt, Int32.le_iff_toInt_le]; omega
      simp only [ts_one, e, c1, not_true_eq_false, not_false_eq_true, if_true, if_false])
