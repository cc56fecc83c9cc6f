/-! ===== the reference ===== -/
theorem ts_m1_max0' {x : Nat} (hx : x < 2 ^ 30) : (if nI 0 < ts_m1 x then ts_m1 x else nI 0) = nI (x - 1) := by
  cases x with
  | zero => decide
  | succ x => rw [ts_m1_s, jj_mmax_eq (by omega) (by omega), show max 0 x = x + 1 - 1 by omega]
theorem ts_in_isIn {x : Int32} {N : Nat} (hN : N < 2 ^ 30) : decide (nI 0 ≤ x ∧ x ≤ nI N - nI 1) = ts_in x N := by
  have e1 : (nI N - nI 1).toInt = (N : Int) - 1 := pk_sub_toInt hN (by decide)
  have e0 : (nI 0).toInt = 0 := by decide
  have e : (nI 0 ≤ x ∧ x ≤ nI N - nI 1) ↔ (0 ≤ x.toInt ∧ x.toInt < N) := by
    rw [Int32.le_iff_toInt_le, Int32.le_iff_toInt_le, e0, e1]
    omega
  unfold ts_in
  exact decide_eq_decide.mpr e
theorem ts_nbl (q : Bool) : narrow .boolean (.int (ts_b q)) = .int (ts_b q) := by cases q <;> rfl
theorem ts_isIn_lo {x lo hi : Int32} (h : x < lo) : nI 0 = ts_b (decide (lo ≤ x ∧ x ≤ hi)) := by
  rw [decide_eq_false (fun q => by have := q.1; rw [Int32.le_iff_toInt_le] at this; rw [Int32.lt_iff_toInt_lt] at h; omega)]
  rfl
theorem ts_isIn_hi {x lo hi : Int32} (h : hi < x) : nI 0 = ts_b (decide (lo ≤ x ∧ x ≤ hi)) := by
  rw [decide_eq_false (fun q => by have := q.2; rw [Int32.le_iff_toInt_le] at this; rw [Int32.lt_iff_toInt_lt] at h; omega)]
  rfl
theorem ts_isIn_yes {x lo hi : Int32} (h : ¬ x < lo) (h2 : ¬ hi < x) : nI 1 = ts_b (decide (lo ≤ x ∧ x ≤ hi)) := by
  rw [Int32.lt_iff_toInt_lt] at h h2
  rw [decide_eq_true ⟨by rw [Int32.le_iff_toInt_le]; omega, by rw [Int32.le_iff_toInt_le]; omega⟩]
  rfl
theorem ts_flat7 (F : Nat → Nat → Nat) (c o x : Nat) (ho : o < 7) : (fun i => nI (ts_up2 F c o x (i / 7) (i % 7))) = upd (fun i => nI (F (i / 7) (i % 7))) (7 * c + o) (nI x) := by
  funext i
  unfold upd ts_up2
  by_cases h : i = 7 * c + o
  · rw [if_pos h, if_pos (by omega)]
  · rw [if_neg h, if_neg (by omega)]
theorem ts_flat8 (F : Nat → Nat → Nat) (c o x : Nat) (ho : o < 8) : (fun i => nI (ts_up2 F c o x (i / 8) (i % 8))) = upd (fun i => nI (F (i / 8) (i % 8))) (8 * c + o) (nI x) := by
  funext i
  unfold upd ts_up2
  by_cases h : i = 8 * c + o
  · rw [if_pos h, if_pos (by omega)]
  · rw [if_neg h, if_neg (by omega)]
theorem ts_flatC {v v' : ts_V} {t w : Nat} {x : Int32} (hw : w < 7) (h : ∀ w' t', w' < 7 → ts_col v' w' t' = if w' = w ∧ t' = t then x else ts_col v w' t') : (fun i => ts_col v' (i % 7) (i / 7)) = upd (fun i => ts_col v (i % 7) (i / 7)) (7 * t + w) x := by
  funext i
  unfold upd
  rw [h _ _ (Nat.mod_lt _ (by decide))]
  by_cases e : i = 7 * t + w
  · rw [if_pos e, if_pos (by omega)]
  · rw [if_neg e, if_neg (by omega)]
theorem ts_7 {P : Nat → Prop} (h0 : P 0) (h1 : P 1) (h2 : P 2) (h3 : P 3) (h4 : P 4) (h5 : P 5) (h6 : P 6) : ∀ w, w < 7 → P w := by
  intro w hw
  rcases (show w = 0 ∨ w = 1 ∨ w = 2 ∨ w = 3 ∨ w = 4 ∨ w = 5 ∨ w = 6 by omega) with rfl | rfl | rfl | rfl | rfl | rfl | rfl
  all_goals assumption
theorem ts_cow (v : ts_V) (t x : Nat) : ∀ w' t', w' < 7 → ts_col (ts_ow' v (va_up (ts_ow v) t x)) w' t' = if w' = 4 ∧ t' = t then nI x else ts_col v w' t' := by
  intro w' t' hw
  revert w'
  refine ts_7 ?_ ?_ ?_ ?_ ?_ ?_ ?_
  all_goals
    by_cases e : t' = t
    · simp [ts_col, ts_ow', va_up, e, ts_se, ts_nu, ts_ha, ts_st, ts_ow, ts_ti, ts_wk]
    · simp [ts_col, ts_ow', va_up, e, ts_se, ts_nu, ts_ha, ts_st, ts_ow, ts_ti, ts_wk]
theorem ts_cst (v : ts_V) (t x : Nat) : ∀ w' t', w' < 7 → ts_col (ts_st' v (va_up (ts_st v) t x)) w' t' = if w' = 3 ∧ t' = t then nI x else ts_col v w' t' := by
  intro w' t' hw
  revert w'
  refine ts_7 ?_ ?_ ?_ ?_ ?_ ?_ ?_
  all_goals
    by_cases e : t' = t
    · simp [ts_col, ts_st', va_up, e, ts_se, ts_nu, ts_ha, ts_st, ts_ow, ts_ti, ts_wk]
    · simp [ts_col, ts_st', va_up, e, ts_se, ts_nu, ts_ha, ts_st, ts_ow, ts_ti, ts_wk]
theorem ts_cti (v : ts_V) (t : Nat) (x : Int32) : ∀ w' t', w' < 7 → ts_col (ts_ti' v (va_up (ts_ti v) t x)) w' t' = if w' = 5 ∧ t' = t then x else ts_col v w' t' := by
  intro w' t' hw
  revert w'
  refine ts_7 ?_ ?_ ?_ ?_ ?_ ?_ ?_
  all_goals
    by_cases e : t' = t
    · simp [ts_col, ts_ti', va_up, e, ts_se, ts_nu, ts_ha, ts_st, ts_ow, ts_ti, ts_wk]
    · simp [ts_col, ts_ti', va_up, e, ts_se, ts_nu, ts_ha, ts_st, ts_ow, ts_ti, ts_wk]
theorem ts_cwk (v : ts_V) (t : Nat) (x : Int32) : ∀ w' t', w' < 7 → ts_col (ts_wk' v (va_up (ts_wk v) t x)) w' t' = if w' = 6 ∧ t' = t then x else ts_col v w' t' := by
  intro w' t' hw
  revert w'
  refine ts_7 ?_ ?_ ?_ ?_ ?_ ?_ ?_
  all_goals
    by_cases e : t' = t
    · simp [ts_col, ts_wk', va_up, e, ts_se, ts_nu, ts_ha, ts_st, ts_ow, ts_ti, ts_wk]
    · simp [ts_col, ts_wk', va_up, e, ts_se, ts_nu, ts_ha, ts_st, ts_ow, ts_ti, ts_wk]
theorem lkX1_thrown_28 : Cond.fieldLink RX1 28 RX1 (TX1 0).2.1 (TX1 0).2.2.1 ∈ wsX1_thrown := by decide +kernel
theorem hinX1_thrown : ∀ w ∈ wsX10, w ∈ wsX1_thrown := by decide +kernel
set_option maxRecDepth 100000 in
set_option maxHeartbeats 4000000 in
theorem mm_thrown (l : Launch) (D : va_G) (b : Nat → Nat) (c1 c2 c3 : ClassId) (v : ts_V) (th : Int32) (z : Nat → Int32)  : jj_M l D (ts_T c1 c2 c3) yX1_thrown wsX1_thrown rX1_thrown [.ref (b 0)] (wm b c1 v th z) Unit (fun x _ => x = th) (fun _ => wm b c1 v th z) := by
  refine jj_met (cc := cX1_thrown) (nL := 1) (by decide) rfl (Nat.le_of_ble_eq_true rfl) (fun E Q hC hEl hED hD0 hret => ?_)
  show jj_J E 0 0 Q (wm b c1 v th z) 0 [(0, .ref (b 0))] []
  refine jj_aload_n hC dX1_thrown_0 rfl ?_
  refine jj_get hC 0 0 dX1_thrown_1 (by rfl) rfl (by decide) lkX1_thrown_28 rfl hinX1_thrown (by rfl) ?_
  exact hret _ _ _ () dX1_thrown_4 (by rfl) (rfl)
theorem lkX1_fail_28 : Cond.fieldLink RX1 28 RX1 (TX1 0).2.1 (TX1 0).2.2.1 ∈ wsX1_fail := by decide +kernel
theorem hinX1_fail : ∀ w ∈ wsX10, w ∈ wsX1_fail := by decide +kernel
set_option maxRecDepth 100000 in
set_option maxHeartbeats 4000000 in
theorem mm_fail (l : Launch) (D : va_G) (b : Nat → Nat) (c1 c2 c3 : ClassId) (v : ts_V) (th : Int32) (z : Nat → Int32) (x : Int32) : jj_M l D (ts_T c1 c2 c3) yX1_fail wsX1_fail rX1_fail [.ref (b 0), .int x] (wm b c1 v th z) Unit (fun r _ => r = nI 0) (fun _ => wm b c1 v x z) := by
  refine jj_met (cc := cX1_fail) (nL := 2) (by decide) rfl (Nat.le_of_ble_eq_true rfl) (fun E Q hC hEl hED hD0 hret => ?_)
  show jj_J E 0 0 Q (wm b c1 v th z) 0 [(0, .ref (b 0)), (1, .int x)] []
  refine jj_aload_n hC dX1_fail_0 rfl ?_
  refine jj_iload_n hC dX1_fail_1 rfl ?_
  refine jj_put hC 0 0 dX1_fail_2 (by rfl) rfl (by decide) lkX1_fail_28 rfl hinX1_fail tyX1_ok nmX1 rfl rfl rfl rfl (Nat.le_of_ble_eq_true rfl) (wm_p0 ..) ?_
  refine jj_iconst hC dX1_fail_5 (v := nI 0) (by decide) ?_
  exact hret _ _ _ () dX1_fail_6 (by rfl) (rfl)
set_option maxRecDepth 100000 in
set_option maxHeartbeats 4000000 in
theorem mm_isIn (l : Launch) (D : va_G) (c1 c2 c3 : ClassId) (x lo hi : Int32) : jj_M l D (ts_T c1 c2 c3) yX1_isIn wsX1_isIn rX1_isIn [.int x, .int lo, .int hi] ([]) Unit (fun r _ => r = ts_b (decide (lo ≤ x ∧ x ≤ hi))) (fun _ => []) := by
  refine jj_met (cc := cX1_isIn) (nL := 3) (by decide) rfl (Nat.le_of_ble_eq_true rfl) (fun E Q hC hEl hED hD0 hret => ?_)
  show jj_J E 0 0 Q ([]) 0 [(0, .int x), (1, .int lo), (2, .int hi)] []
  refine jj_iload_n hC dX1_isIn_0 rfl ?_
  refine jj_iload_n hC dX1_isIn_1 rfl ?_
  refine jj_icmp_lt hC dX1_isIn_2 (tgt := 14) (by decide) (fun cc2 => ?_) (fun cc2 => ?_)
  · refine jj_iconst hC dX1_isIn_14 (v := nI 0) (by decide) ?_
    exact hret _ _ _ () dX1_isIn_15 (by rfl) (by first | exact ts_isIn_lo cc2 | exact ts_isIn_hi c7 | exact ts_isIn_yes cc2 c7)
  · refine jj_iload_n hC dX1_isIn_5 rfl ?_
    refine jj_iload_n hC dX1_isIn_6 rfl ?_
    refine jj_icmp_gt hC dX1_isIn_7 (tgt := 14) (by decide) (fun c7 => ?_) (fun c7 => ?_)
    · refine jj_iconst hC dX1_isIn_14 (v := nI 0) (by decide) ?_
      exact hret _ _ _ () dX1_isIn_15 (by rfl) (by first | exact ts_isIn_lo cc2 | exact ts_isIn_hi c7 | exact ts_isIn_yes cc2 c7)
    · refine jj_iconst hC dX1_isIn_10 (v := nI 1) (by decide) ?_
      refine jj_goto hC dX1_isIn_11 (tgt := 15) (by decide) ?_
      exact hret _ _ _ () dX1_isIn_15 (by rfl) (by first | exact ts_isIn_lo cc2 | exact ts_isIn_hi c7 | exact ts_isIn_yes cc2 c7)
theorem lkX1_isCollector_32 : Cond.fieldLink RX1 32 RX1 (TX1 1).2.1 (TX1 1).2.2.1 ∈ wsX1_isCollector := by decide +kernel
theorem hinX1_isCollector : ∀ w ∈ wsX10, w ∈ wsX1_isCollector := by decide +kernel
set_option maxRecDepth 100000 in
set_option maxHeartbeats 4000000 in
theorem mm_isCollector (l : Launch) (D : va_G) (b : Nat → Nat) (c1 c2 c3 : ClassId) (v : ts_V) (th : Int32) (z : Nat → Int32) (hI : ts_I v) (x : Int32) : jj_M l D (ts_T c1 c2 c3) yX1_isCollector wsX1_isCollector rX1_isCollector [.ref (b 0), .int x] (wm b c1 v th z) Unit (fun r _ => r = ts_b (ts_in x (ts_k v))) (fun _ => wm b c1 v th z) := by
  obtain ⟨hn, hk, hth, hwk, hli, hgr⟩ := id hI
  refine jj_met (cc := cX1_isCollector) (nL := 2) (by decide) rfl (Nat.le_of_ble_eq_true rfl) (fun E Q hC hEl hED hD0 hret => ?_)
  show jj_J E 0 0 Q (wm b c1 v th z) 0 [(0, .ref (b 0)), (1, .int x)] []
  refine jj_iload_n hC dX1_isCollector_0 rfl ?_
  refine jj_iconst hC dX1_isCollector_1 (v := nI 0) (by decide) ?_
  refine jj_aload_n hC dX1_isCollector_2 rfl ?_
  refine jj_get hC 0 1 dX1_isCollector_3 (by rfl) rfl (by decide) lkX1_isCollector_32 rfl hinX1_isCollector (by rfl) ?_
  refine jj_iconst hC dX1_isCollector_6 (v := nI 1) (by decide) ?_
  refine jj_isub hC dX1_isCollector_7 ?_
  refine jj_scalliN hC (mm_isIn _ _ c1 c2 c3 x (nI 0) (nI (ts_k v) - nI 1)) gX1_isCollector_X1_isIn rfl 3 (by decide +kernel) ⟨by decide, by decide, by decide, by decide⟩ rfl rfl rfl (Nat.le_of_ble_eq_true rfl) dX1_isCollector_8 (fun r u hp => ?_)
  obtain rfl := hp
  exact hret _ _ _ () dX1_isCollector_11 (ts_nbl _) (by rw [ts_in_isIn (by omega)])
theorem lkX1_isThimble_39 : Cond.fieldLink RX1 39 RX1 (TX1 2).2.1 (TX1 2).2.2.1 ∈ wsX1_isThimble := by decide +kernel
theorem hinX1_isThimble : ∀ w ∈ wsX10, w ∈ wsX1_isThimble := by decide +kernel
set_option maxRecDepth 100000 in
set_option maxHeartbeats 4000000 in
theorem mm_isThimble (l : Launch) (D : va_G) (b : Nat → Nat) (c1 c2 c3 : ClassId) (v : ts_V) (th : Int32) (z : Nat → Int32) (hI : ts_I v) (x : Int32) : jj_M l D (ts_T c1 c2 c3) yX1_isThimble wsX1_isThimble rX1_isThimble [.ref (b 0), .int x] (wm b c1 v th z) Unit (fun r _ => r = ts_b (ts_in x (ts_n v))) (fun _ => wm b c1 v th z) := by
  obtain ⟨hn, hk, hth, hwk, hli, hgr⟩ := id hI
  refine jj_met (cc := cX1_isThimble) (nL := 2) (by decide) rfl (Nat.le_of_ble_eq_true rfl) (fun E Q hC hEl hED hD0 hret => ?_)
  show jj_J E 0 0 Q (wm b c1 v th z) 0 [(0, .ref (b 0)), (1, .int x)] []
  refine jj_iload_n hC dX1_isThimble_0 rfl ?_
  refine jj_iconst hC dX1_isThimble_1 (v := nI 0) (by decide) ?_
  refine jj_aload_n hC dX1_isThimble_2 rfl ?_
  refine jj_get hC 0 2 dX1_isThimble_3 (by rfl) rfl (by decide) lkX1_isThimble_39 rfl hinX1_isThimble (by rfl) ?_
  refine jj_iconst hC dX1_isThimble_6 (v := nI 1) (by decide) ?_
  refine jj_isub hC dX1_isThimble_7 ?_
  refine jj_scalliN hC (mm_isIn _ _ c1 c2 c3 x (nI 0) (nI (ts_n v) - nI 1)) gX1_isThimble_X1_isIn rfl 3 (by decide +kernel) ⟨by decide, by decide, by decide, by decide⟩ rfl rfl rfl (Nat.le_of_ble_eq_true rfl) dX1_isThimble_8 (fun r u hp => ?_)
  obtain rfl := hp
  exact hret _ _ _ () dX1_isThimble_11 (ts_nbl _) (by rw [ts_in_isIn (by omega)])
set_option maxRecDepth 100000 in
set_option maxHeartbeats 4000000 in
theorem mm_isSet (l : Launch) (D : va_G) (c1 c2 c3 : ClassId) (x : Int32) : jj_M l D (ts_T c1 c2 c3) yX1_isSet wsX1_isSet rX1_isSet [.int x] ([]) Unit (fun r _ => r = ts_b (ts_in x 8)) (fun _ => []) := by
  refine jj_met (cc := cX1_isSet) (nL := 1) (by decide) rfl (Nat.le_of_ble_eq_true rfl) (fun E Q hC hEl hED hD0 hret => ?_)
  show jj_J E 0 0 Q ([]) 0 [(0, .int x)] []
  refine jj_iload_n hC dX1_isSet_0 rfl ?_
  refine jj_iconst hC dX1_isSet_1 (v := nI 0) (by decide) ?_
  refine jj_bipush hC dX1_isSet_2 (v := nI 7) (by decide) ?_
  refine jj_scalliN hC (mm_isIn _ _ c1 c2 c3 x (nI 0) (nI 7)) gX1_isSet_X1_isIn rfl 3 (by decide +kernel) ⟨by decide, by decide, by decide, by decide⟩ rfl rfl rfl (Nat.le_of_ble_eq_true rfl) dX1_isSet_4 (fun r u hp => ?_)
  obtain rfl := hp
  exact hret _ _ _ () dX1_isSet_7 (ts_nbl _) (by rw [← ts_in_isIn (N := 8) (by decide)]; rfl)
theorem lkX1_th_9 : Cond.fieldLink RX1 9 RX1 (TX1 3).2.1 (TX1 3).2.2.1 ∈ wsX1_th := by decide +kernel
theorem hinX1_th : ∀ w ∈ wsX10, w ∈ wsX1_th := by decide +kernel
set_option maxRecDepth 100000 in
set_option maxHeartbeats 4000000 in
theorem mm_th (l : Launch) (D : va_G) (b : Nat → Nat) (c1 c2 c3 : ClassId) (v : ts_V) (th : Int32) (z : Nat → Int32) (t w : Nat) (ht : t < 36) (hw : w < 7) : jj_M l D (ts_T c1 c2 c3) yX1_th wsX1_th rX1_th [.ref (b 0), .int (nI t), .int (nI w)] (wm b c1 v th z) Unit (fun r _ => r = ts_col v w t) (fun _ => wm b c1 v th z) := by
  refine jj_met (cc := cX1_th) (nL := 3) (by decide) rfl (Nat.le_of_ble_eq_true rfl) (fun E Q hC hEl hED hD0 hret => ?_)
  show jj_J E 0 0 Q (wm b c1 v th z) 0 [(0, .ref (b 0)), (1, .int (nI t)), (2, .int (nI w))] []
  refine jj_aload_n hC dX1_th_0 rfl ?_
  refine jj_get hC 0 3 dX1_th_1 (by rfl) rfl (by decide) lkX1_th_9 rfl hinX1_th (by rfl) ?_
  refine jj_bipush hC dX1_th_4 (v := nI 7) (by decide) ?_
  refine jj_iload_n hC dX1_th_6 rfl ?_
  first | refine jj_imulN hC dX1_th_7 ?_ | refine jj_imul hC dX1_th_7 ?_
  refine jj_iload_n hC dX1_th_8 rfl ?_
  first | refine jj_iaddN hC dX1_th_9 ?_ | refine jj_iadd hC dX1_th_9 ?_
  refine jj_iald hC 1 0 dX1_th_10 (wm_g1 ..) rfl (by omega) (by decide) ?_
  exact hret _ _ _ () dX1_th_11 (by rfl) (by rw [show (7 * t + w) % 7 = w by omega, show (7 * t + w) / 7 = t by omega])
theorem mm_th0 (l : Launch) (D : va_G) (b : Nat → Nat) (c1 c2 c3 : ClassId) (v : ts_V) (th : Int32) (z : Nat → Int32) (t : Nat) (ht : t < 36) : jj_M l D (ts_T c1 c2 c3) yX1_th wsX1_th rX1_th [.ref (b 0), .int (nI t), .int (nI 0)] (wm b c1 v th z) Unit (fun r _ => r = nI (ts_se v t)) (fun _ => wm b c1 v th z) := mm_th l D b c1 c2 c3 v th z t 0 ht (by decide)
theorem mm_th1 (l : Launch) (D : va_G) (b : Nat → Nat) (c1 c2 c3 : ClassId) (v : ts_V) (th : Int32) (z : Nat → Int32) (t : Nat) (ht : t < 36) : jj_M l D (ts_T c1 c2 c3) yX1_th wsX1_th rX1_th [.ref (b 0), .int (nI t), .int (nI 1)] (wm b c1 v th z) Unit (fun r _ => r = nI (ts_nu v t)) (fun _ => wm b c1 v th z) := mm_th l D b c1 c2 c3 v th z t 1 ht (by decide)
theorem mm_th2 (l : Launch) (D : va_G) (b : Nat → Nat) (c1 c2 c3 : ClassId) (v : ts_V) (th : Int32) (z : Nat → Int32) (t : Nat) (ht : t < 36) : jj_M l D (ts_T c1 c2 c3) yX1_th wsX1_th rX1_th [.ref (b 0), .int (nI t), .int (nI 2)] (wm b c1 v th z) Unit (fun r _ => r = nI (ts_ha v t)) (fun _ => wm b c1 v th z) := mm_th l D b c1 c2 c3 v th z t 2 ht (by decide)
theorem mm_th3 (l : Launch) (D : va_G) (b : Nat → Nat) (c1 c2 c3 : ClassId) (v : ts_V) (th : Int32) (z : Nat → Int32) (t : Nat) (ht : t < 36) : jj_M l D (ts_T c1 c2 c3) yX1_th wsX1_th rX1_th [.ref (b 0), .int (nI t), .int (nI 3)] (wm b c1 v th z) Unit (fun r _ => r = nI (ts_st v t)) (fun _ => wm b c1 v th z) := mm_th l D b c1 c2 c3 v th z t 3 ht (by decide)
theorem mm_th4 (l : Launch) (D : va_G) (b : Nat → Nat) (c1 c2 c3 : ClassId) (v : ts_V) (th : Int32) (z : Nat → Int32) (t : Nat) (ht : t < 36) : jj_M l D (ts_T c1 c2 c3) yX1_th wsX1_th rX1_th [.ref (b 0), .int (nI t), .int (nI 4)] (wm b c1 v th z) Unit (fun r _ => r = nI (ts_ow v t)) (fun _ => wm b c1 v th z) := mm_th l D b c1 c2 c3 v th z t 4 ht (by decide)
theorem mm_th5 (l : Launch) (D : va_G) (b : Nat → Nat) (c1 c2 c3 : ClassId) (v : ts_V) (th : Int32) (z : Nat → Int32) (t : Nat) (ht : t < 36) : jj_M l D (ts_T c1 c2 c3) yX1_th wsX1_th rX1_th [.ref (b 0), .int (nI t), .int (nI 5)] (wm b c1 v th z) Unit (fun r _ => r = ts_ti v t) (fun _ => wm b c1 v th z) := mm_th l D b c1 c2 c3 v th z t 5 ht (by decide)
theorem mm_th6 (l : Launch) (D : va_G) (b : Nat → Nat) (c1 c2 c3 : ClassId) (v : ts_V) (th : Int32) (z : Nat → Int32) (t : Nat) (ht : t < 36) : jj_M l D (ts_T c1 c2 c3) yX1_th wsX1_th rX1_th [.ref (b 0), .int (nI t), .int (nI 6)] (wm b c1 v th z) Unit (fun r _ => r = ts_wk v t) (fun _ => wm b c1 v th z) := mm_th l D b c1 c2 c3 v th z t 6 ht (by decide)
theorem lkX1_set_9 : Cond.fieldLink RX1 9 RX1 (TX1 3).2.1 (TX1 3).2.2.1 ∈ wsX1_set := by decide +kernel
theorem hinX1_set : ∀ w ∈ wsX10, w ∈ wsX1_set := by decide +kernel
set_option maxRecDepth 100000 in
set_option maxHeartbeats 4000000 in
theorem mm_set (l : Launch) (D : va_G) (b : Nat → Nat) (c1 c2 c3 : ClassId) (v : ts_V) (th : Int32) (z : Nat → Int32) (t w : Nat) (ht : t < 36) (hw : w < 7) (x : Int32) (v2 : ts_V) (e1 : v2.1 = v.1) (e2 : v2.2.2 = v.2.2) (hc : ∀ w' t', w' < 7 → ts_col v2 w' t' = if w' = w ∧ t' = t then x else ts_col v w' t') : jj_Mv l D (ts_T c1 c2 c3) yX1_set wsX1_set rX1_set [.ref (b 0), .int (nI t), .int (nI w), .int x] (wm b c1 v th z) Unit (fun _ => True) (fun _ => wm b c1 v2 th z) := by
  refine jj_metv (cc := cX1_set) (nL := 4) (by decide) rfl (Nat.le_of_ble_eq_true rfl) (fun E Q hC hEl hED hD0 hnm hret => ?_)
  show jj_J E 0 0 Q (wm b c1 v th z) 0 [(0, .ref (b 0)), (1, .int (nI t)), (2, .int (nI w)), (3, .int x)] []
  refine jj_aload_n hC dX1_set_0 rfl ?_
  refine jj_get hC 0 3 dX1_set_1 (by rfl) rfl (by decide) lkX1_set_9 rfl hinX1_set (by rfl) ?_
  refine jj_bipush hC dX1_set_4 (v := nI 7) (by decide) ?_
  refine jj_iload_n hC dX1_set_6 rfl ?_
  first | refine jj_imulN hC dX1_set_7 ?_ | refine jj_imul hC dX1_set_7 ?_
  refine jj_iload_n hC dX1_set_8 rfl ?_
  first | refine jj_iaddN hC dX1_set_9 ?_ | refine jj_iadd hC dX1_set_9 ?_
  refine jj_iload_n hC dX1_set_10 rfl ?_
  refine jj_iast hC 1 0 dX1_set_11 (wm_g1 ..) rfl (by omega) (by decide) (wm_s1 b c1 v th z v2 _ e1 e2 (ts_flatC hw hc)) ?_
  exact hret _ _ () dX1_set_12 trivial
set_option maxRecDepth 100000 in
set_option maxHeartbeats 4000000 in
theorem mm_isLent (l : Launch) (D : va_G) (b : Nat → Nat) (c1 c2 c3 : ClassId) (v : ts_V) (th : Int32) (z : Nat → Int32) (t : Nat) (ht : t < 36) : jj_M l D (ts_T c1 c2 c3) yX1_isLent wsX1_isLent rX1_isLent [.ref (b 0), .int (nI t)] (wm b c1 v th z) Unit (fun r _ => r = ts_b (ts_lt v t)) (fun _ => wm b c1 v th z) := by
  refine jj_met (cc := cX1_isLent) (nL := 2) (by decide) rfl (Nat.le_of_ble_eq_true rfl) (fun E Q hC hEl hED hD0 hret => ?_)
  show jj_J E 0 0 Q (wm b c1 v th z) 0 [(0, .ref (b 0)), (1, .int (nI t))] []
  refine jj_aload_n hC dX1_isLent_0 rfl ?_
  refine jj_iload_n hC dX1_isLent_1 rfl ?_
  refine jj_iconst hC dX1_isLent_2 (v := nI 5) (by decide) ?_
  refine jj_calli hC (mm_th5 _ _ b c1 c2 c3 v th z t ht) gX1_isLent_X1_th rfl 2 (by decide +kernel) ⟨by decide, by decide, by decide, by decide⟩ 0 1 (by rfl) rfl rfl rfl rfl (Nat.le_of_ble_eq_true rfl) dX1_isLent_3 (fun r u hp => ?_)
  obtain rfl := hp
  refine jj_iconst hC dX1_isLent_6 (v := -1) (by decide) ?_
  refine jj_icmp_eq hC dX1_isLent_7 (tgt := 14) (by decide) (fun c7 => ?_) (fun c7 => ?_)
  · refine jj_iconst hC dX1_isLent_14 (v := nI 0) (by decide) ?_
    exact hret _ _ _ () dX1_isLent_15 (by rfl) (by simp [ts_b, ts_lt, c7]; try rfl)
  · refine jj_iconst hC dX1_isLent_10 (v := nI 1) (by decide) ?_
    refine jj_goto hC dX1_isLent_11 (tgt := 15) (by decide) ?_
    exact hret _ _ _ () dX1_isLent_15 (by rfl) (by simp [ts_b, ts_lt, c7]; try rfl)
