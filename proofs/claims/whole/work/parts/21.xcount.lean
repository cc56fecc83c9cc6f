theorem lkX0_thimblesOf_75 : Cond.fieldLink RX0 75 RX0 (TX0 2).2.1 (TX0 2).2.2.1 ∈ wsX0_thimblesOf := by decide +kernel
theorem lkX0_thimblesOf_22 : Cond.fieldLink RX0 22 RX0 (TX0 9).2.1 (TX0 9).2.2.1 ∈ wsX0_thimblesOf := by decide +kernel
theorem hinX0_thimblesOf : ∀ w ∈ wsX00, w ∈ wsX0_thimblesOf := by decide +kernel
set_option maxRecDepth 100000 in
set_option maxHeartbeats 4000000 in
theorem xm_thimblesOf (l : Launch) (D : va_G) (a : Nat → Nat) (c1 c2 c3 : ClassId) (v : ts_V) (g : Nat → Int32) (h : Int32) (hI : ts_I v) (c : Nat) (hc : c < 36) : jj_M l D (ts_T c1 c2 c3) yX0_thimblesOf wsX0_thimblesOf rX0_thimblesOf [.ref (a 0), .int (nI c)] (wx a c1 c2 v g h) Unit (fun x _ => x = nI (ts_cnt (ts_of v c) (ts_n v))) (fun _ => wx a c1 c2 v g h) := by
  obtain ⟨hn, hk, hth, hwk, hli, hgr⟩ := id hI
  refine jj_met (cc := cX0_thimblesOf) (nL := 4) (by decide) rfl (Nat.le_of_ble_eq_true rfl) (fun E Q hC hEl hED hD0 hret => ?_)
  show jj_J E 0 0 Q (wx a c1 c2 v g h) 0 [(0, .ref (a 0)), (1, .int (nI c))] []
  refine jj_iconst hC dX0_thimblesOf_0 (v := nI 0) (by decide) ?_
  refine jj_istore_n hC dX0_thimblesOf_1 (by decide) [1, 2, 0] (lv' := [(0, _), (1, _), (2, .int _)]) rfl ?_
  refine jj_iconst hC dX0_thimblesOf_2 (v := nI 0) (by decide) ?_
  refine jj_istore_n hC dX0_thimblesOf_3 (by decide) [1, 2, 3, 0] (lv' := [(0, _), (1, _), (2, _), (3, .int _)]) rfl ?_
  refine jj_for (P := fun i => jj_J E 0 0 Q (wx a c1 c2 v g h) 4 [(0, .ref (a 0)), (1, .int (nI c)), (2, .int (nI (ts_cnt (ts_of v c) i))), (3, .int (nI i))] []) (N := ts_n v) ?_ ?_ 0 (Nat.zero_le _)
  · refine jj_iload_n hC dX0_thimblesOf_4 rfl ?_
    refine jj_aload_n hC dX0_thimblesOf_5 rfl ?_
    refine jj_get hC 0 2 dX0_thimblesOf_6 (by rfl) rfl (by decide) lkX0_thimblesOf_75 rfl hinX0_thimblesOf (by rfl) ?_
    refine jj_icmp_geT hC dX0_thimblesOf_9 (tgt := 31) (by decide) (nI_le (Nat.le_refl _) (by omega)) ?_
    refine jj_iload_n hC dX0_thimblesOf_31 rfl ?_
    exact hret _ _ _ () dX0_thimblesOf_32 (by rfl) rfl
  · intro i hi ih
    have hb := hth i hi
    refine jj_iload_n hC dX0_thimblesOf_4 rfl ?_
    refine jj_aload_n hC dX0_thimblesOf_5 rfl ?_
    refine jj_get hC 0 2 dX0_thimblesOf_6 (by rfl) rfl (by decide) lkX0_thimblesOf_75 rfl hinX0_thimblesOf (by rfl) ?_
    refine jj_icmp_geF hC dX0_thimblesOf_9 (tgt := 31) (by decide) (nI_ge hi (by omega)) ?_
    refine jj_aload_n hC dX0_thimblesOf_12 rfl ?_
    refine jj_get hC 0 9 dX0_thimblesOf_13 (by rfl) rfl (by decide) lkX0_thimblesOf_22 rfl hinX0_thimblesOf (by rfl) ?_
    refine jj_iload_n hC dX0_thimblesOf_16 rfl ?_
    refine jj_iald hC 5 0 dX0_thimblesOf_17 (wx_g5 ..) rfl (by omega) (by decide) ?_
    refine jj_iload_n hC dX0_thimblesOf_18 rfl ?_
    first | refine jj_icmp_neN hC dX0_thimblesOf_19 (tgt := 25) (by decide) (by omega) (by omega) (fun c19 => ?_) (fun c19 => ?_) | refine jj_icmp_ne hC dX0_thimblesOf_19 (tgt := 25) (by decide) (fun c19 => ?_) (fun c19 => ?_)
    · refine jj_iincN hC dX0_thimblesOf_25 rfl (d9 := 1) (by decide) (by decide) [1, 2, 3, 0] (lv' := [(0, _), (1, _), (2, _), (3, .int _)]) rfl ?_
      refine jj_goto hC dX0_thimblesOf_28 (tgt := 4) (by decide) ?_
      exact jj_lv ih (by simp [ts_cnt, ts_of, c19])
    · refine jj_iincN hC dX0_thimblesOf_22 rfl (d9 := 1) (by decide) (by decide) [1, 2, 0, 3] (lv' := [(0, _), (1, _), (2, .int _), (3, _)]) rfl ?_
      refine jj_iincN hC dX0_thimblesOf_25 rfl (d9 := 1) (by decide) (by decide) [1, 2, 3, 0] (lv' := [(0, _), (1, _), (2, _), (3, .int _)]) rfl ?_
      refine jj_goto hC dX0_thimblesOf_28 (tgt := 4) (by decide) ?_
      exact jj_lv ih (by simp [ts_cnt, ts_of, c19])
theorem lkX0_thimblesLentBy_75 : Cond.fieldLink RX0 75 RX0 (TX0 2).2.1 (TX0 2).2.2.1 ∈ wsX0_thimblesLentBy := by decide +kernel
theorem lkX0_thimblesLentBy_22 : Cond.fieldLink RX0 22 RX0 (TX0 9).2.1 (TX0 9).2.2.1 ∈ wsX0_thimblesLentBy := by decide +kernel
theorem hinX0_thimblesLentBy : ∀ w ∈ wsX00, w ∈ wsX0_thimblesLentBy := by decide +kernel
set_option maxRecDepth 100000 in
set_option maxHeartbeats 4000000 in
theorem xm_thimblesLentBy (l : Launch) (D : va_G) (a : Nat → Nat) (c1 c2 c3 : ClassId) (v : ts_V) (g : Nat → Int32) (h : Int32) (hI : ts_I v) (c : Nat) (hc : c < 36) : jj_M l D (ts_T c1 c2 c3) yX0_thimblesLentBy wsX0_thimblesLentBy rX0_thimblesLentBy [.ref (a 0), .int (nI c)] (wx a c1 c2 v g h) Unit (fun x _ => x = nI (ts_cnt (fun t => ts_of v c t && ts_lt v t) (ts_n v))) (fun _ => wx a c1 c2 v g h) := by
  obtain ⟨hn, hk, hth, hwk, hli, hgr⟩ := id hI
  refine jj_met (cc := cX0_thimblesLentBy) (nL := 4) (by decide) rfl (Nat.le_of_ble_eq_true rfl) (fun E Q hC hEl hED hD0 hret => ?_)
  show jj_J E 0 0 Q (wx a c1 c2 v g h) 0 [(0, .ref (a 0)), (1, .int (nI c))] []
  refine jj_iconst hC dX0_thimblesLentBy_0 (v := nI 0) (by decide) ?_
  refine jj_istore_n hC dX0_thimblesLentBy_1 (by decide) [1, 2, 0] (lv' := [(0, _), (1, _), (2, .int _)]) rfl ?_
  refine jj_iconst hC dX0_thimblesLentBy_2 (v := nI 0) (by decide) ?_
  refine jj_istore_n hC dX0_thimblesLentBy_3 (by decide) [1, 2, 3, 0] (lv' := [(0, _), (1, _), (2, _), (3, .int _)]) rfl ?_
  refine jj_for (P := fun i => jj_J E 0 0 Q (wx a c1 c2 v g h) 4 [(0, .ref (a 0)), (1, .int (nI c)), (2, .int (nI (ts_cnt (fun t => ts_of v c t && ts_lt v t) i))), (3, .int (nI i))] []) (N := ts_n v) ?_ ?_ 0 (Nat.zero_le _)
  · refine jj_iload_n hC dX0_thimblesLentBy_4 rfl ?_
    refine jj_aload_n hC dX0_thimblesLentBy_5 rfl ?_
    refine jj_get hC 0 2 dX0_thimblesLentBy_6 (by rfl) rfl (by decide) lkX0_thimblesLentBy_75 rfl hinX0_thimblesLentBy (by rfl) ?_
    refine jj_icmp_geT hC dX0_thimblesLentBy_9 (tgt := 39) (by decide) (nI_le (Nat.le_refl _) (by omega)) ?_
    refine jj_iload_n hC dX0_thimblesLentBy_39 rfl ?_
    exact hret _ _ _ () dX0_thimblesLentBy_40 (by rfl) rfl
  · intro i hi ih
    have hb := hth i hi
    refine jj_iload_n hC dX0_thimblesLentBy_4 rfl ?_
    refine jj_aload_n hC dX0_thimblesLentBy_5 rfl ?_
    refine jj_get hC 0 2 dX0_thimblesLentBy_6 (by rfl) rfl (by decide) lkX0_thimblesLentBy_75 rfl hinX0_thimblesLentBy (by rfl) ?_
    refine jj_icmp_geF hC dX0_thimblesLentBy_9 (tgt := 39) (by decide) (nI_ge hi (by omega)) ?_
    refine jj_aload_n hC dX0_thimblesLentBy_12 rfl ?_
    refine jj_get hC 0 9 dX0_thimblesLentBy_13 (by rfl) rfl (by decide) lkX0_thimblesLentBy_22 rfl hinX0_thimblesLentBy (by rfl) ?_
    refine jj_iload_n hC dX0_thimblesLentBy_16 rfl ?_
    refine jj_iald hC 5 0 dX0_thimblesLentBy_17 (wx_g5 ..) rfl (by omega) (by decide) ?_
    refine jj_iload_n hC dX0_thimblesLentBy_18 rfl ?_
    first | refine jj_icmp_neN hC dX0_thimblesLentBy_19 (tgt := 33) (by decide) (by omega) (by omega) (fun c19 => ?_) (fun c19 => ?_) | refine jj_icmp_ne hC dX0_thimblesLentBy_19 (tgt := 33) (by decide) (fun c19 => ?_) (fun c19 => ?_)
    · refine jj_iincN hC dX0_thimblesLentBy_33 rfl (d9 := 1) (by decide) (by decide) [1, 2, 3, 0] (lv' := [(0, _), (1, _), (2, _), (3, .int _)]) rfl ?_
      refine jj_goto hC dX0_thimblesLentBy_36 (tgt := 4) (by decide) ?_
      exact jj_lv ih (by simp [ts_cnt, ts_of, c19])
    · refine jj_aload_n hC dX0_thimblesLentBy_22 rfl ?_
      refine jj_iload_n hC dX0_thimblesLentBy_23 rfl ?_
      refine jj_calli hC (xm_isLent _ _ a c1 c2 c3 v g h i (by omega)) gX0_thimblesLentBy_X0_isLent rfl 1 (by decide +kernel) ⟨by decide, by decide, by decide, by decide⟩ 0 0 (by rfl) rfl rfl rfl rfl (Nat.le_of_ble_eq_true rfl) dX0_thimblesLentBy_24 (fun r u hp => ?_)
      obtain rfl := hp
      refine jj_if_eqB hC dX0_thimblesLentBy_27 (tgt := 33) (by decide) (fun c27 => ?_) (fun c27 => ?_)
      · refine jj_iincN hC dX0_thimblesLentBy_33 rfl (d9 := 1) (by decide) (by decide) [1, 2, 3, 0] (lv' := [(0, _), (1, _), (2, _), (3, .int _)]) rfl ?_
        refine jj_goto hC dX0_thimblesLentBy_36 (tgt := 4) (by decide) ?_
        exact jj_lv ih (by simp [ts_cnt, ts_of, c19, c27])
      · refine jj_iincN hC dX0_thimblesLentBy_30 rfl (d9 := 1) (by decide) (by decide) [1, 2, 0, 3] (lv' := [(0, _), (1, _), (2, .int _), (3, _)]) rfl ?_
        refine jj_iincN hC dX0_thimblesLentBy_33 rfl (d9 := 1) (by decide) (by decide) [1, 2, 3, 0] (lv' := [(0, _), (1, _), (2, _), (3, .int _)]) rfl ?_
        refine jj_goto hC dX0_thimblesLentBy_36 (tgt := 4) (by decide) ?_
        exact jj_lv ih (by simp [ts_cnt, ts_of, c19, c27])
theorem lkX0_thimblesLent_75 : Cond.fieldLink RX0 75 RX0 (TX0 2).2.1 (TX0 2).2.2.1 ∈ wsX0_thimblesLent := by decide +kernel
theorem hinX0_thimblesLent : ∀ w ∈ wsX00, w ∈ wsX0_thimblesLent := by decide +kernel
set_option maxRecDepth 100000 in
set_option maxHeartbeats 4000000 in
theorem xm_thimblesLent (l : Launch) (D : va_G) (a : Nat → Nat) (c1 c2 c3 : ClassId) (v : ts_V) (g : Nat → Int32) (h : Int32) (hI : ts_I v)  : jj_M l D (ts_T c1 c2 c3) yX0_thimblesLent wsX0_thimblesLent rX0_thimblesLent [.ref (a 0)] (wx a c1 c2 v g h) Unit (fun x _ => x = nI (ts_cnt (ts_lt v) (ts_n v))) (fun _ => wx a c1 c2 v g h) := by
  obtain ⟨hn, hk, hth, hwk, hli, hgr⟩ := id hI
  refine jj_met (cc := cX0_thimblesLent) (nL := 3) (by decide) rfl (Nat.le_of_ble_eq_true rfl) (fun E Q hC hEl hED hD0 hret => ?_)
  show jj_J E 0 0 Q (wx a c1 c2 v g h) 0 [(0, .ref (a 0))] []
  refine jj_iconst hC dX0_thimblesLent_0 (v := nI 0) (by decide) ?_
  refine jj_istore_n hC dX0_thimblesLent_1 (by decide) [1, 0] (lv' := [(0, _), (1, .int _)]) rfl ?_
  refine jj_iconst hC dX0_thimblesLent_2 (v := nI 0) (by decide) ?_
  refine jj_istore_n hC dX0_thimblesLent_3 (by decide) [1, 2, 0] (lv' := [(0, _), (1, _), (2, .int _)]) rfl ?_
  refine jj_for (P := fun i => jj_J E 0 0 Q (wx a c1 c2 v g h) 4 [(0, .ref (a 0)), (1, .int (nI (ts_cnt (ts_lt v) i))), (2, .int (nI i))] []) (N := ts_n v) ?_ ?_ 0 (Nat.zero_le _)
  · refine jj_iload_n hC dX0_thimblesLent_4 rfl ?_
    refine jj_aload_n hC dX0_thimblesLent_5 rfl ?_
    refine jj_get hC 0 2 dX0_thimblesLent_6 (by rfl) rfl (by decide) lkX0_thimblesLent_75 rfl hinX0_thimblesLent (by rfl) ?_
    refine jj_icmp_geT hC dX0_thimblesLent_9 (tgt := 29) (by decide) (nI_le (Nat.le_refl _) (by omega)) ?_
    refine jj_iload_n hC dX0_thimblesLent_29 rfl ?_
    exact hret _ _ _ () dX0_thimblesLent_30 (by rfl) rfl
  · intro i hi ih
    have hb := hth i hi
    refine jj_iload_n hC dX0_thimblesLent_4 rfl ?_
    refine jj_aload_n hC dX0_thimblesLent_5 rfl ?_
    refine jj_get hC 0 2 dX0_thimblesLent_6 (by rfl) rfl (by decide) lkX0_thimblesLent_75 rfl hinX0_thimblesLent (by rfl) ?_
    refine jj_icmp_geF hC dX0_thimblesLent_9 (tgt := 29) (by decide) (nI_ge hi (by omega)) ?_
    refine jj_aload_n hC dX0_thimblesLent_12 rfl ?_
    refine jj_iload_n hC dX0_thimblesLent_13 rfl ?_
    refine jj_calli hC (xm_isLent _ _ a c1 c2 c3 v g h i (by omega)) gX0_thimblesLent_X0_isLent rfl 1 (by decide +kernel) ⟨by decide, by decide, by decide, by decide⟩ 0 0 (by rfl) rfl rfl rfl rfl (Nat.le_of_ble_eq_true rfl) dX0_thimblesLent_14 (fun r u hp => ?_)
    obtain rfl := hp
    refine jj_if_eqB hC dX0_thimblesLent_17 (tgt := 23) (by decide) (fun c17 => ?_) (fun c17 => ?_)
    · refine jj_iincN hC dX0_thimblesLent_23 rfl (d9 := 1) (by decide) (by decide) [1, 2, 0] (lv' := [(0, _), (1, _), (2, .int _)]) rfl ?_
      refine jj_goto hC dX0_thimblesLent_26 (tgt := 4) (by decide) ?_
      exact jj_lv ih (by simp [ts_cnt, c17])
    · refine jj_iincN hC dX0_thimblesLent_20 rfl (d9 := 1) (by decide) (by decide) [1, 0, 2] (lv' := [(0, _), (1, .int _), (2, _)]) rfl ?_
      refine jj_iincN hC dX0_thimblesLent_23 rfl (d9 := 1) (by decide) (by decide) [1, 2, 0] (lv' := [(0, _), (1, _), (2, .int _)]) rfl ?_
      refine jj_goto hC dX0_thimblesLent_26 (tgt := 4) (by decide) ?_
      exact jj_lv ih (by simp [ts_cnt, c17])
