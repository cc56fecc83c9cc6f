theorem ts_wdn {g : Nat} (h : g ≤ 9) : (if nI 0 < (if nI g + (-1) < nI 9 then nI g + (-1) else nI 9) then (if nI g + (-1) < nI 9 then nI g + (-1) else nI 9) else nI 0) = nI (g - 1) := (by decide : ∀ g : Fin 10, (if nI 0 < (if nI g.val + (-1) < nI 9 then nI g.val + (-1) else nI 9) then (if nI g.val + (-1) < nI 9 then nI g.val + (-1) else nI 9) else nI 0) = nI (g.val - 1)) ⟨g, by omega⟩
theorem ts_wup {g : Nat} (h : g ≤ 9) : (if nI 0 < (if nI g + nI 1 < nI 9 then nI g + nI 1 else nI 9) then (if nI g + nI 1 < nI 9 then nI g + nI 1 else nI 9) else nI 0) = nI (min (g + 1) 9) := (by decide : ∀ g : Fin 10, (if nI 0 < (if nI g.val + nI 1 < nI 9 then nI g.val + nI 1 else nI 9) then (if nI g.val + nI 1 < nI 9 then nI g.val + nI 1 else nI 9) else nI 0) = nI (min (g.val + 1) 9)) ⟨g, by omega⟩
theorem ts_exch_now {v : ts_V} {x y : Nat} (h : ¬ ts_ow v x = ts_ow v y) : ts_now (ts_exch v x y) (ts_ow v x) = ts_aft v (ts_ow v x) x y := by
  show ts_wo v (ts_of (ts_exch v x y) (ts_ow v x)) (ts_li v (ts_ow v x)) = ts_wo v (ts_af v (ts_ow v x) x y) (ts_li v (ts_ow v x))
  refine ts_wo_congr (fun t _ => ?_)
  show (va_up (va_up (ts_ow v) x (ts_ow v y)) y (ts_ow v x) t == ts_ow v x) = (t == y || (t != x && ts_ow v t == ts_ow v x))
  unfold va_up
  by_cases h1 : t = y
  · simp [h1]
  · have e1 : (t == y) = false := beq_false_of_ne h1
    by_cases h2 : t = x
    · have h3 : (ts_ow v y == ts_ow v x) = false := beq_false_of_ne (fun q => h q.symm)
      have h4 : ¬ x = y := fun q => h (by rw [q])
      have e4 : (x == y) = false := beq_false_of_ne h4
      have e5 : (x != x) = false := by simp
      subst h2
      rw [if_neg h4, if_pos rfl, h3, e4, e5]
      rfl
    · have e2 : (t != x) = true := by simp [h2]
      rw [if_neg h1, if_neg h2, e1, e2]
      rfl
theorem ts_exch_2 {v : ts_V} {x y : Nat} (h : ¬ ts_ow v x = ts_ow v y) : ts_exch (ts_exch v x y) x y = v := by
  have h4 : ¬ x = y := fun q => h (by rw [q])
  have e : va_up (va_up (va_up (va_up (ts_ow v) x (ts_ow v y)) y (ts_ow v x)) x (va_up (va_up (ts_ow v) x (ts_ow v y)) y (ts_ow v x) y)) y (va_up (va_up (ts_ow v) x (ts_ow v y)) y (ts_ow v x) x) = ts_ow v := by
    funext t
    unfold va_up
    by_cases h1 : t = y
    · simp [h1, h4]
    · by_cases h2 : t = x
      · simp [h2, h4]
      · simp [h1, h2]
  show ts_ow' v (va_up (va_up (va_up (va_up (ts_ow v) x (ts_ow v y)) y (ts_ow v x)) x (va_up (va_up (ts_ow v) x (ts_ow v y)) y (ts_ow v x) y)) y (va_up (va_up (ts_ow v) x (ts_ow v y)) y (ts_ow v x) x)) = v
  rw [e]
set_option maxRecDepth 100000 in
set_option maxHeartbeats 4000000 in
theorem mm_exchange (l : Launch) (D : va_G) (b : Nat → Nat) (c1 c2 c3 : ClassId) (v : ts_V) (th : Int32) (z : Nat → Int32) (x y : Nat) (hx : x < 36) (hy : y < 36) : jj_Mv l D (ts_T c1 c2 c3) yX1_exchange wsX1_exchange rX1_exchange [.ref (b 0), .int (nI x), .int (nI y)] (wm b c1 v th z) Unit (fun _ => True) (fun _ => wm b c1 (ts_exch v x y) th z) := by
  refine jj_metv (cc := cX1_exchange) (nL := 4) (by decide) rfl (Nat.le_of_ble_eq_true rfl) (fun E Q hC hEl hED hD0 hnm hret => ?_)
  show jj_J E 0 0 Q (wm b c1 v th z) 0 [(0, .ref (b 0)), (1, .int (nI x)), (2, .int (nI y))] []
  refine jj_aload_n hC dX1_exchange_0 rfl ?_
  refine jj_iload_n hC dX1_exchange_1 rfl ?_
  refine jj_iconst hC dX1_exchange_2 (v := nI 4) (by decide) ?_
  refine jj_calli hC (mm_th4 _ _ b c1 c2 c3 v th z x hx) gX1_exchange_X1_th rfl 2 (by decide +kernel) ⟨by decide, by decide, by decide, by decide⟩ 0 1 (by rfl) rfl rfl rfl rfl (Nat.le_of_ble_eq_true rfl) dX1_exchange_3 (fun r u hp => ?_)
  obtain rfl := hp
  refine jj_istore_n hC dX1_exchange_6 (by decide) [1, 2, 3, 0] (lv' := [(0, _), (1, _), (2, _), (3, .int _)]) rfl ?_
  refine jj_aload_n hC dX1_exchange_7 rfl ?_
  refine jj_iload_n hC dX1_exchange_8 rfl ?_
  refine jj_iconst hC dX1_exchange_9 (v := nI 4) (by decide) ?_
  refine jj_aload_n hC dX1_exchange_10 rfl ?_
  refine jj_iload_n hC dX1_exchange_11 rfl ?_
  refine jj_iconst hC dX1_exchange_12 (v := nI 4) (by decide) ?_
  refine jj_calli hC (mm_th4 _ _ b c1 c2 c3 v th z y hy) gX1_exchange_X1_th rfl 2 (by decide +kernel) ⟨by decide, by decide, by decide, by decide⟩ 0 1 (by rfl) rfl rfl rfl rfl (Nat.le_of_ble_eq_true rfl) dX1_exchange_13 (fun r u hp => ?_)
  obtain rfl := hp
  refine jj_callv hC (mm_set _ _ b c1 c2 c3 v th z x 4 hx (by decide) (nI (ts_ow v y)) (ts_ow' v (va_up (ts_ow v) x (ts_ow v y))) rfl rfl (ts_cow v x _)) gX1_exchange_X1_set rfl 3 (by decide +kernel) ⟨by decide, by decide, by decide, by decide⟩ 0 1 (by rfl) rfl rfl rfl rfl (Nat.le_of_ble_eq_true rfl) dX1_exchange_16 (fun u hp => ?_)
  refine jj_aload_n hC dX1_exchange_19 rfl ?_
  refine jj_iload_n hC dX1_exchange_20 rfl ?_
  refine jj_iconst hC dX1_exchange_21 (v := nI 4) (by decide) ?_
  refine jj_iload_n hC dX1_exchange_22 rfl ?_
  refine jj_callv hC (mm_set _ _ b c1 c2 c3 (ts_ow' v (va_up (ts_ow v) x (ts_ow v y))) th z y 4 hy (by decide) (nI (ts_ow v x)) (ts_exch v x y) rfl rfl (ts_cow (ts_ow' v (va_up (ts_ow v) x (ts_ow v y))) y _)) gX1_exchange_X1_set rfl 3 (by decide +kernel) ⟨by decide, by decide, by decide, by decide⟩ 0 1 (by rfl) rfl rfl rfl rfl (Nat.le_of_ble_eq_true rfl) dX1_exchange_23 (fun u hp => ?_)
  exact hret _ _ () dX1_exchange_26 trivial
set_option maxRecDepth 100000 in
set_option maxHeartbeats 4000000 in
theorem mm_gain (l : Launch) (D : va_G) (b : Nat → Nat) (c1 c2 c3 : ClassId) (v : ts_V) (th : Int32) (z : Nat → Int32) (hI : ts_I v) (x y : Nat) (hx : x < ts_n v) (hy : y < ts_n v) (hne : ¬ ts_ow v x = ts_ow v y) : jj_M l D (ts_T c1 c2 c3) yX1_gain wsX1_gain rX1_gain [.ref (b 0), .int (nI x), .int (nI y)] (wm b c1 v th z) (Nat → Int32) (fun r _ => r = ts_gain v x y) (fun u => wm b c1 v th u) := by
  obtain ⟨hn, hk, hth, hwk, hli, hgr⟩ := id hI
  have hbx := hth x hx
  have hby := hth y hy
  refine jj_met (cc := cX1_gain) (nL := 6) (by decide) rfl (Nat.le_of_ble_eq_true rfl) (fun E Q hC hEl hED hD0 hret => ?_)
  show jj_J E 0 0 Q (wm b c1 v th z) 0 [(0, .ref (b 0)), (1, .int (nI x)), (2, .int (nI y))] []
  refine jj_aload_n hC dX1_gain_0 rfl ?_
  refine jj_iload_n hC dX1_gain_1 rfl ?_
  refine jj_iconst hC dX1_gain_2 (v := nI 4) (by decide) ?_
  refine jj_calli hC (mm_th4 _ _ b c1 c2 c3 v th z x (by omega)) gX1_gain_X1_th rfl 2 (by decide +kernel) ⟨by decide, by decide, by decide, by decide⟩ 0 1 (by rfl) rfl rfl rfl rfl (Nat.le_of_ble_eq_true rfl) dX1_gain_3 (fun r u hp => ?_)
  obtain rfl := hp
  refine jj_istore_n hC dX1_gain_6 (by decide) [1, 2, 3, 0] (lv' := [(0, _), (1, _), (2, _), (3, .int _)]) rfl ?_
  refine jj_aload_n hC dX1_gain_7 rfl ?_
  refine jj_iload_n hC dX1_gain_8 rfl ?_
  refine jj_calli hC (mm_worth _ _ b c1 c2 c3 v th z hI (ts_ow v x) (by omega)) gX1_gain_X1_worth rfl 1 (by decide +kernel) ⟨by decide, by decide, by decide, by decide⟩ 0 1 (by rfl) rfl rfl rfl rfl (Nat.le_of_ble_eq_true rfl) dX1_gain_9 (fun r u hp => ?_)
  obtain rfl := hp
  revert u
  intro z1
  refine jj_istore hC dX1_gain_12 (by decide) [1, 2, 3, 4, 0] (lv' := [(0, _), (1, _), (2, _), (3, _), (4, .int _)]) rfl ?_
  refine jj_aload_n hC dX1_gain_14 rfl ?_
  refine jj_iload_n hC dX1_gain_15 rfl ?_
  refine jj_iload_n hC dX1_gain_16 rfl ?_
  refine jj_callv hC (mm_exchange _ _ b c1 c2 c3 v th z1 x y (by omega) (by omega)) gX1_gain_X1_exchange rfl 2 (by decide +kernel) ⟨by decide, by decide, by decide, by decide⟩ 0 1 (by rfl) rfl rfl rfl rfl (Nat.le_of_ble_eq_true rfl) dX1_gain_17 (fun u hp => ?_)
  refine jj_aload_n hC dX1_gain_20 rfl ?_
  refine jj_iload_n hC dX1_gain_21 rfl ?_
  refine jj_calli hC (mm_worth _ _ b c1 c2 c3 (ts_exch v x y) th z1 (ts_I_exch hI x y hx hy) (ts_ow v x) hbx.2.2.2.2) gX1_gain_X1_worth rfl 1 (by decide +kernel) ⟨by decide, by decide, by decide, by decide⟩ 0 1 (by rfl) rfl rfl rfl rfl (Nat.le_of_ble_eq_true rfl) dX1_gain_22 (fun r u hp => ?_)
  obtain rfl := hp
  revert u
  intro z2
  rw [ts_exch_now hne]
  refine jj_iload hC dX1_gain_25 rfl ?_
  refine jj_isub hC dX1_gain_27 ?_
  refine jj_istore hC dX1_gain_28 (by decide) [1, 2, 3, 4, 5, 0] (lv' := [(0, _), (1, _), (2, _), (3, _), (4, _), (5, .int _)]) rfl ?_
  refine jj_aload_n hC dX1_gain_30 rfl ?_
  refine jj_iload_n hC dX1_gain_31 rfl ?_
  refine jj_iload_n hC dX1_gain_32 rfl ?_
  refine jj_callv hC (mm_exchange _ _ b c1 c2 c3 (ts_exch v x y) th z2 x y (by omega) (by omega)) gX1_gain_X1_exchange rfl 2 (by decide +kernel) ⟨by decide, by decide, by decide, by decide⟩ 0 1 (by rfl) rfl rfl rfl rfl (Nat.le_of_ble_eq_true rfl) dX1_gain_33 (fun u hp => ?_)
  refine jj_ws (ws' := wm b c1 v th z2) (by rw [ts_exch_2 hne]) ?_
  refine jj_iload hC dX1_gain_36 rfl ?_
  exact hret _ _ _ z2 dX1_gain_38 (by rfl) (rfl)
theorem lkX1_isEnough_16 : Cond.fieldLink RX1 16 RX1 (TX1 5).2.1 (TX1 5).2.2.1 ∈ wsX1_isEnough := by decide +kernel
theorem hinX1_isEnough : ∀ w ∈ wsX10, w ∈ wsX1_isEnough := by decide +kernel
set_option maxRecDepth 100000 in
set_option maxHeartbeats 4000000 in
theorem mm_isEnough (l : Launch) (D : va_G) (b : Nat → Nat) (c1 c2 c3 : ClassId) (v : ts_V) (th : Int32) (z : Nat → Int32) (hI : ts_I v) (x y : Nat) (hx : x < ts_n v) (hy : y < ts_n v) (hne : ¬ ts_ow v x = ts_ow v y) : jj_M l D (ts_T c1 c2 c3) yX1_isEnough wsX1_isEnough rX1_isEnough [.ref (b 0), .int (nI x), .int (nI y)] (wm b c1 v th z) (Nat → Int32) (fun r _ => r = ts_b (ts_en v (ts_gain v x y) (ts_ow v x) (ts_ow v y))) (fun u => wm b c1 v th u) := by
  obtain ⟨hn, hk, hth, hwk, hli, hgr⟩ := id hI
  have hbx := hth x hx
  have hby := hth y hy
  refine jj_met (cc := cX1_isEnough) (nL := 3) (by decide) rfl (Nat.le_of_ble_eq_true rfl) (fun E Q hC hEl hED hD0 hret => ?_)
  show jj_J E 0 0 Q (wm b c1 v th z) 0 [(0, .ref (b 0)), (1, .int (nI x)), (2, .int (nI y))] []
  refine jj_aload_n hC dX1_isEnough_0 rfl ?_
  refine jj_iload_n hC dX1_isEnough_1 rfl ?_
  refine jj_iload_n hC dX1_isEnough_2 rfl ?_
  refine jj_calli hC (mm_gain _ _ b c1 c2 c3 v th z hI x y hx hy hne) gX1_isEnough_X1_gain rfl 2 (by decide +kernel) ⟨by decide, by decide, by decide, by decide⟩ 0 1 (by rfl) rfl rfl rfl rfl (Nat.le_of_ble_eq_true rfl) dX1_isEnough_3 (fun r u hp => ?_)
  obtain rfl := hp
  revert u
  intro z1
  refine jj_iconst hC dX1_isEnough_6 (v := nI 2) (by decide) ?_
  refine jj_aload_n hC dX1_isEnough_7 rfl ?_
  refine jj_get hC 0 5 dX1_isEnough_8 (by rfl) rfl (by decide) lkX1_isEnough_16 rfl hinX1_isEnough (by rfl) ?_
  refine jj_bipush hC dX1_isEnough_11 (v := nI 7) (by decide) ?_
  refine jj_aload_n hC dX1_isEnough_13 rfl ?_
  refine jj_iload_n hC dX1_isEnough_14 rfl ?_
  refine jj_iconst hC dX1_isEnough_15 (v := nI 4) (by decide) ?_
  refine jj_calli hC (mm_th4 _ _ b c1 c2 c3 v th z1 x (by omega)) gX1_isEnough_X1_th rfl 2 (by decide +kernel) ⟨by decide, by decide, by decide, by decide⟩ 0 1 (by rfl) rfl rfl rfl rfl (Nat.le_of_ble_eq_true rfl) dX1_isEnough_16 (fun r u hp => ?_)
  obtain rfl := hp
  first | refine jj_imulN hC dX1_isEnough_19 ?_ | refine jj_imul hC dX1_isEnough_19 ?_
  refine jj_aload_n hC dX1_isEnough_20 rfl ?_
  refine jj_iload_n hC dX1_isEnough_21 rfl ?_
  refine jj_iconst hC dX1_isEnough_22 (v := nI 4) (by decide) ?_
  refine jj_calli hC (mm_th4 _ _ b c1 c2 c3 v th z1 y (by omega)) gX1_isEnough_X1_th rfl 2 (by decide +kernel) ⟨by decide, by decide, by decide, by decide⟩ 0 1 (by rfl) rfl rfl rfl rfl (Nat.le_of_ble_eq_true rfl) dX1_isEnough_23 (fun r u hp => ?_)
  obtain rfl := hp
  first | refine jj_iaddN hC dX1_isEnough_26 ?_ | refine jj_iadd hC dX1_isEnough_26 ?_
  refine jj_iald hC 3 0 dX1_isEnough_27 (wm_g3 ..) rfl (by omega) (by decide) ?_
  rw [show (7 * ts_ow v x + ts_ow v y) / 7 = ts_ow v x by omega, show (7 * ts_ow v x + ts_ow v y) % 7 = ts_ow v y by omega]
  first | refine jj_imulN hC dX1_isEnough_28 ?_ | refine jj_imul hC dX1_isEnough_28 ?_
  refine jj_icmp_le hC dX1_isEnough_29 (tgt := 36) (by decide) (fun c29t => ?_) (fun c29f => ?_)
  · refine jj_iconst hC dX1_isEnough_36 (v := nI 0) (by decide) ?_
    exact hret _ _ _ z1 dX1_isEnough_37 (by rfl) (by unfold ts_en; rw [decide_eq_false (ts_i32_nlt c29t)]; rfl)
  · refine jj_iconst hC dX1_isEnough_32 (v := nI 1) (by decide) ?_
    refine jj_goto hC dX1_isEnough_33 (tgt := 37) (by decide) ?_
    exact hret _ _ _ z1 dX1_isEnough_37 (by rfl) (by unfold ts_en; rw [decide_eq_true (ts_i32_nle c29f)]; rfl)
theorem lkX1_weigh_16 : Cond.fieldLink RX1 16 RX1 (TX1 5).2.1 (TX1 5).2.2.1 ∈ wsX1_weigh := by decide +kernel
theorem mkX1_weigh_106 : Cond.methodLink RX1 106 Lib.Math.min.name ∈ wsX1_weigh := by decide +kernel
theorem msX1_weigh_min : Cond.static Lib.Math.min.name ∈ wsX1_weigh := by decide +kernel
theorem miX1_weigh : Cond.initialized "java/lang/Math" ∈ wsX1_weigh := by decide +kernel
theorem mcX1_weigh_min : Cond.code Lib.Math.min.name Lib.Math.min.code 2 (some .int) ∈ wsX1_weigh := by decide +kernel
theorem mkX1_weigh_63 : Cond.methodLink RX1 63 Lib.Math.max.name ∈ wsX1_weigh := by decide +kernel
theorem msX1_weigh_max : Cond.static Lib.Math.max.name ∈ wsX1_weigh := by decide +kernel
theorem mcX1_weigh_max : Cond.code Lib.Math.max.name Lib.Math.max.code 2 (some .int) ∈ wsX1_weigh := by decide +kernel
theorem hinX1_weigh : ∀ w ∈ wsX10, w ∈ wsX1_weigh := by decide +kernel
set_option maxRecDepth 100000 in
set_option maxHeartbeats 4000000 in
theorem mmD_weigh (l : Launch) (D : va_G) (b : Nat → Nat) (c1 c2 c3 : ClassId) (v : ts_V) (th : Int32) (z : Nat → Int32) (hI : ts_I v) (c o : Nat) (hc : c < 7) (ho : o < 7) : jj_Mv l D (ts_T c1 c2 c3) yX1_weigh wsX1_weigh rX1_weigh [.ref (b 0), .int (nI c), .int (nI o), .int (-1)] (wm b c1 v th z) Unit (fun _ => True) (fun _ => wm b c1 (ts_gr' v (ts_soft (ts_gr v) c o)) th z) := by
  obtain ⟨hn, hk, hth, hwk, hli, hgr⟩ := id hI
  have hg9 := (hgr c o).1
  refine jj_metv (cc := cX1_weigh) (nL := 4) (by decide) rfl (Nat.le_of_ble_eq_true rfl) (fun E Q hC hEl hED hD0 hnm hret => ?_)
  show jj_J E 0 0 Q (wm b c1 v th z) 0 [(0, .ref (b 0)), (1, .int (nI c)), (2, .int (nI o)), (3, .int (-1))] []
  refine jj_aload_n hC dX1_weigh_0 rfl ?_
  refine jj_get hC 0 5 dX1_weigh_1 (by rfl) rfl (by decide) lkX1_weigh_16 rfl hinX1_weigh (by rfl) ?_
  refine jj_bipush hC dX1_weigh_4 (v := nI 7) (by decide) ?_
  refine jj_iload_n hC dX1_weigh_6 rfl ?_
  first | refine jj_imulN hC dX1_weigh_7 ?_ | refine jj_imul hC dX1_weigh_7 ?_
  refine jj_iload_n hC dX1_weigh_8 rfl ?_
  first | refine jj_iaddN hC dX1_weigh_9 ?_ | refine jj_iadd hC dX1_weigh_9 ?_
  refine jj_iconst hC dX1_weigh_10 (v := nI 0) (by decide) ?_
  refine jj_bipush hC dX1_weigh_11 (v := nI 9) (by decide) ?_
  refine jj_aload_n hC dX1_weigh_13 rfl ?_
  refine jj_get hC 0 5 dX1_weigh_14 (by rfl) rfl (by decide) lkX1_weigh_16 rfl hinX1_weigh (by rfl) ?_
  refine jj_bipush hC dX1_weigh_17 (v := nI 7) (by decide) ?_
  refine jj_iload_n hC dX1_weigh_19 rfl ?_
  first | refine jj_imulN hC dX1_weigh_20 ?_ | refine jj_imul hC dX1_weigh_20 ?_
  refine jj_iload_n hC dX1_weigh_21 rfl ?_
  first | refine jj_iaddN hC dX1_weigh_22 ?_ | refine jj_iadd hC dX1_weigh_22 ?_
  refine jj_iald hC 3 0 dX1_weigh_23 (wm_g3 ..) rfl (by omega) (by decide) ?_
  rw [show (7 * c + o) / 7 = c by omega, show (7 * c + o) % 7 = o by omega]
  refine jj_iload_n hC dX1_weigh_24 rfl ?_
  refine jj_iadd hC dX1_weigh_25 ?_
  refine jj_mmin hC dX1_weigh_26 mkX1_weigh_106 msX1_weigh_min miX1_weigh mcX1_weigh_min ⟨by decide, Nat.le_of_ble_eq_true rfl, by decide, by decide⟩ ?_
  refine jj_mmax hC dX1_weigh_29 mkX1_weigh_63 msX1_weigh_max miX1_weigh mcX1_weigh_max ⟨by decide, Nat.le_of_ble_eq_true rfl, by decide, by decide⟩ ?_
  refine jj_topi (ts_wdn hg9) ?_
  refine jj_iast hC 3 0 dX1_weigh_32 (wm_g3 ..) rfl (by omega) (by decide) (wm_s3 b c1 v th z (ts_soft (ts_gr v) c o) _ (ts_flat7 (ts_gr v) c o _ ho)) ?_
  exact hret _ _ () dX1_weigh_33 trivial
set_option maxRecDepth 100000 in
set_option maxHeartbeats 4000000 in
theorem mmU_weigh (l : Launch) (D : va_G) (b : Nat → Nat) (c1 c2 c3 : ClassId) (v : ts_V) (th : Int32) (z : Nat → Int32) (hI : ts_I v) (c o : Nat) (hc : c < 7) (ho : o < 7) : jj_Mv l D (ts_T c1 c2 c3) yX1_weigh wsX1_weigh rX1_weigh [.ref (b 0), .int (nI c), .int (nI o), .int (nI 1)] (wm b c1 v th z) Unit (fun _ => True) (fun _ => wm b c1 (ts_gr' v (ts_rese (ts_gr v) c o)) th z) := by
  obtain ⟨hn, hk, hth, hwk, hli, hgr⟩ := id hI
  have hg9 := (hgr c o).1
  refine jj_metv (cc := cX1_weigh) (nL := 4) (by decide) rfl (Nat.le_of_ble_eq_true rfl) (fun E Q hC hEl hED hD0 hnm hret => ?_)
  show jj_J E 0 0 Q (wm b c1 v th z) 0 [(0, .ref (b 0)), (1, .int (nI c)), (2, .int (nI o)), (3, .int (nI 1))] []
  refine jj_aload_n hC dX1_weigh_0 rfl ?_
  refine jj_get hC 0 5 dX1_weigh_1 (by rfl) rfl (by decide) lkX1_weigh_16 rfl hinX1_weigh (by rfl) ?_
  refine jj_bipush hC dX1_weigh_4 (v := nI 7) (by decide) ?_
  refine jj_iload_n hC dX1_weigh_6 rfl ?_
  first | refine jj_imulN hC dX1_weigh_7 ?_ | refine jj_imul hC dX1_weigh_7 ?_
  refine jj_iload_n hC dX1_weigh_8 rfl ?_
  first | refine jj_iaddN hC dX1_weigh_9 ?_ | refine jj_iadd hC dX1_weigh_9 ?_
  refine jj_iconst hC dX1_weigh_10 (v := nI 0) (by decide) ?_
  refine jj_bipush hC dX1_weigh_11 (v := nI 9) (by decide) ?_
  refine jj_aload_n hC dX1_weigh_13 rfl ?_
  refine jj_get hC 0 5 dX1_weigh_14 (by rfl) rfl (by decide) lkX1_weigh_16 rfl hinX1_weigh (by rfl) ?_
  refine jj_bipush hC dX1_weigh_17 (v := nI 7) (by decide) ?_
  refine jj_iload_n hC dX1_weigh_19 rfl ?_
  first | refine jj_imulN hC dX1_weigh_20 ?_ | refine jj_imul hC dX1_weigh_20 ?_
  refine jj_iload_n hC dX1_weigh_21 rfl ?_
  first | refine jj_iaddN hC dX1_weigh_22 ?_ | refine jj_iadd hC dX1_weigh_22 ?_
  refine jj_iald hC 3 0 dX1_weigh_23 (wm_g3 ..) rfl (by omega) (by decide) ?_
  rw [show (7 * c + o) / 7 = c by omega, show (7 * c + o) % 7 = o by omega]
  refine jj_iload_n hC dX1_weigh_24 rfl ?_
  refine jj_iadd hC dX1_weigh_25 ?_
  refine jj_mmin hC dX1_weigh_26 mkX1_weigh_106 msX1_weigh_min miX1_weigh mcX1_weigh_min ⟨by decide, Nat.le_of_ble_eq_true rfl, by decide, by decide⟩ ?_
  refine jj_mmax hC dX1_weigh_29 mkX1_weigh_63 msX1_weigh_max miX1_weigh mcX1_weigh_max ⟨by decide, Nat.le_of_ble_eq_true rfl, by decide, by decide⟩ ?_
  refine jj_topi (ts_wup hg9) ?_
  refine jj_iast hC 3 0 dX1_weigh_32 (wm_g3 ..) rfl (by omega) (by decide) (wm_s3 b c1 v th z (ts_rese (ts_gr v) c o) _ (ts_flat7 (ts_gr v) c o _ ho)) ?_
  exact hret _ _ () dX1_weigh_33 trivial
theorem lkX1_swapped_22 : Cond.fieldLink RX1 22 RX1 (TX1 7).2.1 (TX1 7).2.2.1 ∈ wsX1_swapped := by decide +kernel
theorem lkX1_swapped_19 : Cond.fieldLink RX1 19 RX1 (TX1 6).2.1 (TX1 6).2.2.1 ∈ wsX1_swapped := by decide +kernel
theorem hinX1_swapped : ∀ w ∈ wsX10, w ∈ wsX1_swapped := by decide +kernel
set_option maxRecDepth 100000 in
set_option maxHeartbeats 4000000 in
theorem mm_swapped (l : Launch) (D : va_G) (b : Nat → Nat) (c1 c2 c3 : ClassId) (v : ts_V) (th : Int32) (z : Nat → Int32) (hI : ts_I v) (x y : Nat) (hx : x < ts_n v) (hy : y < ts_n v) (hne : ¬ ts_ow v x = ts_ow v y) : jj_M l D (ts_T c1 c2 c3) yX1_swapped wsX1_swapped rX1_swapped [.ref (b 0), .int (nI x), .int (nI y)] (wm b c1 v th z) (Nat → Int32) (fun r _ => r = (ts_rs v x y).1) (fun u => wm b c1 (ts_rs v x y).2 th u) := by
  obtain ⟨hn, hk, hth, hwk, hli, hgr⟩ := id hI
  have hbx := hth x hx
  have hby := hth y hy
  refine jj_met (cc := cX1_swapped) (nL := 7) (by decide) rfl (Nat.le_of_ble_eq_true rfl) (fun E Q hC hEl hED hD0 hret => ?_)
  show jj_J E 0 0 Q (wm b c1 v th z) 0 [(0, .ref (b 0)), (1, .int (nI x)), (2, .int (nI y))] []
  refine jj_aload_n hC dX1_swapped_0 rfl ?_
  refine jj_iload_n hC dX1_swapped_1 rfl ?_
  refine jj_iconst hC dX1_swapped_2 (v := nI 4) (by decide) ?_
  refine jj_calli hC (mm_th4 _ _ b c1 c2 c3 v th z x (by omega)) gX1_swapped_X1_th rfl 2 (by decide +kernel) ⟨by decide, by decide, by decide, by decide⟩ 0 1 (by rfl) rfl rfl rfl rfl (Nat.le_of_ble_eq_true rfl) dX1_swapped_3 (fun r u hp => ?_)
  obtain rfl := hp
  refine jj_istore_n hC dX1_swapped_6 (by decide) [1, 2, 3, 0] (lv' := [(0, _), (1, _), (2, _), (3, .int _)]) rfl ?_
  refine jj_aload_n hC dX1_swapped_7 rfl ?_
  refine jj_iload_n hC dX1_swapped_8 rfl ?_
  refine jj_iconst hC dX1_swapped_9 (v := nI 4) (by decide) ?_
  refine jj_calli hC (mm_th4 _ _ b c1 c2 c3 v th z y (by omega)) gX1_swapped_X1_th rfl 2 (by decide +kernel) ⟨by decide, by decide, by decide, by decide⟩ 0 1 (by rfl) rfl rfl rfl rfl (Nat.le_of_ble_eq_true rfl) dX1_swapped_10 (fun r u hp => ?_)
  obtain rfl := hp
  refine jj_istore hC dX1_swapped_13 (by decide) [1, 2, 3, 4, 0] (lv' := [(0, _), (1, _), (2, _), (3, _), (4, .int _)]) rfl ?_
  refine jj_aload_n hC dX1_swapped_15 rfl ?_
  refine jj_iload_n hC dX1_swapped_16 rfl ?_
  refine jj_iload_n hC dX1_swapped_17 rfl ?_
  refine jj_calli hC (mm_isEnough _ _ b c1 c2 c3 v th z hI x y hx hy hne) gX1_swapped_X1_isEnough rfl 2 (by decide +kernel) ⟨by decide, by decide, by decide, by decide⟩ 0 1 (by rfl) rfl rfl rfl rfl (Nat.le_of_ble_eq_true rfl) dX1_swapped_18 (fun r u hp => ?_)
  obtain rfl := hp
  revert u
  intro z1
  refine jj_istore hC dX1_swapped_21 (by decide) [1, 2, 3, 4, 5, 0] (lv' := [(0, _), (1, _), (2, _), (3, _), (4, _), (5, .int _)]) rfl ?_
  refine jj_aload_n hC dX1_swapped_23 rfl ?_
  refine jj_iload_n hC dX1_swapped_24 rfl ?_
  refine jj_iload_n hC dX1_swapped_25 rfl ?_
  refine jj_calli hC (mm_isEnough _ _ b c1 c2 c3 v th z1 hI y x hy hx (fun q => hne q.symm)) gX1_swapped_X1_isEnough rfl 2 (by decide +kernel) ⟨by decide, by decide, by decide, by decide⟩ 0 1 (by rfl) rfl rfl rfl rfl (Nat.le_of_ble_eq_true rfl) dX1_swapped_26 (fun r u hp => ?_)
  obtain rfl := hp
  revert u
  intro z2
  refine jj_istore hC dX1_swapped_29 (by decide) [1, 2, 3, 4, 5, 6, 0] (lv' := [(0, _), (1, _), (2, _), (3, _), (4, _), (5, _), (6, .int _)]) rfl ?_
  refine jj_iload hC dX1_swapped_31 rfl ?_
  refine jj_if_eqB hC dX1_swapped_33 (tgt := 96) (by decide) (fun c33t => ?_) (fun c33f => ?_)
  · refine jj_iload hC dX1_swapped_96 rfl ?_
    refine jj_if_eqT hC dX1_swapped_98 (tgt := 109) (by decide) (by rw [c33t]; decide) ?_
    refine jj_iload hC dX1_swapped_109 rfl ?_
    refine jj_if_eqB hC dX1_swapped_111 (tgt := 122) (by decide) (fun c111t => ?_) (fun c111f => ?_)
    · refine jj_aload_n hC dX1_swapped_122 rfl ?_
      refine jj_get hC 0 7 dX1_swapped_123 (by rfl) rfl (by decide) lkX1_swapped_22 rfl hinX1_swapped (by rfl) ?_
      refine jj_iconst hC dX1_swapped_126 (v := nI 2) (by decide) ?_
      refine jj_dup2 hC dX1_swapped_127 rfl rfl ?_
      refine jj_iald hC 5 0 dX1_swapped_128 (wm_g5 ..) rfl (by omega) (by decide) ?_
      refine jj_iconst hC dX1_swapped_129 (v := nI 1) (by decide) ?_
      refine jj_iadd hC dX1_swapped_130 ?_
      refine jj_iast hC 5 0 dX1_swapped_131 (wm_g5 ..) rfl (by decide) (by decide) (wm_s5 b c1 v th z2 (ts_rf' v (ts_rf v + 1)) _ rfl rfl rfl (ts_num2 _ _)) ?_
      refine jj_iload hC dX1_swapped_132 rfl ?_
      refine jj_if_eqT hC dX1_swapped_134 (tgt := 141) (by decide) (by rw [c33t]; decide) ?_
      refine jj_iconst hC dX1_swapped_141 (v := nI 1) (by decide) ?_
      refine jj_iload hC dX1_swapped_142 rfl ?_
      refine jj_if_eqT hC dX1_swapped_144 (tgt := 151) (by decide) (by rw [c111t]; decide) ?_
      refine jj_iconst hC dX1_swapped_151 (v := nI 2) (by decide) ?_
      first | refine jj_iaddN hC dX1_swapped_152 ?_ | refine jj_iadd hC dX1_swapped_152 ?_
      have eR : ts_rs v x y = (nI 3, ts_rf' v (ts_rf v + 1)) := by simp [ts_rs, c33t, c111t]
      refine jj_ws (ws' := wm b c1 (ts_rs v x y).2 th z2) (by rw [eR]; try rfl) (hret _ _ _ z2 dX1_swapped_153 (by rfl) (by rw [eR]))
    · refine jj_aload_n hC dX1_swapped_114 rfl ?_
      refine jj_iload hC dX1_swapped_115 rfl ?_
      refine jj_iload_n hC dX1_swapped_117 rfl ?_
      refine jj_iconst hC dX1_swapped_118 (v := nI 1) (by decide) ?_
      refine jj_callv hC (mmU_weigh _ _ b c1 c2 c3 v th z2 hI (ts_ow v y) (ts_ow v x) (by omega) (by omega)) gX1_swapped_X1_weigh rfl 3 (by decide +kernel) ⟨by decide, by decide, by decide, by decide⟩ 0 1 (by rfl) rfl rfl rfl rfl (Nat.le_of_ble_eq_true rfl) dX1_swapped_119 (fun u hp => ?_)
      refine jj_aload_n hC dX1_swapped_122 rfl ?_
      refine jj_get hC 0 7 dX1_swapped_123 (by rfl) rfl (by decide) lkX1_swapped_22 rfl hinX1_swapped (by rfl) ?_
      refine jj_iconst hC dX1_swapped_126 (v := nI 2) (by decide) ?_
      refine jj_dup2 hC dX1_swapped_127 rfl rfl ?_
      refine jj_iald hC 5 0 dX1_swapped_128 (wm_g5 ..) rfl (by omega) (by decide) ?_
      refine jj_iconst hC dX1_swapped_129 (v := nI 1) (by decide) ?_
      refine jj_iadd hC dX1_swapped_130 ?_
      refine jj_iast hC 5 0 dX1_swapped_131 (wm_g5 ..) rfl (by decide) (by decide) (wm_s5 b c1 (ts_gr' v (ts_rese (ts_gr v) (ts_ow v y) (ts_ow v x))) th z2 (ts_rf' (ts_gr' v (ts_rese (ts_gr v) (ts_ow v y) (ts_ow v x))) (ts_rf v + 1)) _ rfl rfl rfl (ts_num2 _ _)) ?_
      refine jj_iload hC dX1_swapped_132 rfl ?_
      refine jj_if_eqT hC dX1_swapped_134 (tgt := 141) (by decide) (by rw [c33t]; decide) ?_
      refine jj_iconst hC dX1_swapped_141 (v := nI 1) (by decide) ?_
      refine jj_iload hC dX1_swapped_142 rfl ?_
      refine jj_if_eqF hC dX1_swapped_144 (tgt := 151) (by decide) (by rw [c111f]; decide) ?_
      refine jj_iconst hC dX1_swapped_147 (v := nI 0) (by decide) ?_
      refine jj_goto hC dX1_swapped_148 (tgt := 152) (by decide) ?_
      first | refine jj_iaddN hC dX1_swapped_152 ?_ | refine jj_iadd hC dX1_swapped_152 ?_
      have eR : ts_rs v x y = (nI 1, ts_gr' (ts_rf' v (ts_rf v + 1)) (ts_rese (ts_gr v) (ts_ow v y) (ts_ow v x))) := by simp [ts_rs, c33t, c111f]
      refine jj_ws (ws' := wm b c1 (ts_rs v x y).2 th z2) (by rw [eR]; try rfl) (hret _ _ _ z2 dX1_swapped_153 (by rfl) (by rw [eR]))
  · refine jj_iload hC dX1_swapped_36 rfl ?_
    refine jj_if_eqB hC dX1_swapped_38 (tgt := 96) (by decide) (fun c38t => ?_) (fun c38f => ?_)
    · refine jj_iload hC dX1_swapped_96 rfl ?_
      refine jj_if_eqF hC dX1_swapped_98 (tgt := 109) (by decide) (by rw [c33f]; decide) ?_
      refine jj_aload_n hC dX1_swapped_101 rfl ?_
      refine jj_iload_n hC dX1_swapped_102 rfl ?_
      refine jj_iload hC dX1_swapped_103 rfl ?_
      refine jj_iconst hC dX1_swapped_105 (v := nI 1) (by decide) ?_
      refine jj_callv hC (mmU_weigh _ _ b c1 c2 c3 v th z2 hI (ts_ow v x) (ts_ow v y) (by omega) (by omega)) gX1_swapped_X1_weigh rfl 3 (by decide +kernel) ⟨by decide, by decide, by decide, by decide⟩ 0 1 (by rfl) rfl rfl rfl rfl (Nat.le_of_ble_eq_true rfl) dX1_swapped_106 (fun u hp => ?_)
      refine jj_iload hC dX1_swapped_109 rfl ?_
      refine jj_if_eqT hC dX1_swapped_111 (tgt := 122) (by decide) (by rw [c38t]; decide) ?_
      refine jj_aload_n hC dX1_swapped_122 rfl ?_
      refine jj_get hC 0 7 dX1_swapped_123 (by rfl) rfl (by decide) lkX1_swapped_22 rfl hinX1_swapped (by rfl) ?_
      refine jj_iconst hC dX1_swapped_126 (v := nI 2) (by decide) ?_
      refine jj_dup2 hC dX1_swapped_127 rfl rfl ?_
      refine jj_iald hC 5 0 dX1_swapped_128 (wm_g5 ..) rfl (by omega) (by decide) ?_
      refine jj_iconst hC dX1_swapped_129 (v := nI 1) (by decide) ?_
      refine jj_iadd hC dX1_swapped_130 ?_
      refine jj_iast hC 5 0 dX1_swapped_131 (wm_g5 ..) rfl (by decide) (by decide) (wm_s5 b c1 (ts_gr' v (ts_rese (ts_gr v) (ts_ow v x) (ts_ow v y))) th z2 (ts_rf' (ts_gr' v (ts_rese (ts_gr v) (ts_ow v x) (ts_ow v y))) (ts_rf v + 1)) _ rfl rfl rfl (ts_num2 _ _)) ?_
      refine jj_iload hC dX1_swapped_132 rfl ?_
      refine jj_if_eqF hC dX1_swapped_134 (tgt := 141) (by decide) (by rw [c33f]; decide) ?_
      refine jj_iconst hC dX1_swapped_137 (v := nI 0) (by decide) ?_
      refine jj_goto hC dX1_swapped_138 (tgt := 142) (by decide) ?_
      refine jj_iload hC dX1_swapped_142 rfl ?_
      refine jj_if_eqT hC dX1_swapped_144 (tgt := 151) (by decide) (by rw [c38t]; decide) ?_
      refine jj_iconst hC dX1_swapped_151 (v := nI 2) (by decide) ?_
      first | refine jj_iaddN hC dX1_swapped_152 ?_ | refine jj_iadd hC dX1_swapped_152 ?_
      have eR : ts_rs v x y = (nI 2, ts_gr' (ts_rf' v (ts_rf v + 1)) (ts_rese (ts_gr v) (ts_ow v x) (ts_ow v y))) := by simp [ts_rs, c33f, c38t]
      refine jj_ws (ws' := wm b c1 (ts_rs v x y).2 th z2) (by rw [eR]; try rfl) (hret _ _ _ z2 dX1_swapped_153 (by rfl) (by rw [eR]))
    · refine jj_aload_n hC dX1_swapped_41 rfl ?_
      refine jj_iload_n hC dX1_swapped_42 rfl ?_
      refine jj_iload_n hC dX1_swapped_43 rfl ?_
      refine jj_callv hC (mm_exchange _ _ b c1 c2 c3 v th z2 x y (by omega) (by omega)) gX1_swapped_X1_exchange rfl 2 (by decide +kernel) ⟨by decide, by decide, by decide, by decide⟩ 0 1 (by rfl) rfl rfl rfl rfl (Nat.le_of_ble_eq_true rfl) dX1_swapped_44 (fun u hp => ?_)
      refine jj_aload_n hC dX1_swapped_47 rfl ?_
      refine jj_iload_n hC dX1_swapped_48 rfl ?_
      refine jj_iload hC dX1_swapped_49 rfl ?_
      refine jj_iconst hC dX1_swapped_51 (v := -1) (by decide) ?_
      refine jj_callv hC (mmD_weigh _ _ b c1 c2 c3 (ts_exch v x y) th z2 (ts_I_exch hI x y hx hy) (ts_ow v x) (ts_ow v y) (by omega) (by omega)) gX1_swapped_X1_weigh rfl 3 (by decide +kernel) ⟨by decide, by decide, by decide, by decide⟩ 0 1 (by rfl) rfl rfl rfl rfl (Nat.le_of_ble_eq_true rfl) dX1_swapped_52 (fun u hp => ?_)
      refine jj_aload_n hC dX1_swapped_55 rfl ?_
      refine jj_iload hC dX1_swapped_56 rfl ?_
      refine jj_iload_n hC dX1_swapped_58 rfl ?_
      refine jj_iconst hC dX1_swapped_59 (v := -1) (by decide) ?_
      refine jj_callv hC (mmD_weigh _ _ b c1 c2 c3 (ts_gr' (ts_exch v x y) (ts_soft (ts_gr v) (ts_ow v x) (ts_ow v y))) th z2 (ts_I_soft (ts_I_exch hI x y hx hy) _ _) (ts_ow v y) (ts_ow v x) (by omega) (by omega)) gX1_swapped_X1_weigh rfl 3 (by decide +kernel) ⟨by decide, by decide, by decide, by decide⟩ 0 1 (by rfl) rfl rfl rfl rfl (Nat.le_of_ble_eq_true rfl) dX1_swapped_60 (fun u hp => ?_)
      refine jj_aload_n hC dX1_swapped_63 rfl ?_
      refine jj_get hC 0 6 dX1_swapped_64 (by rfl) rfl (by decide) lkX1_swapped_19 rfl hinX1_swapped (by rfl) ?_
      refine jj_iload_n hC dX1_swapped_67 rfl ?_
      refine jj_dup2 hC dX1_swapped_68 rfl rfl ?_
      refine jj_iald hC 4 0 dX1_swapped_69 (wm_g4 ..) rfl (by omega) (by decide) ?_
      refine jj_iconst hC dX1_swapped_70 (v := nI 1) (by decide) ?_
      refine jj_iadd hC dX1_swapped_71 ?_
      refine jj_iast hC 4 0 dX1_swapped_72 (wm_g4 ..) rfl (by omega) (by decide) (wm_s4 b c1 (ts_gr' (ts_exch v x y) (ts_soft (ts_soft (ts_gr v) (ts_ow v x) (ts_ow v y)) (ts_ow v y) (ts_ow v x))) th z2 (ts_ow v x) (ts_sw v (ts_ow v x) + 1)) ?_
      refine jj_aload_n hC dX1_swapped_73 rfl ?_
      refine jj_get hC 0 6 dX1_swapped_74 (by rfl) rfl (by decide) lkX1_swapped_19 rfl hinX1_swapped (by rfl) ?_
      refine jj_iload hC dX1_swapped_77 rfl ?_
      refine jj_dup2 hC dX1_swapped_79 rfl rfl ?_
      refine jj_iald hC 4 0 dX1_swapped_80 (wm_g4 ..) rfl (by omega) (by decide) ?_
      refine jj_iconst hC dX1_swapped_81 (v := nI 1) (by decide) ?_
      first | refine jj_iaddN hC dX1_swapped_82 ?_ | refine jj_iadd hC dX1_swapped_82 ?_
      refine jj_iast hC 4 0 dX1_swapped_83 (wm_g4 ..) rfl (by omega) (by decide) (wm_s4 b c1 (ts_sw' (ts_gr' (ts_exch v x y) (ts_soft (ts_soft (ts_gr v) (ts_ow v x) (ts_ow v y)) (ts_ow v y) (ts_ow v x))) (va_up (ts_sw v) (ts_ow v x) (ts_sw v (ts_ow v x) + 1))) th z2 (ts_ow v y) ((va_up (ts_sw v) (ts_ow v x) (ts_sw v (ts_ow v x) + 1)) (ts_ow v y) + 1)) ?_
      refine jj_aload_n hC dX1_swapped_84 rfl ?_
      refine jj_get hC 0 7 dX1_swapped_85 (by rfl) rfl (by decide) lkX1_swapped_22 rfl hinX1_swapped (by rfl) ?_
      refine jj_iconst hC dX1_swapped_88 (v := nI 1) (by decide) ?_
      refine jj_dup2 hC dX1_swapped_89 rfl rfl ?_
      refine jj_iald hC 5 0 dX1_swapped_90 (wm_g5 ..) rfl (by omega) (by decide) ?_
      refine jj_iconst hC dX1_swapped_91 (v := nI 1) (by decide) ?_
      refine jj_iadd hC dX1_swapped_92 ?_
      refine jj_iast hC 5 0 dX1_swapped_93 (wm_g5 ..) rfl (by decide) (by decide) (wm_s5 b c1 (ts_sw' (ts_gr' (ts_exch v x y) (ts_soft (ts_soft (ts_gr v) (ts_ow v x) (ts_ow v y)) (ts_ow v y) (ts_ow v x))) (va_up (va_up (ts_sw v) (ts_ow v x) (ts_sw v (ts_ow v x) + 1)) (ts_ow v y) ((va_up (ts_sw v) (ts_ow v x) (ts_sw v (ts_ow v x) + 1)) (ts_ow v y) + 1))) th z2 (ts_ag' (ts_sw' (ts_gr' (ts_exch v x y) (ts_soft (ts_soft (ts_gr v) (ts_ow v x) (ts_ow v y)) (ts_ow v y) (ts_ow v x))) (va_up (va_up (ts_sw v) (ts_ow v x) (ts_sw v (ts_ow v x) + 1)) (ts_ow v y) ((va_up (ts_sw v) (ts_ow v x) (ts_sw v (ts_ow v x) + 1)) (ts_ow v y) + 1))) (ts_ag v + 1)) _ rfl rfl rfl (ts_num1 _ _)) ?_
      refine jj_iconst hC dX1_swapped_94 (v := nI 0) (by decide) ?_
      have eR : ts_rs v x y = (nI 0, ts_swp v x y) := by simp [ts_rs, c33f, c38f]
      refine jj_ws (ws' := wm b c1 (ts_rs v x y).2 th z2) (by rw [eR]; try rfl) (hret _ _ _ z2 dX1_swapped_95 (by rfl) (by rw [eR]))
