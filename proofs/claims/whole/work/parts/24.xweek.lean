/-! what weeks do -/
def ts_bh (v : ts_V) (t : Nat) : ts_V := if ts_wk v t < 4 then ts_ti' v (va_up (ts_ti v) t (-1)) else ts_st' (ts_ti' v (va_up (ts_ti v) t (-1))) (va_up (ts_st v) t (ts_st v t - 1))
def ts_ew (v : ts_V) : Nat → ts_V × Nat
  | 0 => (v, 0)
  | t + 1 => if ts_lt (ts_ew v t).1 t = true ∧ ts_ti (ts_ew v t).1 t ≤ ts_w (ts_ew v t).1 then (ts_bh (ts_ew v t).1 t, (ts_ew v t).2 + 1) else ts_ew v t
def ts_softA (v : ts_V) : ts_V := ts_gr' v (fun c o => ts_gr v c o - 1)
def ts_end (v : ts_V) : ts_V × Nat := (fun (u : ts_V × Nat) => (fun (w : ts_V) => (ts_w' w (ts_w w + 1), u.2)) (if ts_w u.1 - ts_w u.1 / nI 5 * nI 5 = 0 then ts_softA u.1 else u.1)) (ts_ew v (ts_n v))
theorem ts_I_bh {v : ts_V} (hI : ts_I v) (t : Nat) : ts_I (ts_bh v t) := by
  obtain ⟨hn, hk, hth, hwk, hli, hgr⟩ := hI
  unfold ts_bh
  split
  · exact ⟨hn, hk, hth, hwk, hli, hgr⟩
  · refine ⟨hn, hk, fun i hi => ?_, hwk, hli, hgr⟩
    have hb := hth i hi
    refine ⟨hb.1, hb.2.1, hb.2.2.1, ?_, hb.2.2.2.2⟩
    show va_up (ts_st v) t (ts_st v t - 1) i ≤ 9
    unfold va_up
    split
    · rename_i e
      rw [← e]
      omega
    · exact hb.2.2.2.1
theorem ts_bh_1 (v : ts_V) (t : Nat) : (ts_bh v t).1 = v.1 := by
  unfold ts_bh
  split <;> rfl
theorem ts_ew_I {v : ts_V} (hI : ts_I v) : ∀ t, ts_I (ts_ew v t).1 ∧ (ts_ew v t).1.1 = v.1
  | 0 => ⟨hI, rfl⟩
  | t + 1 => by
    obtain ⟨h1, h2⟩ := ts_ew_I hI t
    rw [ts_ew]
    split
    · exact ⟨ts_I_bh h1 t, by rw [ts_bh_1, h2]⟩
    · exact ⟨h1, h2⟩
theorem ts_I_softA {v : ts_V} (hI : ts_I v) : ts_I (ts_softA v) := by
  obtain ⟨hn, hk, hth, hwk, hli, hgr⟩ := hI
  refine ⟨hn, hk, hth, hwk, hli, fun c o => ?_⟩
  have h1 := (hgr c o).1
  refine ⟨?_, fun h2 => ?_⟩
  · show ts_gr v c o - 1 ≤ 9
    omega
  · have h3 := (hgr c o).2 h2
    show ts_gr v c o - 1 = 0
    omega
theorem ts_I_w {v : ts_V} (hI : ts_I v) (x : Int32) : ts_I (ts_w' v x) := hI
theorem ts_I_end {v : ts_V} (hI : ts_I v) : ts_I (ts_end v).1 := by
  unfold ts_end
  have h := (ts_ew_I hI (ts_n v)).1
  dsimp only
  split
  · exact ts_I_w (ts_I_softA h) _
  · exact ts_I_w h _
theorem lkX0_soften_36 : Cond.fieldLink RX0 36 RX0 (TX0 13).2.1 (TX0 13).2.2.1 ∈ wsX0_soften := by decide +kernel
theorem mkX0_soften_233 : Cond.methodLink RX0 233 Lib.Math.max.name ∈ wsX0_soften := by decide +kernel
theorem msX0_soften_max : Cond.static Lib.Math.max.name ∈ wsX0_soften := by decide +kernel
theorem miX0_soften : Cond.initialized "java/lang/Math" ∈ wsX0_soften := by decide +kernel
theorem mcX0_soften_max : Cond.code Lib.Math.max.name Lib.Math.max.code 2 (some .int) ∈ wsX0_soften := by decide +kernel
theorem hinX0_soften : ∀ w ∈ wsX00, w ∈ wsX0_soften := by decide +kernel
set_option maxRecDepth 100000 in
set_option maxHeartbeats 4000000 in
theorem xm_soften (l : Launch) (D : va_G) (a : Nat → Nat) (c1 c2 c3 : ClassId) (v : ts_V) (g : Nat → Int32) (h : Int32) (c o : Nat) (hc : c < 7) (ho : o < 7) (hg9 : ts_gr v c o ≤ 9) : jj_Mv l D (ts_T c1 c2 c3) yX0_soften wsX0_soften rX0_soften [.ref (a 0), .int (nI c), .int (nI o)] (wx a c1 c2 v g h) Unit (fun _ => True) (fun _ => wx a c1 c2 (ts_gr' v (ts_soft (ts_gr v) c o)) g h) := by
  refine jj_metv (cc := cX0_soften) (nL := 3) (by decide) rfl (Nat.le_of_ble_eq_true rfl) (fun E Q hC hEl hED hD0 hnm hret => ?_)
  show jj_J E 0 0 Q (wx a c1 c2 v g h) 0 [(0, .ref (a 0)), (1, .int (nI c)), (2, .int (nI o))] []
  refine jj_aload_n hC dX0_soften_0 rfl ?_
  refine jj_get hC 0 13 dX0_soften_1 (by rfl) rfl (by decide) lkX0_soften_36 rfl hinX0_soften (by rfl) ?_
  refine jj_iload_n hC dX0_soften_4 rfl ?_
  refine jj_aald hC 9 1 dX0_soften_5 (wx_g9 ..) rfl rfl (by omega) (by decide) (if_pos (by omega)) ?_
  refine jj_iload_n hC dX0_soften_6 rfl ?_
  refine jj_aload_n hC dX0_soften_7 rfl ?_
  refine jj_get hC 0 13 dX0_soften_8 (by rfl) rfl (by decide) lkX0_soften_36 rfl hinX0_soften (by rfl) ?_
  refine jj_iload_n hC dX0_soften_11 rfl ?_
  refine jj_aald hC 9 1 dX0_soften_12 (wx_g9 ..) rfl rfl (by omega) (by decide) (if_pos (by omega)) ?_
  refine jj_iload_n hC dX0_soften_13 rfl ?_
  refine jj_iald hC _ 0 dX0_soften_14 (wx_ggr _ _ _ _ _ _ _ (by omega)) rfl (by omega) (by decide) ?_
  refine jj_iconst hC dX0_soften_15 (v := nI 1) (by decide) ?_
  refine jj_isub hC dX0_soften_16 ?_
  refine jj_iconst hC dX0_soften_17 (v := nI 0) (by decide) ?_
  refine jj_mmax hC dX0_soften_18 mkX0_soften_233 msX0_soften_max miX0_soften mcX0_soften_max ⟨by decide, Nat.le_of_ble_eq_true rfl, by decide, by decide⟩ ?_
  refine jj_topi (ts_m1_max0 (x := ts_gr v c o) (by omega)) ?_
  refine jj_iast hC _ 0 dX0_soften_21 (wx_ggr _ _ _ _ _ _ _ (by omega)) rfl (by omega) (by decide) (wx_sgr _ _ _ _ _ _ _ _ _ (by omega)) ?_
  exact hret _ _ () dX0_soften_22 trivial
theorem lkX0_resent_36 : Cond.fieldLink RX0 36 RX0 (TX0 13).2.1 (TX0 13).2.2.1 ∈ wsX0_resent := by decide +kernel
theorem mkX0_resent_251 : Cond.methodLink RX0 251 Lib.Math.min.name ∈ wsX0_resent := by decide +kernel
theorem msX0_resent_min : Cond.static Lib.Math.min.name ∈ wsX0_resent := by decide +kernel
theorem miX0_resent : Cond.initialized "java/lang/Math" ∈ wsX0_resent := by decide +kernel
theorem mcX0_resent_min : Cond.code Lib.Math.min.name Lib.Math.min.code 2 (some .int) ∈ wsX0_resent := by decide +kernel
theorem hinX0_resent : ∀ w ∈ wsX00, w ∈ wsX0_resent := by decide +kernel
set_option maxRecDepth 100000 in
set_option maxHeartbeats 4000000 in
theorem xm_resent (l : Launch) (D : va_G) (a : Nat → Nat) (c1 c2 c3 : ClassId) (v : ts_V) (g : Nat → Int32) (h : Int32) (c o : Nat) (hc : c < 7) (ho : o < 7) (hg9 : ts_gr v c o ≤ 9) : jj_Mv l D (ts_T c1 c2 c3) yX0_resent wsX0_resent rX0_resent [.ref (a 0), .int (nI c), .int (nI o)] (wx a c1 c2 v g h) Unit (fun _ => True) (fun _ => wx a c1 c2 (ts_gr' v (ts_rese (ts_gr v) c o)) g h) := by
  refine jj_metv (cc := cX0_resent) (nL := 3) (by decide) rfl (Nat.le_of_ble_eq_true rfl) (fun E Q hC hEl hED hD0 hnm hret => ?_)
  show jj_J E 0 0 Q (wx a c1 c2 v g h) 0 [(0, .ref (a 0)), (1, .int (nI c)), (2, .int (nI o))] []
  refine jj_aload_n hC dX0_resent_0 rfl ?_
  refine jj_get hC 0 13 dX0_resent_1 (by rfl) rfl (by decide) lkX0_resent_36 rfl hinX0_resent (by rfl) ?_
  refine jj_iload_n hC dX0_resent_4 rfl ?_
  refine jj_aald hC 9 1 dX0_resent_5 (wx_g9 ..) rfl rfl (by omega) (by decide) (if_pos (by omega)) ?_
  refine jj_iload_n hC dX0_resent_6 rfl ?_
  refine jj_aload_n hC dX0_resent_7 rfl ?_
  refine jj_get hC 0 13 dX0_resent_8 (by rfl) rfl (by decide) lkX0_resent_36 rfl hinX0_resent (by rfl) ?_
  refine jj_iload_n hC dX0_resent_11 rfl ?_
  refine jj_aald hC 9 1 dX0_resent_12 (wx_g9 ..) rfl rfl (by omega) (by decide) (if_pos (by omega)) ?_
  refine jj_iload_n hC dX0_resent_13 rfl ?_
  refine jj_iald hC _ 0 dX0_resent_14 (wx_ggr _ _ _ _ _ _ _ (by omega)) rfl (by omega) (by decide) ?_
  refine jj_iconst hC dX0_resent_15 (v := nI 1) (by decide) ?_
  first | refine jj_iaddN hC dX0_resent_16 ?_ | refine jj_iadd hC dX0_resent_16 ?_
  refine jj_bipush hC dX0_resent_17 (v := nI 9) (by decide) ?_
  refine jj_mmin hC dX0_resent_19 mkX0_resent_251 msX0_resent_min miX0_resent mcX0_resent_min ⟨by decide, Nat.le_of_ble_eq_true rfl, by decide, by decide⟩ ?_
  first | refine jj_topi (jj_mmin_eq (by omega) (by omega)) ?_ | skip
  refine jj_iast hC _ 0 dX0_resent_22 (wx_ggr _ _ _ _ _ _ _ (by omega)) rfl (by omega) (by decide) (wx_sgr _ _ _ _ _ _ _ _ _ (by omega)) ?_
  exact hret _ _ () dX0_resent_23 trivial
theorem ts_soft_le {f : Nat → Nat → Nat} (c o : Nat) {i j m : Nat} (h : f i j ≤ m) : ts_soft f c o i j ≤ m := by
  unfold ts_soft ts_up2
  split
  · rename_i e
    obtain ⟨e1, e2⟩ := e
    subst e1
    subst e2
    omega
  · exact h
theorem lkX0_changeHands_22 : Cond.fieldLink RX0 22 RX0 (TX0 9).2.1 (TX0 9).2.2.1 ∈ wsX0_changeHands := by decide +kernel
theorem lkX0_changeHands_39 : Cond.fieldLink RX0 39 RX0 (TX0 14).2.1 (TX0 14).2.2.1 ∈ wsX0_changeHands := by decide +kernel
theorem lkX0_changeHands_181 : Cond.fieldLink RX0 181 RX0 (TX0 3).2.1 (TX0 3).2.2.1 ∈ wsX0_changeHands := by decide +kernel
theorem hinX0_changeHands : ∀ w ∈ wsX00, w ∈ wsX0_changeHands := by decide +kernel
set_option maxRecDepth 100000 in
set_option maxHeartbeats 4000000 in
theorem xm_changeHands (l : Launch) (D : va_G) (a : Nat → Nat) (c1 c2 c3 : ClassId) (v : ts_V) (g : Nat → Int32) (h : Int32) (hI : ts_I v) (x y : Nat) (hx : x < ts_n v) (hy : y < ts_n v) : jj_Mv l D (ts_T c1 c2 c3) yX0_changeHands wsX0_changeHands rX0_changeHands [.ref (a 0), .int (nI x), .int (nI y)] (wx a c1 c2 v g h) Unit (fun _ => True) (fun _ => wx a c1 c2 (ts_swp v x y) g h) := by
  obtain ⟨hn, hk, hth, hwk, hli, hgr⟩ := id hI
  have hbx := hth x hx
  have hby := hth y hy
  have hg1 := (hgr (ts_ow v x) (ts_ow v y)).1
  have hg2 := (hgr (ts_ow v y) (ts_ow v x)).1
  refine jj_metv (cc := cX0_changeHands) (nL := 5) (by decide) rfl (Nat.le_of_ble_eq_true rfl) (fun E Q hC hEl hED hD0 hnm hret => ?_)
  show jj_J E 0 0 Q (wx a c1 c2 v g h) 0 [(0, .ref (a 0)), (1, .int (nI x)), (2, .int (nI y))] []
  refine jj_aload_n hC dX0_changeHands_0 rfl ?_
  refine jj_get hC 0 9 dX0_changeHands_1 (by rfl) rfl (by decide) lkX0_changeHands_22 rfl hinX0_changeHands (by rfl) ?_
  refine jj_iload_n hC dX0_changeHands_4 rfl ?_
  refine jj_iald hC 5 0 dX0_changeHands_5 (wx_g5 ..) rfl (by omega) (by decide) ?_
  refine jj_istore_n hC dX0_changeHands_6 (by decide) [1, 2, 3, 0] (lv' := [(0, _), (1, _), (2, _), (3, .int _)]) rfl ?_
  refine jj_aload_n hC dX0_changeHands_7 rfl ?_
  refine jj_get hC 0 9 dX0_changeHands_8 (by rfl) rfl (by decide) lkX0_changeHands_22 rfl hinX0_changeHands (by rfl) ?_
  refine jj_iload_n hC dX0_changeHands_11 rfl ?_
  refine jj_iald hC 5 0 dX0_changeHands_12 (wx_g5 ..) rfl (by omega) (by decide) ?_
  refine jj_istore hC dX0_changeHands_13 (by decide) [1, 2, 3, 4, 0] (lv' := [(0, _), (1, _), (2, _), (3, _), (4, .int _)]) rfl ?_
  refine jj_aload_n hC dX0_changeHands_15 rfl ?_
  refine jj_get hC 0 9 dX0_changeHands_16 (by rfl) rfl (by decide) lkX0_changeHands_22 rfl hinX0_changeHands (by rfl) ?_
  refine jj_iload_n hC dX0_changeHands_19 rfl ?_
  refine jj_iload hC dX0_changeHands_20 rfl ?_
  refine jj_iast hC 5 0 dX0_changeHands_22 (wx_g5 ..) rfl (by omega) (by decide) (wx_s5 ..) ?_
  refine jj_aload_n hC dX0_changeHands_23 rfl ?_
  refine jj_get hC 0 9 dX0_changeHands_24 (by rfl) rfl (by decide) lkX0_changeHands_22 rfl hinX0_changeHands (by rfl) ?_
  refine jj_iload_n hC dX0_changeHands_27 rfl ?_
  refine jj_iload_n hC dX0_changeHands_28 rfl ?_
  refine jj_iast hC 5 0 dX0_changeHands_29 (wx_g5 ..) rfl (by omega) (by decide) (wx_s5 ..) ?_
  refine jj_aload_n hC dX0_changeHands_30 rfl ?_
  refine jj_iload_n hC dX0_changeHands_31 rfl ?_
  refine jj_iload hC dX0_changeHands_32 rfl ?_
  refine jj_callv hC (xm_soften _ _ a c1 c2 c3 (ts_exch v x y) g h (ts_ow v x) (ts_ow v y) (by omega) (by omega) hg1) gX0_changeHands_X0_soften rfl 2 (by decide +kernel) ⟨by decide, by decide, by decide, by decide⟩ 0 0 (by rfl) rfl rfl rfl rfl (Nat.le_of_ble_eq_true rfl) dX0_changeHands_34 (fun u hp => ?_)
  refine jj_aload_n hC dX0_changeHands_37 rfl ?_
  refine jj_iload hC dX0_changeHands_38 rfl ?_
  refine jj_iload_n hC dX0_changeHands_40 rfl ?_
  refine jj_callv hC (xm_soften _ _ a c1 c2 c3 (ts_gr' (ts_exch v x y) (ts_soft (ts_gr v) (ts_ow v x) (ts_ow v y))) g h (ts_ow v y) (ts_ow v x) (by omega) (by omega) (ts_soft_le _ _ hg2)) gX0_changeHands_X0_soften rfl 2 (by decide +kernel) ⟨by decide, by decide, by decide, by decide⟩ 0 0 (by rfl) rfl rfl rfl rfl (Nat.le_of_ble_eq_true rfl) dX0_changeHands_41 (fun u hp => ?_)
  refine jj_aload_n hC dX0_changeHands_44 rfl ?_
  refine jj_get hC 0 14 dX0_changeHands_45 (by rfl) rfl (by decide) lkX0_changeHands_39 rfl hinX0_changeHands (by rfl) ?_
  refine jj_iload_n hC dX0_changeHands_48 rfl ?_
  refine jj_dup2 hC dX0_changeHands_49 rfl rfl ?_
  refine jj_iald hC 10 0 dX0_changeHands_50 (wx_g10 ..) rfl (by omega) (by decide) ?_
  refine jj_iconst hC dX0_changeHands_51 (v := nI 1) (by decide) ?_
  refine jj_iadd hC dX0_changeHands_52 ?_
  refine jj_iast hC 10 0 dX0_changeHands_53 (wx_g10 ..) rfl (by omega) (by decide) (wx_s10 ..) ?_
  refine jj_aload_n hC dX0_changeHands_54 rfl ?_
  refine jj_get hC 0 14 dX0_changeHands_55 (by rfl) rfl (by decide) lkX0_changeHands_39 rfl hinX0_changeHands (by rfl) ?_
  refine jj_iload hC dX0_changeHands_58 rfl ?_
  refine jj_dup2 hC dX0_changeHands_60 rfl rfl ?_
  refine jj_iald hC 10 0 dX0_changeHands_61 (wx_g10 ..) rfl (by omega) (by decide) ?_
  refine jj_iconst hC dX0_changeHands_62 (v := nI 1) (by decide) ?_
  refine jj_iadd hC dX0_changeHands_63 ?_
  refine jj_iast hC 10 0 dX0_changeHands_64 (wx_g10 ..) rfl (by omega) (by decide) (wx_s10 ..) ?_
  refine jj_aload_n hC dX0_changeHands_65 rfl ?_
  refine jj_dup hC dX0_changeHands_66 rfl ?_
  refine jj_get hC 0 3 dX0_changeHands_67 (by rfl) rfl (by decide) lkX0_changeHands_181 rfl hinX0_changeHands (by rfl) ?_
  refine jj_iconst hC dX0_changeHands_70 (v := nI 1) (by decide) ?_
  refine jj_iadd hC dX0_changeHands_71 ?_
  refine jj_put hC 0 3 dX0_changeHands_72 (by rfl) rfl (by decide) lkX0_changeHands_181 rfl hinX0_changeHands tyX0_ok nmX0 rfl rfl rfl rfl (Nat.le_of_ble_eq_true rfl) (wx_p3 ..) ?_
  exact hret _ _ () dX0_changeHands_75 trivial
theorem lkX0_allGrudgesOf_45 : Cond.fieldLink RX0 45 RX0 (TX0 1).2.1 (TX0 1).2.2.1 ∈ wsX0_allGrudgesOf := by decide +kernel
theorem lkX0_allGrudgesOf_36 : Cond.fieldLink RX0 36 RX0 (TX0 13).2.1 (TX0 13).2.2.1 ∈ wsX0_allGrudgesOf := by decide +kernel
theorem hinX0_allGrudgesOf : ∀ w ∈ wsX00, w ∈ wsX0_allGrudgesOf := by decide +kernel
set_option maxRecDepth 100000 in
set_option maxHeartbeats 4000000 in
theorem xm_allGrudgesOf (l : Launch) (D : va_G) (a : Nat → Nat) (c1 c2 c3 : ClassId) (v : ts_V) (g : Nat → Int32) (h : Int32) (hI : ts_I v) (c : Nat) (hc : c < 7) : jj_M l D (ts_T c1 c2 c3) yX0_allGrudgesOf wsX0_allGrudgesOf rX0_allGrudgesOf [.ref (a 0), .int (nI c)] (wx a c1 c2 v g h) Unit (fun x _ => x = nI (ts_sum (fun o => ts_gr v c o) (ts_k v))) (fun _ => wx a c1 c2 v g h) := by
  obtain ⟨hn, hk, hth, hwk, hli, hgr⟩ := id hI
  refine jj_met (cc := cX0_allGrudgesOf) (nL := 4) (by decide) rfl (Nat.le_of_ble_eq_true rfl) (fun E Q hC hEl hED hD0 hret => ?_)
  show jj_J E 0 0 Q (wx a c1 c2 v g h) 0 [(0, .ref (a 0)), (1, .int (nI c))] []
  refine jj_iconst hC dX0_allGrudgesOf_0 (v := nI 0) (by decide) ?_
  refine jj_istore_n hC dX0_allGrudgesOf_1 (by decide) [1, 2, 0] (lv' := [(0, _), (1, _), (2, .int _)]) rfl ?_
  refine jj_iconst hC dX0_allGrudgesOf_2 (v := nI 0) (by decide) ?_
  refine jj_istore_n hC dX0_allGrudgesOf_3 (by decide) [1, 2, 3, 0] (lv' := [(0, _), (1, _), (2, _), (3, .int _)]) rfl ?_
  refine jj_for (P := fun i => jj_J E 0 0 Q (wx a c1 c2 v g h) 4 [(0, .ref (a 0)), (1, .int (nI c)), (2, .int (nI (ts_sum (fun o => ts_gr v c o) i))), (3, .int (nI i))] []) (N := ts_k v) ?_ ?_ 0 (Nat.zero_le _)
  · refine jj_iload_n hC dX0_allGrudgesOf_4 rfl ?_
    refine jj_aload_n hC dX0_allGrudgesOf_5 rfl ?_
    refine jj_get hC 0 1 dX0_allGrudgesOf_6 (by rfl) rfl (by decide) lkX0_allGrudgesOf_45 rfl hinX0_allGrudgesOf (by rfl) ?_
    refine jj_icmp_geT hC dX0_allGrudgesOf_9 (tgt := 29) (by decide) (nI_le (Nat.le_refl _) (by omega)) ?_
    refine jj_iload_n hC dX0_allGrudgesOf_29 rfl ?_
    exact hret _ _ _ () dX0_allGrudgesOf_30 (by rfl) rfl
  · intro i hi ih
    refine jj_iload_n hC dX0_allGrudgesOf_4 rfl ?_
    refine jj_aload_n hC dX0_allGrudgesOf_5 rfl ?_
    refine jj_get hC 0 1 dX0_allGrudgesOf_6 (by rfl) rfl (by decide) lkX0_allGrudgesOf_45 rfl hinX0_allGrudgesOf (by rfl) ?_
    refine jj_icmp_geF hC dX0_allGrudgesOf_9 (tgt := 29) (by decide) (nI_ge hi (by omega)) ?_
    refine jj_iload_n hC dX0_allGrudgesOf_12 rfl ?_
    refine jj_aload_n hC dX0_allGrudgesOf_13 rfl ?_
    refine jj_get hC 0 13 dX0_allGrudgesOf_14 (by rfl) rfl (by decide) lkX0_allGrudgesOf_36 rfl hinX0_allGrudgesOf (by rfl) ?_
    refine jj_iload_n hC dX0_allGrudgesOf_17 rfl ?_
    refine jj_aald hC 9 1 dX0_allGrudgesOf_18 (wx_g9 ..) rfl rfl (by omega) (by decide) (if_pos (by omega)) ?_
    refine jj_iload_n hC dX0_allGrudgesOf_19 rfl ?_
    refine jj_iald hC _ 0 dX0_allGrudgesOf_20 (wx_ggr _ _ _ _ _ _ _ (by omega)) rfl (by omega) (by decide) ?_
    first | refine jj_iaddN hC dX0_allGrudgesOf_21 ?_ | refine jj_iadd hC dX0_allGrudgesOf_21 ?_
    refine jj_istore_n hC dX0_allGrudgesOf_22 (by decide) [1, 2, 0, 3] (lv' := [(0, _), (1, _), (2, .int _), (3, _)]) rfl ?_
    refine jj_iincN hC dX0_allGrudgesOf_23 rfl (d9 := 1) (by decide) (by decide) [1, 2, 3, 0] (lv' := [(0, _), (1, _), (2, _), (3, .int _)]) rfl ?_
    refine jj_goto hC dX0_allGrudgesOf_26 (tgt := 4) (by decide) ?_
    exact ih
theorem lkX0_bringHome_25 : Cond.fieldLink RX0 25 RX0 (TX0 10).2.1 (TX0 10).2.2.1 ∈ wsX0_bringHome := by decide +kernel
theorem lkX0_bringHome_28 : Cond.fieldLink RX0 28 RX0 (TX0 11).2.1 (TX0 11).2.2.1 ∈ wsX0_bringHome := by decide +kernel
theorem lkX0_bringHome_19 : Cond.fieldLink RX0 19 RX0 (TX0 8).2.1 (TX0 8).2.2.1 ∈ wsX0_bringHome := by decide +kernel
theorem mkX0_bringHome_233 : Cond.methodLink RX0 233 Lib.Math.max.name ∈ wsX0_bringHome := by decide +kernel
theorem msX0_bringHome_max : Cond.static Lib.Math.max.name ∈ wsX0_bringHome := by decide +kernel
theorem miX0_bringHome : Cond.initialized "java/lang/Math" ∈ wsX0_bringHome := by decide +kernel
theorem mcX0_bringHome_max : Cond.code Lib.Math.max.name Lib.Math.max.code 2 (some .int) ∈ wsX0_bringHome := by decide +kernel
theorem hinX0_bringHome : ∀ w ∈ wsX00, w ∈ wsX0_bringHome := by decide +kernel
set_option maxRecDepth 100000 in
set_option maxHeartbeats 4000000 in
theorem xm_bringHome (l : Launch) (D : va_G) (a : Nat → Nat) (c1 c2 c3 : ClassId) (v : ts_V) (g : Nat → Int32) (h : Int32) (t : Nat) (ht : t < 36) (hs9 : ts_st v t ≤ 9) : jj_Mv l D (ts_T c1 c2 c3) yX0_bringHome wsX0_bringHome rX0_bringHome [.ref (a 0), .int (nI t)] (wx a c1 c2 v g h) Unit (fun _ => True) (fun _ => wx a c1 c2 (ts_bh v t) g h) := by
  refine jj_metv (cc := cX0_bringHome) (nL := 2) (by decide) rfl (Nat.le_of_ble_eq_true rfl) (fun E Q hC hEl hED hD0 hnm hret => ?_)
  show jj_J E 0 0 Q (wx a c1 c2 v g h) 0 [(0, .ref (a 0)), (1, .int (nI t))] []
  refine jj_aload_n hC dX0_bringHome_0 rfl ?_
  refine jj_get hC 0 10 dX0_bringHome_1 (by rfl) rfl (by decide) lkX0_bringHome_25 rfl hinX0_bringHome (by rfl) ?_
  refine jj_iload_n hC dX0_bringHome_4 rfl ?_
  refine jj_iconst hC dX0_bringHome_5 (v := -1) (by decide) ?_
  refine jj_iast hC 6 0 dX0_bringHome_6 (wx_g6 ..) rfl (by omega) (by decide) (wx_s6 ..) ?_
  refine jj_aload_n hC dX0_bringHome_7 rfl ?_
  refine jj_get hC 0 11 dX0_bringHome_8 (by rfl) rfl (by decide) lkX0_bringHome_28 rfl hinX0_bringHome (by rfl) ?_
  refine jj_iload_n hC dX0_bringHome_11 rfl ?_
  refine jj_iald hC 7 0 dX0_bringHome_12 (wx_g7 ..) rfl (by omega) (by decide) ?_
  refine jj_iconst hC dX0_bringHome_13 (v := nI 4) (by decide) ?_
  refine jj_icmp_lt hC dX0_bringHome_14 (tgt := 35) (by decide) (fun c14 => ?_) (fun c14 => ?_)
  · refine jj_ws (ws' := wx a c1 c2 (ts_bh v t) g h) ?_ (hret _ _ () dX0_bringHome_35 trivial)
    unfold ts_bh
    first | (rw [if_pos (show ts_wk v t < 4 from c14)]; done) | rw [if_neg (show ¬ ts_wk v t < 4 from c14)]
  · refine jj_aload_n hC dX0_bringHome_17 rfl ?_
    refine jj_get hC 0 8 dX0_bringHome_18 (by rfl) rfl (by decide) lkX0_bringHome_19 rfl hinX0_bringHome (by rfl) ?_
    refine jj_iload_n hC dX0_bringHome_21 rfl ?_
    refine jj_aload_n hC dX0_bringHome_22 rfl ?_
    refine jj_get hC 0 8 dX0_bringHome_23 (by rfl) rfl (by decide) lkX0_bringHome_19 rfl hinX0_bringHome (by rfl) ?_
    refine jj_iload_n hC dX0_bringHome_26 rfl ?_
    refine jj_iald hC 4 0 dX0_bringHome_27 (wx_g4 ..) rfl (by omega) (by decide) ?_
    refine jj_iconst hC dX0_bringHome_28 (v := nI 1) (by decide) ?_
    refine jj_isub hC dX0_bringHome_29 ?_
    refine jj_iconst hC dX0_bringHome_30 (v := nI 0) (by decide) ?_
    refine jj_mmax hC dX0_bringHome_31 mkX0_bringHome_233 msX0_bringHome_max miX0_bringHome mcX0_bringHome_max ⟨by decide, Nat.le_of_ble_eq_true rfl, by decide, by decide⟩ ?_
    refine jj_topi (ts_m1_max0 (x := ts_st v t) (by omega)) ?_
    refine jj_iast hC 4 0 dX0_bringHome_34 (wx_g4 ..) rfl (by omega) (by decide) (wx_s4 ..) ?_
    refine jj_ws (ws' := wx a c1 c2 (ts_bh v t) g h) ?_ (hret _ _ () dX0_bringHome_35 trivial)
    unfold ts_bh
    first | (rw [if_pos (show ts_wk v t < 4 from c14)]; done) | rw [if_neg (show ¬ ts_wk v t < 4 from c14)]
def ts_sF (v : ts_V) (i j : Nat) : Nat → Nat → Nat := fun c o => if (c < i ∨ (c = i ∧ o < j)) ∧ o < ts_k v then ts_gr v c o - 1 else ts_gr v c o
theorem ts_sF_step (v : ts_V) (i j : Nat) (hj : j < ts_k v) : ts_soft (ts_sF v i j) i j = ts_sF v i (j + 1) := by
  funext c o
  unfold ts_soft ts_up2 ts_sF
  by_cases h1 : c = i ∧ o = j
  · obtain ⟨rfl, rfl⟩ := h1
    simp [hj]
  · rw [if_neg h1]
    by_cases h2 : (c < i ∨ (c = i ∧ o < j)) ∧ o < ts_k v
    · rw [if_pos h2, if_pos ⟨by omega, h2.2⟩]
    · rw [if_neg h2, if_neg (by omega)]
theorem ts_sF_row (v : ts_V) (i : Nat) : ts_sF v i (ts_k v) = ts_sF v (i + 1) 0 := by
  funext c o
  unfold ts_sF
  by_cases h2 : (c < i ∨ (c = i ∧ o < ts_k v)) ∧ o < ts_k v
  · rw [if_pos h2, if_pos ⟨by omega, h2.2⟩]
  · rw [if_neg h2, if_neg (by omega)]
theorem ts_sF_0 (v : ts_V) : ts_sF v 0 0 = ts_gr v := by
  funext c o
  unfold ts_sF
  rw [if_neg (by omega)]
theorem ts_sF_end {v : ts_V} (hI : ts_I v) : ts_sF v (ts_k v) 0 = fun c o => ts_gr v c o - 1 := by
  funext c o
  unfold ts_sF
  have h := (hI.2.2.2.2.2 c o).2
  by_cases h2 : (c < ts_k v ∨ (c = ts_k v ∧ o < 0)) ∧ o < ts_k v
  · rw [if_pos h2]
  · rw [if_neg h2]
    have := h (by omega)
    omega
theorem ts_sF_le {v : ts_V} (hI : ts_I v) (i j c o : Nat) : ts_sF v i j c o ≤ 9 := by
  have h := (hI.2.2.2.2.2 c o).1
  unfold ts_sF
  split <;> omega
theorem lkX0_softenAll_45 : Cond.fieldLink RX0 45 RX0 (TX0 1).2.1 (TX0 1).2.2.1 ∈ wsX0_softenAll := by decide +kernel
theorem hinX0_softenAll : ∀ w ∈ wsX00, w ∈ wsX0_softenAll := by decide +kernel
set_option maxRecDepth 100000 in
set_option maxHeartbeats 4000000 in
theorem xm_softenAll (l : Launch) (D : va_G) (a : Nat → Nat) (c1 c2 c3 : ClassId) (v : ts_V) (g : Nat → Int32) (h : Int32) (hI : ts_I v) : jj_Mv l D (ts_T c1 c2 c3) yX0_softenAll wsX0_softenAll rX0_softenAll [.ref (a 0)] (wx a c1 c2 v g h) Unit (fun _ => True) (fun _ => wx a c1 c2 (ts_softA v) g h) := by
  obtain ⟨hn, hk, hth, hwk, hli, hgr⟩ := id hI
  refine jj_metv (cc := cX0_softenAll) (nL := 3) (by decide) rfl (Nat.le_of_ble_eq_true rfl) (fun E Q hC hEl hED hD0 hnm hret => ?_)
  show jj_J E 0 0 Q (wx a c1 c2 v g h) 0 [(0, .ref (a 0))] []
  refine jj_iconst hC dX0_softenAll_0 (v := nI 0) (by decide) ?_
  refine jj_istore_n hC dX0_softenAll_1 (by decide) [1, 0] (lv' := [(0, _), (1, .int _)]) rfl ?_
  refine jj_ws (ws' := wx a c1 c2 (ts_gr' v (ts_sF v 0 0)) g h) (by rw [ts_sF_0]) ?_
  refine jj_for (P := fun i => jj_J E 0 0 Q (wx a c1 c2 (ts_gr' v (ts_sF v i 0)) g h) 2 [(0, .ref (a 0)), (1, .int (nI i))] []) (N := ts_k v) ?_ ?_ 0 (Nat.zero_le _)
  · refine jj_iload_n hC dX0_softenAll_2 rfl ?_
    refine jj_aload_n hC dX0_softenAll_3 rfl ?_
    refine jj_get hC 0 1 dX0_softenAll_4 (by rfl) rfl (by decide) lkX0_softenAll_45 rfl hinX0_softenAll (by rfl) ?_
    refine jj_icmp_geT hC dX0_softenAll_7 (tgt := 38) (by decide) (nI_le (Nat.le_refl _) (by omega)) ?_
    refine jj_ws (ws' := wx a c1 c2 (ts_softA v) g h) (by rw [ts_sF_end hI]; rfl) (hret _ _ () dX0_softenAll_38 trivial)
  · intro i hi ih
    refine jj_iload_n hC dX0_softenAll_2 rfl ?_
    refine jj_aload_n hC dX0_softenAll_3 rfl ?_
    refine jj_get hC 0 1 dX0_softenAll_4 (by rfl) rfl (by decide) lkX0_softenAll_45 rfl hinX0_softenAll (by rfl) ?_
    refine jj_icmp_geF hC dX0_softenAll_7 (tgt := 38) (by decide) (show ¬ nI (ts_k v) ≤ nI i from nI_ge hi (by omega)) ?_
    refine jj_iconst hC dX0_softenAll_10 (v := nI 0) (by decide) ?_
    refine jj_istore_n hC dX0_softenAll_11 (by decide) [1, 2, 0] (lv' := [(0, _), (1, _), (2, .int _)]) rfl ?_
    refine jj_for (P := fun j => jj_J E 0 0 Q (wx a c1 c2 (ts_gr' v (ts_sF v i j)) g h) 12 [(0, .ref (a 0)), (1, .int (nI i)), (2, .int (nI j))] []) (N := ts_k v) ?_ ?_ 0 (Nat.zero_le _)
    · refine jj_iload_n hC dX0_softenAll_12 rfl ?_
      refine jj_aload_n hC dX0_softenAll_13 rfl ?_
      refine jj_get hC 0 1 dX0_softenAll_14 (by rfl) rfl (by decide) lkX0_softenAll_45 rfl hinX0_softenAll (by rfl) ?_
      refine jj_icmp_geT hC dX0_softenAll_17 (tgt := 32) (by decide) (nI_le (Nat.le_refl _) (by omega)) ?_
      refine jj_iincN hC dX0_softenAll_32 rfl (d9 := 1) (by decide) (by decide) [1, 0, 2] (lv' := [(0, _), (1, .int _), (2, _)]) rfl ?_
      refine jj_goto hC dX0_softenAll_35 (tgt := 2) (by decide) ?_
      refine jj_sub [0, 1] (lv' := [(0, _), (1, _)]) rfl (jj_ws (ws' := wx a c1 c2 (ts_gr' v (ts_sF v (i + 1) 0)) g h) (by rw [ts_sF_row]) ih)
    · intro j hj ih2
      refine jj_iload_n hC dX0_softenAll_12 rfl ?_
      refine jj_aload_n hC dX0_softenAll_13 rfl ?_
      refine jj_get hC 0 1 dX0_softenAll_14 (by rfl) rfl (by decide) lkX0_softenAll_45 rfl hinX0_softenAll (by rfl) ?_
      refine jj_icmp_geF hC dX0_softenAll_17 (tgt := 32) (by decide) (show ¬ nI (ts_k v) ≤ nI j from nI_ge hj (by omega)) ?_
      refine jj_aload_n hC dX0_softenAll_20 rfl ?_
      refine jj_iload_n hC dX0_softenAll_21 rfl ?_
      refine jj_iload_n hC dX0_softenAll_22 rfl ?_
      refine jj_callv hC (xm_soften _ _ a c1 c2 c3 (ts_gr' v (ts_sF v i j)) g h i j (by omega) (by omega) (ts_sF_le hI _ _ _ _)) gX0_softenAll_X0_soften rfl 2 (by decide +kernel) ⟨by decide, by decide, by decide, by decide⟩ 0 0 (by rfl) rfl rfl rfl rfl (Nat.le_of_ble_eq_true rfl) dX0_softenAll_23 (fun u hp => ?_)
      refine jj_ws (ws' := wx a c1 c2 (ts_gr' v (ts_sF v i (j + 1))) g h) (by rw [← ts_sF_step v i j hj]) ?_
      refine jj_iincN hC dX0_softenAll_26 rfl (d9 := 1) (by decide) (by decide) [1, 2, 0] (lv' := [(0, _), (1, _), (2, .int _)]) rfl ?_
      refine jj_goto hC dX0_softenAll_29 (tgt := 12) (by decide) ?_
      exact ih2
theorem lkX0_endWeek_75 : Cond.fieldLink RX0 75 RX0 (TX0 2).2.1 (TX0 2).2.2.1 ∈ wsX0_endWeek := by decide +kernel
theorem lkX0_endWeek_150 : Cond.fieldLink RX0 150 RX0 (TX0 0).2.1 (TX0 0).2.2.1 ∈ wsX0_endWeek := by decide +kernel
theorem lkX0_endWeek_25 : Cond.fieldLink RX0 25 RX0 (TX0 10).2.1 (TX0 10).2.2.1 ∈ wsX0_endWeek := by decide +kernel
theorem hinX0_endWeek : ∀ w ∈ wsX00, w ∈ wsX0_endWeek := by decide +kernel
set_option maxRecDepth 100000 in
set_option maxHeartbeats 4000000 in
theorem xm_endWeek (l : Launch) (D : va_G) (a : Nat → Nat) (c1 c2 c3 : ClassId) (v : ts_V) (g : Nat → Int32) (h : Int32) (hI : ts_I v) : jj_M l D (ts_T c1 c2 c3) yX0_endWeek wsX0_endWeek rX0_endWeek [.ref (a 0)] (wx a c1 c2 v g h) Unit (fun x _ => x = nI (ts_end v).2) (fun _ => wx a c1 c2 (ts_end v).1 g h) := by
  obtain ⟨hn, hk, hth, hwk, hli, hgr⟩ := id hI
  refine jj_met (cc := cX0_endWeek) (nL := 3) (by decide) rfl (Nat.le_of_ble_eq_true rfl) (fun E Q hC hEl hED hD0 hret => ?_)
  show jj_J E 0 0 Q (wx a c1 c2 v g h) 0 [(0, .ref (a 0))] []
  refine jj_iconst hC dX0_endWeek_0 (v := nI 0) (by decide) ?_
  refine jj_istore_n hC dX0_endWeek_1 (by decide) [1, 0] (lv' := [(0, _), (1, .int _)]) rfl ?_
  refine jj_iconst hC dX0_endWeek_2 (v := nI 0) (by decide) ?_
  refine jj_istore_n hC dX0_endWeek_3 (by decide) [1, 2, 0] (lv' := [(0, _), (1, _), (2, .int _)]) rfl ?_
  refine jj_for (P := fun i => jj_J E 0 0 Q (wx a c1 c2 (ts_ew v i).1 g h) 4 [(0, .ref (a 0)), (1, .int (nI (ts_ew v i).2)), (2, .int (nI i))] []) (N := ts_n v) ?_ ?_ 0 (Nat.zero_le _)
  · obtain ⟨hEn, hen1⟩ := ts_ew_I hI (ts_n v)
    refine jj_iload_n hC dX0_endWeek_4 rfl ?_
    refine jj_aload_n hC dX0_endWeek_5 rfl ?_
    refine jj_get hC 0 2 dX0_endWeek_6 (by rfl) rfl (by decide) lkX0_endWeek_75 rfl hinX0_endWeek (by rfl) ?_
    refine jj_icmp_geT hC dX0_endWeek_9 (tgt := 47) (by decide) (by rw [show ts_n (ts_ew v (ts_n v)).1 = ts_n v from congrArg Prod.fst hen1]; exact nI_le (Nat.le_refl _) (by omega)) ?_
    refine jj_aload_n hC dX0_endWeek_47 rfl ?_
    refine jj_get hC 0 0 dX0_endWeek_48 (by rfl) rfl (by decide) lkX0_endWeek_150 rfl hinX0_endWeek (by rfl) ?_
    refine jj_iconst hC dX0_endWeek_51 (v := nI 5) (by decide) ?_
    refine jj_irem hC dX0_endWeek_52 (by decide) ?_
    refine jj_if_ne hC dX0_endWeek_53 (tgt := 60) (by decide) (fun c53 => ?_) (fun c53 => ?_)
    · refine jj_aload_n hC dX0_endWeek_60 rfl ?_
      refine jj_dup hC dX0_endWeek_61 rfl ?_
      refine jj_get hC 0 0 dX0_endWeek_62 (by rfl) rfl (by decide) lkX0_endWeek_150 rfl hinX0_endWeek (by rfl) ?_
      refine jj_iconst hC dX0_endWeek_65 (v := nI 1) (by decide) ?_
      refine jj_iadd hC dX0_endWeek_66 ?_
      refine jj_put hC 0 0 dX0_endWeek_67 (by rfl) rfl (by decide) lkX0_endWeek_150 rfl hinX0_endWeek tyX0_ok nmX0 rfl rfl rfl rfl (Nat.le_of_ble_eq_true rfl) (wx_p0 ..) ?_
      refine jj_iload_n hC dX0_endWeek_70 rfl ?_
      refine jj_ws (ws' := wx a c1 c2 (ts_end v).1 g h) ?_ (hret _ _ _ () dX0_endWeek_71 (by rfl) rfl)
      unfold ts_end
      dsimp only
      first | (rw [if_pos c53]; rfl) | (rw [if_neg c53]; rfl)
    · refine jj_aload_n hC dX0_endWeek_56 rfl ?_
      refine jj_callv hC (xm_softenAll _ _ a c1 c2 c3 (ts_ew v (ts_n v)).1 g h hEn) gX0_endWeek_X0_softenAll rfl 0 (by decide +kernel) ⟨by decide, by decide, by decide, by decide⟩ 0 0 (by rfl) rfl rfl rfl rfl (Nat.le_of_ble_eq_true rfl) dX0_endWeek_57 (fun u hp => ?_)
      refine jj_aload_n hC dX0_endWeek_60 rfl ?_
      refine jj_dup hC dX0_endWeek_61 rfl ?_
      refine jj_get hC 0 0 dX0_endWeek_62 (by rfl) rfl (by decide) lkX0_endWeek_150 rfl hinX0_endWeek (by rfl) ?_
      refine jj_iconst hC dX0_endWeek_65 (v := nI 1) (by decide) ?_
      refine jj_iadd hC dX0_endWeek_66 ?_
      refine jj_put hC 0 0 dX0_endWeek_67 (by rfl) rfl (by decide) lkX0_endWeek_150 rfl hinX0_endWeek tyX0_ok nmX0 rfl rfl rfl rfl (Nat.le_of_ble_eq_true rfl) (wx_p0 ..) ?_
      refine jj_iload_n hC dX0_endWeek_70 rfl ?_
      refine jj_ws (ws' := wx a c1 c2 (ts_end v).1 g h) ?_ (hret _ _ _ () dX0_endWeek_71 (by rfl) rfl)
      unfold ts_end
      dsimp only
      first | (rw [if_pos c53]; rfl) | (rw [if_neg c53]; rfl)
  · intro i hi ih
    obtain ⟨hEi, he1⟩ := ts_ew_I hI i
    refine jj_iload_n hC dX0_endWeek_4 rfl ?_
    refine jj_aload_n hC dX0_endWeek_5 rfl ?_
    refine jj_get hC 0 2 dX0_endWeek_6 (by rfl) rfl (by decide) lkX0_endWeek_75 rfl hinX0_endWeek (by rfl) ?_
    refine jj_icmp_geF hC dX0_endWeek_9 (tgt := 47) (by decide) (by rw [show ts_n (ts_ew v i).1 = ts_n v from congrArg Prod.fst he1]; exact nI_ge hi (by omega)) ?_
    refine jj_aload_n hC dX0_endWeek_12 rfl ?_
    refine jj_iload_n hC dX0_endWeek_13 rfl ?_
    refine jj_calli hC (xm_isLent _ _ a c1 c2 c3 (ts_ew v i).1 g h i (by omega)) gX0_endWeek_X0_isLent rfl 1 (by decide +kernel) ⟨by decide, by decide, by decide, by decide⟩ 0 0 (by rfl) rfl rfl rfl rfl (Nat.le_of_ble_eq_true rfl) dX0_endWeek_14 (fun r u hp => ?_)
    obtain rfl := hp
    refine jj_if_eqB hC dX0_endWeek_17 (tgt := 41) (by decide) (fun c17 => ?_) (fun c17 => ?_)
    · refine jj_iincN hC dX0_endWeek_41 rfl (d9 := 1) (by decide) (by decide) [1, 2, 0] (lv' := [(0, _), (1, _), (2, .int _)]) rfl ?_
      refine jj_goto hC dX0_endWeek_44 (tgt := 4) (by decide) ?_
      first
        | (rw [show ts_ew v (i + 1) = (ts_bh (ts_ew v i).1 i, (ts_ew v i).2 + 1) from if_pos ⟨c17, by have c30' := c30; rw [Int32.lt_iff_toInt_lt] at c30'; rw [Int32.le_iff_toInt_le]; omega⟩] at ih; exact ih)
        | (rw [show ts_ew v (i + 1) = ts_ew v i from if_neg (by intro q; first | (rw [c17] at q; exact absurd q.1 Bool.false_ne_true) | (have c30' := c30; have q2 := q.2; rw [Int32.lt_iff_toInt_lt] at c30'; rw [Int32.le_iff_toInt_le] at q2; omega))] at ih; exact ih)
    · refine jj_aload_n hC dX0_endWeek_20 rfl ?_
      refine jj_get hC 0 10 dX0_endWeek_21 (by rfl) rfl (by decide) lkX0_endWeek_25 rfl hinX0_endWeek (by rfl) ?_
      refine jj_iload_n hC dX0_endWeek_24 rfl ?_
      refine jj_iald hC 6 0 dX0_endWeek_25 (wx_g6 ..) rfl (by omega) (by decide) ?_
      refine jj_aload_n hC dX0_endWeek_26 rfl ?_
      refine jj_get hC 0 0 dX0_endWeek_27 (by rfl) rfl (by decide) lkX0_endWeek_150 rfl hinX0_endWeek (by rfl) ?_
      refine jj_icmp_gt hC dX0_endWeek_30 (tgt := 41) (by decide) (fun c30 => ?_) (fun c30 => ?_)
      · refine jj_iincN hC dX0_endWeek_41 rfl (d9 := 1) (by decide) (by decide) [1, 2, 0] (lv' := [(0, _), (1, _), (2, .int _)]) rfl ?_
        refine jj_goto hC dX0_endWeek_44 (tgt := 4) (by decide) ?_
        first
          | (rw [show ts_ew v (i + 1) = (ts_bh (ts_ew v i).1 i, (ts_ew v i).2 + 1) from if_pos ⟨c17, by have c30' := c30; rw [Int32.lt_iff_toInt_lt] at c30'; rw [Int32.le_iff_toInt_le]; omega⟩] at ih; exact ih)
          | (rw [show ts_ew v (i + 1) = ts_ew v i from if_neg (by intro q; first | (rw [c17] at q; exact absurd q.1 Bool.false_ne_true) | (have c30' := c30; have q2 := q.2; rw [Int32.lt_iff_toInt_lt] at c30'; rw [Int32.le_iff_toInt_le] at q2; omega))] at ih; exact ih)
      · refine jj_aload_n hC dX0_endWeek_33 rfl ?_
        refine jj_iload_n hC dX0_endWeek_34 rfl ?_
        refine jj_callv hC (xm_bringHome _ _ a c1 c2 c3 (ts_ew v i).1 g h i (by omega) ((hEi.2.2.1 i (by rw [show ts_n (ts_ew v i).1 = ts_n v from congrArg Prod.fst he1]; exact hi)).2.2.2.1)) gX0_endWeek_X0_bringHome rfl 1 (by decide +kernel) ⟨by decide, by decide, by decide, by decide⟩ 0 0 (by rfl) rfl rfl rfl rfl (Nat.le_of_ble_eq_true rfl) dX0_endWeek_35 (fun u hp => ?_)
        refine jj_iincN hC dX0_endWeek_38 rfl (d9 := 1) (by decide) (by decide) [1, 0, 2] (lv' := [(0, _), (1, .int _), (2, _)]) rfl ?_
        refine jj_iincN hC dX0_endWeek_41 rfl (d9 := 1) (by decide) (by decide) [1, 2, 0] (lv' := [(0, _), (1, _), (2, .int _)]) rfl ?_
        refine jj_goto hC dX0_endWeek_44 (tgt := 4) (by decide) ?_
        first
          | (rw [show ts_ew v (i + 1) = (ts_bh (ts_ew v i).1 i, (ts_ew v i).2 + 1) from if_pos ⟨c17, by have c30' := c30; rw [Int32.lt_iff_toInt_lt] at c30'; rw [Int32.le_iff_toInt_le]; omega⟩] at ih; exact ih)
          | (rw [show ts_ew v (i + 1) = ts_ew v i from if_neg (by intro q; first | (rw [c17] at q; exact absurd q.1 Bool.false_ne_true) | (have c30' := c30; have q2 := q.2; rw [Int32.lt_iff_toInt_lt] at c30'; rw [Int32.le_iff_toInt_le] at q2; omega))] at ih; exact ih)
