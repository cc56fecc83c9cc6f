theorem lkX1_lend_28 : Cond.fieldLink RX1 28 RX1 (TX1 0).2.1 (TX1 0).2.2.1 ∈ wsX1_lend := by decide +kernel
theorem lkX1_lend_22 : Cond.fieldLink RX1 22 RX1 (TX1 7).2.1 (TX1 7).2.2.1 ∈ wsX1_lend := by decide +kernel
theorem hinX1_lend : ∀ w ∈ wsX10, w ∈ wsX1_lend := by decide +kernel
set_option maxRecDepth 100000 in
set_option maxHeartbeats 4000000 in
theorem mo_lend (l : Launch) (D : va_G) (b : Nat → Nat) (c1 c2 c3 : ClassId) (v : ts_V) (th : Int32) (z : Nat → Int32) (hI : ts_I v) (x0 x1 : Int32) : jj_M l D (ts_T c1 c2 c3) yX1_lend wsX1_lend rX1_lend [.ref (b 0), .int x0, .int x1] (wm b c1 v th z) (Nat → Int32) (fun r _ => r = ts_if (((ts_req (ts_in x0 (ts_n v)) jj_IO).or (ts_req (ts_rg x1 1 30) jj_IA)).or (ts_req (!(ts_lt v (ts_N x0))) jj_IS)) (ts_w v + x1) (nI 0)) (fun u => wm b c1 (ts_if (((ts_req (ts_in x0 (ts_n v)) jj_IO).or (ts_req (ts_rg x1 1 30) jj_IA)).or (ts_req (!(ts_lt v (ts_N x0))) jj_IS)) ((ts_wk' (ts_ti' v (va_up (ts_ti v) (ts_N x0) (ts_w v + x1))) (va_up (ts_wk v) (ts_N x0) x1))) v) (ts_cd 1 2 3 (((ts_req (ts_in x0 (ts_n v)) jj_IO).or (ts_req (ts_rg x1 1 30) jj_IA)).or (ts_req (!(ts_lt v (ts_N x0))) jj_IS))) u) := by
  obtain ⟨hn, hk, hth, hwk, hli, hgr⟩ := id hI
  refine jj_met (cc := cX1_lend) (nL := 3) (by decide) rfl (Nat.le_of_ble_eq_true rfl) (fun E Q hC hEl hED hD0 hret => ?_)
  show jj_J E 0 0 Q (wm b c1 v th z) 0 [(0, .ref (b 0)), (1, .int x0), (2, .int x1)] []
  refine jj_aload_n hC dX1_lend_0 rfl ?_
  refine jj_iconst hC dX1_lend_1 (v := nI 0) (by decide) ?_
  refine jj_put hC 0 0 dX1_lend_2 (by rfl) rfl (by decide) lkX1_lend_28 rfl hinX1_lend tyX1_ok nmX1 rfl rfl rfl rfl (Nat.le_of_ble_eq_true rfl) (wm_p0 ..) ?_
  refine jj_aload_n hC dX1_lend_5 rfl ?_
  refine jj_iload_n hC dX1_lend_6 rfl ?_
  refine jj_calli hC (mm_isThimble _ _ b c1 c2 c3 v (nI 0) z hI x0) gX1_lend_X1_isThimble rfl 1 (by decide +kernel) ⟨by decide, by decide, by decide, by decide⟩ 0 1 (by rfl) rfl rfl rfl rfl (Nat.le_of_ble_eq_true rfl) dX1_lend_7 (fun r u hp => ?_)
  obtain rfl := hp
  refine jj_if_neB hC dX1_lend_10 (tgt := 19) (by decide) (fun c10t => ?_) (fun c10f => ?_)
  · refine jj_iload_n hC dX1_lend_19 rfl ?_
    refine jj_iconst hC dX1_lend_20 (v := nI 1) (by decide) ?_
    refine jj_bipush hC dX1_lend_21 (v := nI 30) (by decide) ?_
    refine jj_scalliN hC (mm_isInR _ _ c1 c2 c3 x1 1 30 (by decide) (by decide)) gX1_lend_X1_isIn rfl 3 (by decide +kernel) ⟨by decide, by decide, by decide, by decide⟩ rfl rfl rfl (Nat.le_of_ble_eq_true rfl) dX1_lend_23 (fun r u hp => ?_)
    obtain rfl := hp
    refine jj_if_neB hC dX1_lend_26 (tgt := 35) (by decide) (fun c26t => ?_) (fun c26f => ?_)
    · obtain ⟨j0, hj0, rfl⟩ := ts_in_of c10t (by omega)
      have eNj0 : ts_N (nI j0) = j0 := ts_N_nI (by omega)
      obtain ⟨j1, hj1a, hj1b, rfl⟩ := ts_rg_of c26t (by decide)
      refine jj_aload_n hC dX1_lend_35 rfl ?_
      refine jj_iload_n hC dX1_lend_36 rfl ?_
      refine jj_calli hC (mm_isLent _ _ b c1 c2 c3 v (nI 0) z j0 (by omega)) gX1_lend_X1_isLent rfl 1 (by decide +kernel) ⟨by decide, by decide, by decide, by decide⟩ 0 1 (by rfl) rfl rfl rfl rfl (Nat.le_of_ble_eq_true rfl) dX1_lend_37 (fun r u hp => ?_)
      obtain rfl := hp
      refine jj_if_eqB hC dX1_lend_40 (tgt := 49) (by decide) (fun c40t => ?_) (fun c40f => ?_)
      · refine jj_aload_n hC dX1_lend_49 rfl ?_
        refine jj_iload_n hC dX1_lend_50 rfl ?_
        refine jj_iconst hC dX1_lend_51 (v := nI 5) (by decide) ?_
        refine jj_aload_n hC dX1_lend_52 rfl ?_
        refine jj_get hC 0 7 dX1_lend_53 (by rfl) rfl (by decide) lkX1_lend_22 rfl hinX1_lend (by rfl) ?_
        refine jj_iconst hC dX1_lend_56 (v := nI 0) (by decide) ?_
        refine jj_iald hC 5 0 dX1_lend_57 (wm_g5 ..) rfl (by omega) (by decide) ?_
        refine jj_iload_n hC dX1_lend_58 rfl ?_
        refine jj_iadd hC dX1_lend_59 ?_
        refine jj_callv hC (mm_set _ _ b c1 c2 c3 v (nI 0) z j0 5 (by omega) (by decide) (ts_w v + nI j1) (ts_ti' v (va_up (ts_ti v) j0 (ts_w v + nI j1))) rfl rfl (ts_cti v j0 _)) gX1_lend_X1_set rfl 3 (by decide +kernel) ⟨by decide, by decide, by decide, by decide⟩ 0 1 (by rfl) rfl rfl rfl rfl (Nat.le_of_ble_eq_true rfl) dX1_lend_60 (fun u hp => ?_)
        refine jj_aload_n hC dX1_lend_63 rfl ?_
        refine jj_iload_n hC dX1_lend_64 rfl ?_
        refine jj_bipush hC dX1_lend_65 (v := nI 6) (by decide) ?_
        refine jj_iload_n hC dX1_lend_67 rfl ?_
        refine jj_callv hC (mm_set _ _ b c1 c2 c3 (ts_ti' v (va_up (ts_ti v) j0 (ts_w v + nI j1))) (nI 0) z j0 6 (by omega) (by decide) (nI j1) (ts_wk' (ts_ti' v (va_up (ts_ti v) j0 (ts_w v + nI j1))) (va_up (ts_wk v) j0 (nI j1))) rfl rfl (ts_cwk (ts_ti' v (va_up (ts_ti v) j0 (ts_w v + nI j1))) j0 _)) gX1_lend_X1_set rfl 3 (by decide +kernel) ⟨by decide, by decide, by decide, by decide⟩ 0 1 (by rfl) rfl rfl rfl rfl (Nat.le_of_ble_eq_true rfl) dX1_lend_68 (fun u hp => ?_)
        refine jj_aload_n hC dX1_lend_71 rfl ?_
        refine jj_iload_n hC dX1_lend_72 rfl ?_
        refine jj_iconst hC dX1_lend_73 (v := nI 5) (by decide) ?_
        refine jj_calli hC (mm_th5 _ _ b c1 c2 c3 (ts_wk' (ts_ti' v (va_up (ts_ti v) j0 (ts_w v + nI j1))) (va_up (ts_wk v) j0 (nI j1))) (nI 0) z j0 (by omega)) gX1_lend_X1_th rfl 2 (by decide +kernel) ⟨by decide, by decide, by decide, by decide⟩ 0 1 (by rfl) rfl rfl rfl rfl (Nat.le_of_ble_eq_true rfl) dX1_lend_74 (fun r u hp => ?_)
        obtain rfl := hp
        simp only [eNj0] at hret
        have eO : (((ts_req (ts_in (nI j0) (ts_n v)) jj_IO).or (ts_req (ts_rg (nI j1) 1 30) jj_IA)).or (ts_req (!(ts_lt v j0)) jj_IS)) = none := by simp [ts_req, c10t, c26t, c40t]
        rw [eO] at hret
        exact hret _ _ _ z dX1_lend_77 (by rfl) (va_up_self ..)
      · refine jj_aload_n hC dX1_lend_43 rfl ?_
        refine jj_iconst hC dX1_lend_44 (v := nI 3) (by decide) ?_
        refine jj_calli hC (mm_fail _ _ b c1 c2 c3 v (nI 0) z (nI 3)) gX1_lend_X1_fail rfl 1 (by decide +kernel) ⟨by decide, by decide, by decide, by decide⟩ 0 1 (by rfl) rfl rfl rfl rfl (Nat.le_of_ble_eq_true rfl) dX1_lend_45 (fun r u hp => ?_)
        obtain rfl := hp
        simp only [eNj0] at hret
        have eO : (((ts_req (ts_in (nI j0) (ts_n v)) jj_IO).or (ts_req (ts_rg (nI j1) 1 30) jj_IA)).or (ts_req (!(ts_lt v j0)) jj_IS)) = some jj_IS := by
          first
            | (simp [ts_req, c10t, c26t, c40f]; done)
            | (simp [ts_req, c10t, c26t, c40f]
               repeat' split
               all_goals simp_all)
        rw [eO, ts_cdIS] at hret
        exact hret _ _ _ z dX1_lend_48 (by rfl) rfl
    · refine jj_aload_n hC dX1_lend_29 rfl ?_
      refine jj_iconst hC dX1_lend_30 (v := nI 2) (by decide) ?_
      refine jj_calli hC (mm_fail _ _ b c1 c2 c3 v (nI 0) z (nI 2)) gX1_lend_X1_fail rfl 1 (by decide +kernel) ⟨by decide, by decide, by decide, by decide⟩ 0 1 (by rfl) rfl rfl rfl rfl (Nat.le_of_ble_eq_true rfl) dX1_lend_31 (fun r u hp => ?_)
      obtain rfl := hp
      have eO : (((ts_req (ts_in x0 (ts_n v)) jj_IO).or (ts_req (ts_rg x1 1 30) jj_IA)).or (ts_req (!(ts_lt v (ts_N x0))) jj_IS)) = some jj_IA := by
        first
          | (simp [ts_req, c10t, c26f]; done)
          | (simp [ts_req, c10t, c26f]
             repeat' split
             all_goals simp_all)
      rw [eO, ts_cdIA] at hret
      exact hret _ _ _ z dX1_lend_34 (by rfl) rfl
  · refine jj_aload_n hC dX1_lend_13 rfl ?_
    refine jj_iconst hC dX1_lend_14 (v := nI 1) (by decide) ?_
    refine jj_calli hC (mm_fail _ _ b c1 c2 c3 v (nI 0) z (nI 1)) gX1_lend_X1_fail rfl 1 (by decide +kernel) ⟨by decide, by decide, by decide, by decide⟩ 0 1 (by rfl) rfl rfl rfl rfl (Nat.le_of_ble_eq_true rfl) dX1_lend_15 (fun r u hp => ?_)
    obtain rfl := hp
    have eO : (((ts_req (ts_in x0 (ts_n v)) jj_IO).or (ts_req (ts_rg x1 1 30) jj_IA)).or (ts_req (!(ts_lt v (ts_N x0))) jj_IS)) = some jj_IO := by
      first
        | (simp [ts_req, c10f]; done)
        | (simp [ts_req, c10f]
           repeat' split
           all_goals simp_all)
    rw [eO, ts_cdIO] at hret
    exact hret _ _ _ z dX1_lend_18 (by rfl) rfl
theorem lkX1_bits_39 : Cond.fieldLink RX1 39 RX1 (TX1 2).2.1 (TX1 2).2.2.1 ∈ wsX1_bits := by decide +kernel
theorem hinX1_bits : ∀ w ∈ wsX10, w ∈ wsX1_bits := by decide +kernel
set_option maxRecDepth 100000 in
set_option maxHeartbeats 4000000 in
theorem mmA_bits (l : Launch) (D : va_G) (b : Nat → Nat) (c1 c2 c3 : ClassId) (v : ts_V) (th : Int32) (z : Nat → Int32) (hI : ts_I v) (s : Nat) (hs : s < 8) : jj_M l D (ts_T c1 c2 c3) yX1_bits wsX1_bits rX1_bits [.ref (b 0), .int (nI s), .int (nI 0)] (wm b c1 v th z) Unit (fun x _ => x = ts_or (fun t => ts_se v t == s) (ts_nu v) (ts_n v)) (fun _ => wm b c1 v th z) := by
  obtain ⟨hn, hk, hth, hwk, hli, hgr⟩ := id hI
  refine jj_met (cc := cX1_bits) (nL := 5) (by decide) rfl (Nat.le_of_ble_eq_true rfl) (fun E Q hC hEl hED hD0 hret => ?_)
  show jj_J E 0 0 Q (wm b c1 v th z) 0 [(0, .ref (b 0)), (1, .int (nI s)), (2, .int (nI 0))] []
  refine jj_iconst hC dX1_bits_0 (v := nI 0) (by decide) ?_
  refine jj_istore_n hC dX1_bits_1 (by decide) [1, 2, 3, 0] (lv' := [(0, _), (1, _), (2, _), (3, .int _)]) rfl ?_
  refine jj_iconst hC dX1_bits_2 (v := nI 0) (by decide) ?_
  refine jj_istore hC dX1_bits_3 (by decide) [1, 2, 3, 4, 0] (lv' := [(0, _), (1, _), (2, _), (3, _), (4, .int _)]) rfl ?_
  refine jj_for (P := fun i => jj_J E 0 0 Q (wm b c1 v th z) 5 [(0, .ref (b 0)), (1, .int (nI s)), (2, .int (nI 0)), (3, .int (ts_or (fun t => ts_se v t == s) (ts_nu v) i)), (4, .int (nI i))] []) (N := ts_n v) ?_ ?_ 0 (Nat.zero_le _)
  · refine jj_iload hC dX1_bits_5 rfl ?_
    refine jj_aload_n hC dX1_bits_7 rfl ?_
    refine jj_get hC 0 2 dX1_bits_8 (by rfl) rfl (by decide) lkX1_bits_39 rfl hinX1_bits (by rfl) ?_
    refine jj_icmp_geT hC dX1_bits_11 (tgt := 56) (by decide) (nI_le (Nat.le_refl _) (by omega)) ?_
    refine jj_iload_n hC dX1_bits_56 rfl ?_
    exact hret _ _ _ () dX1_bits_57 (by rfl) (rfl)
  · intro i hi ih
    have hb := hth i hi
    refine jj_iload hC dX1_bits_5 rfl ?_
    refine jj_aload_n hC dX1_bits_7 rfl ?_
    refine jj_get hC 0 2 dX1_bits_8 (by rfl) rfl (by decide) lkX1_bits_39 rfl hinX1_bits (by rfl) ?_
    refine jj_icmp_geF hC dX1_bits_11 (tgt := 56) (by decide) (nI_ge hi (by omega)) ?_
    refine jj_aload_n hC dX1_bits_14 rfl ?_
    refine jj_iload hC dX1_bits_15 rfl ?_
    refine jj_iconst hC dX1_bits_17 (v := nI 0) (by decide) ?_
    refine jj_calli hC (mm_th0 _ _ b c1 c2 c3 v th z i (by omega)) gX1_bits_X1_th rfl 2 (by decide +kernel) ⟨by decide, by decide, by decide, by decide⟩ 0 1 (by rfl) rfl rfl rfl rfl (Nat.le_of_ble_eq_true rfl) dX1_bits_18 (fun r u hp => ?_)
    obtain rfl := hp
    refine jj_iload_n hC dX1_bits_21 rfl ?_
    first | refine jj_icmp_neN hC dX1_bits_22 (tgt := 50) (by decide) (by omega) (by omega) (fun c22t => ?_) (fun c22f => ?_) | refine jj_icmp_ne hC dX1_bits_22 (tgt := 50) (by decide) (fun c22t => ?_) (fun c22f => ?_)
    · refine jj_iincN hC dX1_bits_50 rfl (d9 := 1) (by decide) (by decide) [1, 2, 3, 4, 0] (lv' := [(0, _), (1, _), (2, _), (3, _), (4, .int _)]) rfl ?_
      refine jj_goto hC dX1_bits_53 (tgt := 5) (by decide) ?_
      first | (rw [show ts_or (fun t => ts_se v t == s) (ts_nu v) (i + 1) = ts_or (fun t => ts_se v t == s) (ts_nu v) i ||| ((1 : Int32) <<< (nI (ts_nu v i) &&& 31)) by simp [ts_or, c22t]] at ih; exact ih) | (rw [show ts_or (fun t => ts_se v t == s) (ts_nu v) (i + 1) = ts_or (fun t => ts_se v t == s) (ts_nu v) i by simp [ts_or, c22t]] at ih; exact ih)
    · refine jj_iload_n hC dX1_bits_25 rfl ?_
      refine jj_if_eqT hC dX1_bits_26 (tgt := 38) (by decide) (by decide) ?_
      refine jj_iload_n hC dX1_bits_38 rfl ?_
      refine jj_iconst hC dX1_bits_39 (v := nI 1) (by decide) ?_
      refine jj_aload_n hC dX1_bits_40 rfl ?_
      refine jj_iload hC dX1_bits_41 rfl ?_
      refine jj_iconst hC dX1_bits_43 (v := nI 1) (by decide) ?_
      refine jj_calli hC (mm_th1 _ _ b c1 c2 c3 v th z i (by omega)) gX1_bits_X1_th rfl 2 (by decide +kernel) ⟨by decide, by decide, by decide, by decide⟩ 0 1 (by rfl) rfl rfl rfl rfl (Nat.le_of_ble_eq_true rfl) dX1_bits_44 (fun r u hp => ?_)
      obtain rfl := hp
      refine jj_ishl hC dX1_bits_47 ?_
      refine jj_ior hC dX1_bits_48 ?_
      refine jj_istore_n hC dX1_bits_49 (by decide) [1, 2, 3, 0, 4] (lv' := [(0, _), (1, _), (2, _), (3, .int _), (4, _)]) rfl ?_
      refine jj_iincN hC dX1_bits_50 rfl (d9 := 1) (by decide) (by decide) [1, 2, 3, 4, 0] (lv' := [(0, _), (1, _), (2, _), (3, _), (4, .int _)]) rfl ?_
      refine jj_goto hC dX1_bits_53 (tgt := 5) (by decide) ?_
      first | (rw [show ts_or (fun t => ts_se v t == s) (ts_nu v) (i + 1) = ts_or (fun t => ts_se v t == s) (ts_nu v) i ||| ((1 : Int32) <<< (nI (ts_nu v i) &&& 31)) by simp [ts_or, c22f]] at ih; exact ih) | (rw [show ts_or (fun t => ts_se v t == s) (ts_nu v) (i + 1) = ts_or (fun t => ts_se v t == s) (ts_nu v) i by simp [ts_or, c22f]] at ih; exact ih)
set_option maxRecDepth 100000 in
set_option maxHeartbeats 4000000 in
theorem mmB_bits (l : Launch) (D : va_G) (b : Nat → Nat) (c1 c2 c3 : ClassId) (v : ts_V) (th : Int32) (z : Nat → Int32) (hI : ts_I v) (s : Nat) (hs : s < 8) : jj_M l D (ts_T c1 c2 c3) yX1_bits wsX1_bits rX1_bits [.ref (b 0), .int (nI s), .int (nI 1)] (wm b c1 v th z) Unit (fun x _ => x = ts_or (fun t => ts_se v t == s && ts_lt v t) (ts_nu v) (ts_n v)) (fun _ => wm b c1 v th z) := by
  obtain ⟨hn, hk, hth, hwk, hli, hgr⟩ := id hI
  refine jj_met (cc := cX1_bits) (nL := 5) (by decide) rfl (Nat.le_of_ble_eq_true rfl) (fun E Q hC hEl hED hD0 hret => ?_)
  show jj_J E 0 0 Q (wm b c1 v th z) 0 [(0, .ref (b 0)), (1, .int (nI s)), (2, .int (nI 1))] []
  refine jj_iconst hC dX1_bits_0 (v := nI 0) (by decide) ?_
  refine jj_istore_n hC dX1_bits_1 (by decide) [1, 2, 3, 0] (lv' := [(0, _), (1, _), (2, _), (3, .int _)]) rfl ?_
  refine jj_iconst hC dX1_bits_2 (v := nI 0) (by decide) ?_
  refine jj_istore hC dX1_bits_3 (by decide) [1, 2, 3, 4, 0] (lv' := [(0, _), (1, _), (2, _), (3, _), (4, .int _)]) rfl ?_
  refine jj_for (P := fun i => jj_J E 0 0 Q (wm b c1 v th z) 5 [(0, .ref (b 0)), (1, .int (nI s)), (2, .int (nI 1)), (3, .int (ts_or (fun t => ts_se v t == s && ts_lt v t) (ts_nu v) i)), (4, .int (nI i))] []) (N := ts_n v) ?_ ?_ 0 (Nat.zero_le _)
  · refine jj_iload hC dX1_bits_5 rfl ?_
    refine jj_aload_n hC dX1_bits_7 rfl ?_
    refine jj_get hC 0 2 dX1_bits_8 (by rfl) rfl (by decide) lkX1_bits_39 rfl hinX1_bits (by rfl) ?_
    refine jj_icmp_geT hC dX1_bits_11 (tgt := 56) (by decide) (nI_le (Nat.le_refl _) (by omega)) ?_
    refine jj_iload_n hC dX1_bits_56 rfl ?_
    exact hret _ _ _ () dX1_bits_57 (by rfl) (rfl)
  · intro i hi ih
    have hb := hth i hi
    refine jj_iload hC dX1_bits_5 rfl ?_
    refine jj_aload_n hC dX1_bits_7 rfl ?_
    refine jj_get hC 0 2 dX1_bits_8 (by rfl) rfl (by decide) lkX1_bits_39 rfl hinX1_bits (by rfl) ?_
    refine jj_icmp_geF hC dX1_bits_11 (tgt := 56) (by decide) (nI_ge hi (by omega)) ?_
    refine jj_aload_n hC dX1_bits_14 rfl ?_
    refine jj_iload hC dX1_bits_15 rfl ?_
    refine jj_iconst hC dX1_bits_17 (v := nI 0) (by decide) ?_
    refine jj_calli hC (mm_th0 _ _ b c1 c2 c3 v th z i (by omega)) gX1_bits_X1_th rfl 2 (by decide +kernel) ⟨by decide, by decide, by decide, by decide⟩ 0 1 (by rfl) rfl rfl rfl rfl (Nat.le_of_ble_eq_true rfl) dX1_bits_18 (fun r u hp => ?_)
    obtain rfl := hp
    refine jj_iload_n hC dX1_bits_21 rfl ?_
    first | refine jj_icmp_neN hC dX1_bits_22 (tgt := 50) (by decide) (by omega) (by omega) (fun c22t => ?_) (fun c22f => ?_) | refine jj_icmp_ne hC dX1_bits_22 (tgt := 50) (by decide) (fun c22t => ?_) (fun c22f => ?_)
    · refine jj_iincN hC dX1_bits_50 rfl (d9 := 1) (by decide) (by decide) [1, 2, 3, 4, 0] (lv' := [(0, _), (1, _), (2, _), (3, _), (4, .int _)]) rfl ?_
      refine jj_goto hC dX1_bits_53 (tgt := 5) (by decide) ?_
      first | (rw [show ts_or (fun t => ts_se v t == s && ts_lt v t) (ts_nu v) (i + 1) = ts_or (fun t => ts_se v t == s && ts_lt v t) (ts_nu v) i ||| ((1 : Int32) <<< (nI (ts_nu v i) &&& 31)) by simp [ts_or, c22t]] at ih; exact ih) | (rw [show ts_or (fun t => ts_se v t == s && ts_lt v t) (ts_nu v) (i + 1) = ts_or (fun t => ts_se v t == s && ts_lt v t) (ts_nu v) i by simp [ts_or, c22t]] at ih; exact ih)
    · refine jj_iload_n hC dX1_bits_25 rfl ?_
      refine jj_if_eqF hC dX1_bits_26 (tgt := 38) (by decide) (by decide) ?_
      refine jj_aload_n hC dX1_bits_29 rfl ?_
      refine jj_iload hC dX1_bits_30 rfl ?_
      refine jj_calli hC (mm_isLent _ _ b c1 c2 c3 v th z i (by omega)) gX1_bits_X1_isLent rfl 1 (by decide +kernel) ⟨by decide, by decide, by decide, by decide⟩ 0 1 (by rfl) rfl rfl rfl rfl (Nat.le_of_ble_eq_true rfl) dX1_bits_32 (fun r u hp => ?_)
      obtain rfl := hp
      refine jj_if_eqB hC dX1_bits_35 (tgt := 50) (by decide) (fun c35t => ?_) (fun c35f => ?_)
      · refine jj_iincN hC dX1_bits_50 rfl (d9 := 1) (by decide) (by decide) [1, 2, 3, 4, 0] (lv' := [(0, _), (1, _), (2, _), (3, _), (4, .int _)]) rfl ?_
        refine jj_goto hC dX1_bits_53 (tgt := 5) (by decide) ?_
        first | (rw [show ts_or (fun t => ts_se v t == s && ts_lt v t) (ts_nu v) (i + 1) = ts_or (fun t => ts_se v t == s && ts_lt v t) (ts_nu v) i ||| ((1 : Int32) <<< (nI (ts_nu v i) &&& 31)) by simp [ts_or, c22f, c35t]] at ih; exact ih) | (rw [show ts_or (fun t => ts_se v t == s && ts_lt v t) (ts_nu v) (i + 1) = ts_or (fun t => ts_se v t == s && ts_lt v t) (ts_nu v) i by simp [ts_or, c22f, c35t]] at ih; exact ih)
      · refine jj_iload_n hC dX1_bits_38 rfl ?_
        refine jj_iconst hC dX1_bits_39 (v := nI 1) (by decide) ?_
        refine jj_aload_n hC dX1_bits_40 rfl ?_
        refine jj_iload hC dX1_bits_41 rfl ?_
        refine jj_iconst hC dX1_bits_43 (v := nI 1) (by decide) ?_
        refine jj_calli hC (mm_th1 _ _ b c1 c2 c3 v th z i (by omega)) gX1_bits_X1_th rfl 2 (by decide +kernel) ⟨by decide, by decide, by decide, by decide⟩ 0 1 (by rfl) rfl rfl rfl rfl (Nat.le_of_ble_eq_true rfl) dX1_bits_44 (fun r u hp => ?_)
        obtain rfl := hp
        refine jj_ishl hC dX1_bits_47 ?_
        refine jj_ior hC dX1_bits_48 ?_
        refine jj_istore_n hC dX1_bits_49 (by decide) [1, 2, 3, 0, 4] (lv' := [(0, _), (1, _), (2, _), (3, .int _), (4, _)]) rfl ?_
        refine jj_iincN hC dX1_bits_50 rfl (d9 := 1) (by decide) (by decide) [1, 2, 3, 4, 0] (lv' := [(0, _), (1, _), (2, _), (3, _), (4, .int _)]) rfl ?_
        refine jj_goto hC dX1_bits_53 (tgt := 5) (by decide) ?_
        first | (rw [show ts_or (fun t => ts_se v t == s && ts_lt v t) (ts_nu v) (i + 1) = ts_or (fun t => ts_se v t == s && ts_lt v t) (ts_nu v) i ||| ((1 : Int32) <<< (nI (ts_nu v i) &&& 31)) by simp [ts_or, c22f, c35f]] at ih; exact ih) | (rw [show ts_or (fun t => ts_se v t == s && ts_lt v t) (ts_nu v) (i + 1) = ts_or (fun t => ts_se v t == s && ts_lt v t) (ts_nu v) i by simp [ts_or, c22f, c35f]] at ih; exact ih)
theorem lkX1_shows_28 : Cond.fieldLink RX1 28 RX1 (TX1 0).2.1 (TX1 0).2.2.1 ∈ wsX1_shows := by decide +kernel
theorem hinX1_shows : ∀ w ∈ wsX10, w ∈ wsX1_shows := by decide +kernel
set_option maxRecDepth 100000 in
set_option maxHeartbeats 4000000 in
theorem mo_shows (l : Launch) (D : va_G) (b : Nat → Nat) (c1 c2 c3 : ClassId) (v : ts_V) (th : Int32) (z : Nat → Int32) (hI : ts_I v) (x0 : Int32) : jj_M l D (ts_T c1 c2 c3) yX1_shows wsX1_shows rX1_shows [.ref (b 0), .int x0] (wm b c1 v th z) (Nat → Int32) (fun r _ => r = ts_if (ts_req (ts_in x0 8) jj_IO) (nI (ts_bcN (ts_or (fun t => ts_se v t == ts_N x0 && ts_lt v t) (ts_nu v) (ts_n v)))) (nI 0)) (fun u => wm b c1 (ts_if (ts_req (ts_in x0 8) jj_IO) (v) v) (ts_cd 1 0 0 (ts_req (ts_in x0 8) jj_IO)) u) := by
  obtain ⟨hn, hk, hth, hwk, hli, hgr⟩ := id hI
  refine jj_met (cc := cX1_shows) (nL := 2) (by decide) rfl (Nat.le_of_ble_eq_true rfl) (fun E Q hC hEl hED hD0 hret => ?_)
  show jj_J E 0 0 Q (wm b c1 v th z) 0 [(0, .ref (b 0)), (1, .int x0)] []
  refine jj_aload_n hC dX1_shows_0 rfl ?_
  refine jj_iconst hC dX1_shows_1 (v := nI 0) (by decide) ?_
  refine jj_put hC 0 0 dX1_shows_2 (by rfl) rfl (by decide) lkX1_shows_28 rfl hinX1_shows tyX1_ok nmX1 rfl rfl rfl rfl (Nat.le_of_ble_eq_true rfl) (wm_p0 ..) ?_
  refine jj_iload_n hC dX1_shows_5 rfl ?_
  refine jj_scalliN hC (mm_isSet _ _ c1 c2 c3 x0) gX1_shows_X1_isSet rfl 1 (by decide +kernel) ⟨by decide, by decide, by decide, by decide⟩ rfl rfl rfl (Nat.le_of_ble_eq_true rfl) dX1_shows_6 (fun r u hp => ?_)
  obtain rfl := hp
  refine jj_if_eqB hC dX1_shows_9 (tgt := 24) (by decide) (fun c9t => ?_) (fun c9f => ?_)
  · refine jj_aload_n hC dX1_shows_24 rfl ?_
    refine jj_iconst hC dX1_shows_25 (v := nI 1) (by decide) ?_
    refine jj_calli hC (mm_fail _ _ b c1 c2 c3 v (nI 0) z (nI 1)) gX1_shows_X1_fail rfl 1 (by decide +kernel) ⟨by decide, by decide, by decide, by decide⟩ 0 1 (by rfl) rfl rfl rfl rfl (Nat.le_of_ble_eq_true rfl) dX1_shows_26 (fun r u hp => ?_)
    obtain rfl := hp
    have eO : (ts_req (ts_in x0 8) jj_IO) = some jj_IO := by
      first
        | (simp [ts_req, c9t]; done)
        | (simp [ts_req, c9t]
           repeat' split
           all_goals simp_all)
    rw [eO, ts_cdIO] at hret
    exact hret _ _ _ z dX1_shows_29 (by rfl) rfl
  · obtain ⟨j0, hj0, rfl⟩ := ts_in_of c9f (by omega)
    have eNj0 : ts_N (nI j0) = j0 := ts_N_nI (by omega)
    refine jj_aload_n hC dX1_shows_12 rfl ?_
    refine jj_iload_n hC dX1_shows_13 rfl ?_
    refine jj_iconst hC dX1_shows_14 (v := nI 1) (by decide) ?_
    refine jj_calli hC (mmB_bits _ _ b c1 c2 c3 v (nI 0) z hI j0 hj0) gX1_shows_X1_bits rfl 2 (by decide +kernel) ⟨by decide, by decide, by decide, by decide⟩ 0 1 (by rfl) rfl rfl rfl rfl (Nat.le_of_ble_eq_true rfl) dX1_shows_15 (fun r u hp => ?_)
    obtain rfl := hp
    refine jj_scalliN hC (xm_bitCount _ _ c1 c2 c3 _) gX1_shows_J6_bitCount_0f7a4 rfl 1 (by decide +kernel) ⟨by decide, by decide, by decide, by decide⟩ rfl rfl rfl (Nat.le_of_ble_eq_true rfl) dX1_shows_18 (fun r u hp => ?_)
    obtain rfl := hp
    refine jj_goto hC dX1_shows_21 (tgt := 29) (by decide) ?_
    simp only [eNj0] at hret
    have eO : (ts_req (ts_in (nI j0) 8) jj_IO) = none := by simp [ts_req, c9f]
    rw [eO] at hret
    exact hret _ _ _ z dX1_shows_29 (by rfl) ((ts_bc_eq _).1)
theorem ts_or_st : ∀ (a : Fin 64) (k : Fin 6), nI a.val ||| ((1 : Int32) <<< (nI k.val &&& 31)) = nI (a.val ||| (1 <<< k.val)) ∧ a.val ||| (1 <<< k.val) < 64 := by decide +kernel
theorem ts_or_64 {p : Nat → Bool} {f : Nat → Nat} : ∀ {n : Nat}, (∀ t, t < n → f t < 6) → ∃ j : Nat, j < 64 ∧ ts_or p f n = nI j
  | 0, _ => ⟨0, by decide, rfl⟩
  | n + 1, h => by
    obtain ⟨j, hj, e⟩ := ts_or_64 (p := p) (n := n) (fun t ht => h t (by omega))
    rw [ts_or]
    split
    · have q := ts_or_st ⟨j, hj⟩ ⟨f n, h n (by omega)⟩
      exact ⟨_, q.2, by rw [e]; exact q.1⟩
    · exact ⟨j, hj, e⟩
theorem ts_bc_63 : ∀ j : Fin 64, (nI j.val = nI 63 ↔ ¬ ts_bcN (nI j.val) < 6) := by decide +kernel
theorem ts_or_63 {p : Nat → Bool} {f : Nat → Nat} {n : Nat} (h : ∀ t, t < n → f t < 6) : ts_or p f n = nI 63 ↔ ¬ ts_bcN (ts_or p f n) < 6 := by
  obtain ⟨j, hj, e⟩ := ts_or_64 (p := p) h
  rw [e]
  exact ts_bc_63 ⟨j, hj⟩
theorem lkX1_lacks_28 : Cond.fieldLink RX1 28 RX1 (TX1 0).2.1 (TX1 0).2.2.1 ∈ wsX1_lacks := by decide +kernel
theorem hinX1_lacks : ∀ w ∈ wsX10, w ∈ wsX1_lacks := by decide +kernel
set_option maxRecDepth 100000 in
set_option maxHeartbeats 4000000 in
theorem mo_lacks (l : Launch) (D : va_G) (b : Nat → Nat) (c1 c2 c3 : ClassId) (v : ts_V) (th : Int32) (z : Nat → Int32) (hI : ts_I v) (x0 : Int32) : jj_M l D (ts_T c1 c2 c3) yX1_lacks wsX1_lacks rX1_lacks [.ref (b 0), .int x0] (wm b c1 v th z) (Nat → Int32) (fun r _ => r = ts_if (ts_req (ts_in x0 8) jj_IO) (if ts_bcN (ts_or (fun t => ts_se v t == ts_N x0) (ts_nu v) (ts_n v)) < 6 then -1 else nI 6 - nI (ts_bcN (ts_or (fun t => ts_se v t == ts_N x0 && ts_lt v t) (ts_nu v) (ts_n v)))) (nI 0)) (fun u => wm b c1 (ts_if (ts_req (ts_in x0 8) jj_IO) (v) v) (ts_cd 1 0 0 (ts_req (ts_in x0 8) jj_IO)) u) := by
  obtain ⟨hn, hk, hth, hwk, hli, hgr⟩ := id hI
  refine jj_met (cc := cX1_lacks) (nL := 2) (by decide) rfl (Nat.le_of_ble_eq_true rfl) (fun E Q hC hEl hED hD0 hret => ?_)
  show jj_J E 0 0 Q (wm b c1 v th z) 0 [(0, .ref (b 0)), (1, .int x0)] []
  refine jj_aload_n hC dX1_lacks_0 rfl ?_
  refine jj_iconst hC dX1_lacks_1 (v := nI 0) (by decide) ?_
  refine jj_put hC 0 0 dX1_lacks_2 (by rfl) rfl (by decide) lkX1_lacks_28 rfl hinX1_lacks tyX1_ok nmX1 rfl rfl rfl rfl (Nat.le_of_ble_eq_true rfl) (wm_p0 ..) ?_
  refine jj_iload_n hC dX1_lacks_5 rfl ?_
  refine jj_scalliN hC (mm_isSet _ _ c1 c2 c3 x0) gX1_lacks_X1_isSet rfl 1 (by decide +kernel) ⟨by decide, by decide, by decide, by decide⟩ rfl rfl rfl (Nat.le_of_ble_eq_true rfl) dX1_lacks_6 (fun r u hp => ?_)
  obtain rfl := hp
  refine jj_if_neB hC dX1_lacks_9 (tgt := 18) (by decide) (fun c9t => ?_) (fun c9f => ?_)
  · obtain ⟨j0, hj0, rfl⟩ := ts_in_of c9t (by omega)
    have eNj0 : ts_N (nI j0) = j0 := ts_N_nI (by omega)
    refine jj_aload_n hC dX1_lacks_18 rfl ?_
    refine jj_iload_n hC dX1_lacks_19 rfl ?_
    refine jj_iconst hC dX1_lacks_20 (v := nI 0) (by decide) ?_
    refine jj_calli hC (mmA_bits _ _ b c1 c2 c3 v (nI 0) z hI j0 hj0) gX1_lacks_X1_bits rfl 2 (by decide +kernel) ⟨by decide, by decide, by decide, by decide⟩ 0 1 (by rfl) rfl rfl rfl rfl (Nat.le_of_ble_eq_true rfl) dX1_lacks_21 (fun r u hp => ?_)
    obtain rfl := hp
    refine jj_bipush hC dX1_lacks_24 (v := nI 63) (by decide) ?_
    refine jj_icmp_ne hC dX1_lacks_26 (tgt := 44) (by decide) (fun c26t => ?_) (fun c26f => ?_)
    · refine jj_iconst hC dX1_lacks_44 (v := -1) (by decide) ?_
      simp only [eNj0] at hret
      have eO : (ts_req (ts_in (nI j0) 8) jj_IO) = none := by simp [ts_req, c9t]
      rw [eO] at hret
      exact hret _ _ _ z dX1_lacks_45 (by rfl) (by show _ = ite _ _ _; rw [if_pos (Decidable.not_not.mp (fun q => c26t ((ts_or_63 (fun t ht => (hth t ht).2.1)).mpr q)))])
    · refine jj_bipush hC dX1_lacks_29 (v := nI 6) (by decide) ?_
      refine jj_aload_n hC dX1_lacks_31 rfl ?_
      refine jj_iload_n hC dX1_lacks_32 rfl ?_
      refine jj_iconst hC dX1_lacks_33 (v := nI 1) (by decide) ?_
      refine jj_calli hC (mmB_bits _ _ b c1 c2 c3 v (nI 0) z hI j0 hj0) gX1_lacks_X1_bits rfl 2 (by decide +kernel) ⟨by decide, by decide, by decide, by decide⟩ 0 1 (by rfl) rfl rfl rfl rfl (Nat.le_of_ble_eq_true rfl) dX1_lacks_34 (fun r u hp => ?_)
      obtain rfl := hp
      refine jj_scalliN hC (xm_bitCount _ _ c1 c2 c3 _) gX1_lacks_J6_bitCount_0f7a4 rfl 1 (by decide +kernel) ⟨by decide, by decide, by decide, by decide⟩ rfl rfl rfl (Nat.le_of_ble_eq_true rfl) dX1_lacks_37 (fun r u hp => ?_)
      obtain rfl := hp
      rw [(ts_bc_eq _).1]
      refine jj_isub hC dX1_lacks_40 ?_
      refine jj_goto hC dX1_lacks_41 (tgt := 45) (by decide) ?_
      simp only [eNj0] at hret
      have eO : (ts_req (ts_in (nI j0) 8) jj_IO) = none := by simp [ts_req, c9t]
      rw [eO] at hret
      exact hret _ _ _ z dX1_lacks_45 (by rfl) (by show _ = ite _ _ _; rw [if_neg ((ts_or_63 (fun t ht => (hth t ht).2.1)).mp c26f)])
  · refine jj_aload_n hC dX1_lacks_12 rfl ?_
    refine jj_iconst hC dX1_lacks_13 (v := nI 1) (by decide) ?_
    refine jj_calli hC (mm_fail _ _ b c1 c2 c3 v (nI 0) z (nI 1)) gX1_lacks_X1_fail rfl 1 (by decide +kernel) ⟨by decide, by decide, by decide, by decide⟩ 0 1 (by rfl) rfl rfl rfl rfl (Nat.le_of_ble_eq_true rfl) dX1_lacks_14 (fun r u hp => ?_)
    obtain rfl := hp
    have eO : (ts_req (ts_in x0 8) jj_IO) = some jj_IO := by
      first
        | (simp [ts_req, c9f]; done)
        | (simp [ts_req, c9f]
           repeat' split
           all_goals simp_all)
    rw [eO, ts_cdIO] at hret
    exact hret _ _ _ z dX1_lacks_17 (by rfl) rfl
theorem ts_cnt_0 {p : Nat → Bool} : ∀ {n : Nat}, ts_cnt p n = 0 → ∀ k, k < n → p k = false
  | 0, _, k, hk => absurd hk (Nat.not_lt_zero k)
  | n + 1, h, k, hk => by
    rw [ts_cnt] at h
    by_cases e : k = n
    · subst e
      cases q : p k with
      | false => rfl
      | true => rw [q, if_pos rfl] at h; omega
    · exact ts_cnt_0 (n := n) (by omega) k (by omega)
theorem ts_stts_0 {v : ts_V} {p : Nat → Bool} {s : Nat} (h : ts_nums v p s = 0) : ts_stts v p s = 0 := by
  have h2 := ts_cnt_0 h
  have h3 : ts_stts v p s ≤ 6 * 0 := ts_sum_le (fun k hk => by
    have h4 := h2 k hk
    simp at h4
    omega)
  omega
theorem ts_fi_1 {v : ts_V} {s : Nat} : ∀ {c : Nat}, c < 2 ^ 31 → (ts_fi v s c).1 = -1 → (ts_fi v s c).2.1 = 0 ∧ (ts_fi v s c).2.2 = 0
  | 0, _, _ => ⟨rfl, rfl⟩
  | c + 1, hc, h => by
    rw [ts_fi] at h ⊢
    split
    · rename_i q
      rw [if_pos q] at h
      have h2 : nI c = -1 := h
      have h3 := congrArg Int32.toInt h2
      rw [nI_toInt (by omega)] at h3
      have e3 : (-1 : Int32).toInt = -1 := by decide
      omega
    · rename_i q
      rw [if_neg q] at h
      exact ts_fi_1 (by omega) h
theorem lkX1_finest_28 : Cond.fieldLink RX1 28 RX1 (TX1 0).2.1 (TX1 0).2.2.1 ∈ wsX1_finest := by decide +kernel
theorem lkX1_finest_32 : Cond.fieldLink RX1 32 RX1 (TX1 1).2.1 (TX1 1).2.2.1 ∈ wsX1_finest := by decide +kernel
theorem hinX1_finest : ∀ w ∈ wsX10, w ∈ wsX1_finest := by decide +kernel
set_option maxRecDepth 100000 in
set_option maxHeartbeats 4000000 in
theorem mo_finest (l : Launch) (D : va_G) (b : Nat → Nat) (c1 c2 c3 : ClassId) (v : ts_V) (th : Int32) (z : Nat → Int32) (hI : ts_I v) (x0 : Int32) : jj_M l D (ts_T c1 c2 c3) yX1_finest wsX1_finest rX1_finest [.ref (b 0), .int x0] (wm b c1 v th z) (Nat → Int32) (fun r _ => r = ts_if (ts_req (ts_in x0 8) jj_IO) ((ts_fi v (ts_N x0) (ts_k v)).1) (nI 0)) (fun u => wm b c1 (ts_if (ts_req (ts_in x0 8) jj_IO) (v) v) (ts_cd 1 0 0 (ts_req (ts_in x0 8) jj_IO)) u) := by
  obtain ⟨hn, hk, hth, hwk, hli, hgr⟩ := id hI
  refine jj_met (cc := cX1_finest) (nL := 7) (by decide) rfl (Nat.le_of_ble_eq_true rfl) (fun E Q hC hEl hED hD0 hret => ?_)
  show jj_J E 0 0 Q (wm b c1 v th z) 0 [(0, .ref (b 0)), (1, .int x0)] []
  refine jj_aload_n hC dX1_finest_0 rfl ?_
  refine jj_iconst hC dX1_finest_1 (v := nI 0) (by decide) ?_
  refine jj_put hC 0 0 dX1_finest_2 (by rfl) rfl (by decide) lkX1_finest_28 rfl hinX1_finest tyX1_ok nmX1 rfl rfl rfl rfl (Nat.le_of_ble_eq_true rfl) (wm_p0 ..) ?_
  refine jj_iload_n hC dX1_finest_5 rfl ?_
  refine jj_scalliN hC (mm_isSet _ _ c1 c2 c3 x0) gX1_finest_X1_isSet rfl 1 (by decide +kernel) ⟨by decide, by decide, by decide, by decide⟩ rfl rfl rfl (Nat.le_of_ble_eq_true rfl) dX1_finest_6 (fun r u hp => ?_)
  obtain rfl := hp
  refine jj_if_neB hC dX1_finest_9 (tgt := 18) (by decide) (fun c9t => ?_) (fun c9f => ?_)
  · obtain ⟨j0, hj0, rfl⟩ := ts_in_of c9t (by omega)
    have eNj0 : ts_N (nI j0) = j0 := ts_N_nI (by omega)
    refine jj_iconst hC dX1_finest_18 (v := -1) (by decide) ?_
    refine jj_istore_n hC dX1_finest_19 (by decide) [1, 2, 0] (lv' := [(0, _), (1, _), (2, .int _)]) rfl ?_
    refine jj_iconst hC dX1_finest_20 (v := nI 0) (by decide) ?_
    refine jj_istore_n hC dX1_finest_21 (by decide) [1, 2, 3, 0] (lv' := [(0, _), (1, _), (2, _), (3, .int _)]) rfl ?_
    refine jj_iconst hC dX1_finest_22 (v := nI 0) (by decide) ?_
    refine jj_istore hC dX1_finest_23 (by decide) [1, 2, 3, 4, 0] (lv' := [(0, _), (1, _), (2, _), (3, _), (4, .int _)]) rfl ?_
    refine jj_for (P := fun i => ∀ z1 : Nat → Int32, jj_J E 0 0 Q (wm b c1 v (nI 0) z1) 25 [(0, .ref (b 0)), (1, .int (nI j0)), (2, .int (ts_fi v j0 i).1), (3, .int (nI (100 * (ts_fi v j0 i).2.1 + (ts_fi v j0 i).2.2))), (4, .int (nI i))] []) (N := ts_k v) ?_ ?_ 0 (Nat.zero_le _) _
    · intro z1
      refine jj_iload hC dX1_finest_25 rfl ?_
      refine jj_aload_n hC dX1_finest_27 rfl ?_
      refine jj_get hC 0 1 dX1_finest_28 (by rfl) rfl (by decide) lkX1_finest_32 rfl hinX1_finest (by rfl) ?_
      refine jj_icmp_geT hC dX1_finest_31 (tgt := 86) (by decide) (nI_le (Nat.le_refl _) (by omega)) ?_
      refine jj_iload_n hC dX1_finest_86 rfl ?_
      simp only [eNj0] at hret
      have eO : (ts_req (ts_in (nI j0) 8) jj_IO) = none := by simp [ts_req, c9t]
      rw [eO] at hret
      exact hret _ _ _ z1 dX1_finest_87 (by rfl) (rfl)
    · intro i hi ih z1
      have hfl := ts_fi_le hI j0 i
      have hn6 : ts_nums v (ts_of v i) j0 ≤ 6 := ts_cnt_le _ 6
      have hs54 := ts_stts_le hI (ts_of v i) j0
      refine jj_iload hC dX1_finest_25 rfl ?_
      refine jj_aload_n hC dX1_finest_27 rfl ?_
      refine jj_get hC 0 1 dX1_finest_28 (by rfl) rfl (by decide) lkX1_finest_32 rfl hinX1_finest (by rfl) ?_
      refine jj_icmp_geF hC dX1_finest_31 (tgt := 86) (by decide) (nI_ge hi (by omega)) ?_
      refine jj_aload_n hC dX1_finest_34 rfl ?_
      refine jj_iload hC dX1_finest_35 rfl ?_
      refine jj_iload_n hC dX1_finest_37 rfl ?_
      refine jj_calli hC (mm_gather _ _ b c1 c2 c3 v (nI 0) z1 hI i j0 (by omega) hj0) gX1_finest_X1_gather rfl 2 (by decide +kernel) ⟨by decide, by decide, by decide, by decide⟩ 0 1 (by rfl) rfl rfl rfl rfl (Nat.le_of_ble_eq_true rfl) dX1_finest_38 (fun r u hp => ?_)
      obtain ⟨z2, ez2⟩ : ∃ z2, z2 = u := ⟨u, rfl⟩
      rw [← ez2] at hp ⊢
      clear ez2
      obtain ⟨rfl, hz2⟩ := hp
      refine jj_istore hC dX1_finest_41 (by decide) [1, 2, 3, 4, 5, 0] (lv' := [(0, _), (1, _), (2, _), (3, _), (4, _), (5, .int _)]) rfl ?_
      refine jj_bipush hC dX1_finest_43 (v := nI 100) (by decide) ?_
      refine jj_iload hC dX1_finest_45 rfl ?_
      first | refine jj_imulN hC dX1_finest_47 ?_ | refine jj_imul hC dX1_finest_47 ?_
      refine jj_aload_n hC dX1_finest_48 rfl ?_
      refine jj_calli hC (mm_states _ _ b c1 c2 c3 v (nI 0) z2 (fun k => ts_g v (ts_of v i) j0 k) (fun k => ts_gs_le (fun t ht => (hth t ht).2.2.2.1)) hz2) gX1_finest_X1_states rfl 0 (by decide +kernel) ⟨by decide, by decide, by decide, by decide⟩ 0 1 (by rfl) rfl rfl rfl rfl (Nat.le_of_ble_eq_true rfl) dX1_finest_49 (fun r u hp => ?_)
      obtain rfl := hp
      rw [show ts_sum (fun k => ts_g v (ts_of v i) j0 k - 1) 6 = ts_stts v (ts_of v i) j0 from rfl]
      first | refine jj_iaddN hC dX1_finest_52 ?_ | refine jj_iadd hC dX1_finest_52 ?_
      refine jj_istore hC dX1_finest_53 (by decide) [1, 2, 3, 4, 5, 6, 0] (lv' := [(0, _), (1, _), (2, _), (3, _), (4, _), (5, _), (6, .int _)]) rfl ?_
      refine jj_iload hC dX1_finest_55 rfl ?_
      refine jj_if_eq hC dX1_finest_57 (tgt := 80) (by decide) (fun c57t => ?_) (fun c57f => ?_)
      · refine jj_iincN hC dX1_finest_80 rfl (d9 := 1) (by decide) (by decide) [1, 2, 3, 4, 0, 5, 6] (lv' := [(0, _), (1, _), (2, _), (3, _), (4, .int _), (5, _), (6, _)]) rfl ?_
        refine jj_goto hC dX1_finest_83 (tgt := 25) (by decide) ?_
        have hn0 : ts_nums v (ts_of v i) j0 = 0 := by have e := congrArg Int32.toInt c57t; rw [nI_toInt (by omega)] at e; exact Int.ofNat_eq_zero.mp e
        have hs0 := ts_stts_0 hn0
        refine jj_sub [0, 1, 2, 3, 4] (lv' := [(0, _), (1, _), (2, _), (3, _), (4, _)]) rfl ?_
        rw [show ts_fi v j0 (i + 1) = ts_fi v j0 i from if_neg (by omega)] at ih
        exact ih _
      · refine jj_iload_n hC dX1_finest_60 rfl ?_
        refine jj_iconst hC dX1_finest_61 (v := -1) (by decide) ?_
        refine jj_icmp_eq hC dX1_finest_62 (tgt := 74) (by decide) (fun c62t => ?_) (fun c62f => ?_)
        · refine jj_iload hC dX1_finest_74 rfl ?_
          refine jj_istore_n hC dX1_finest_76 (by decide) [1, 2, 0, 3, 4, 5, 6] (lv' := [(0, _), (1, _), (2, .int _), (3, _), (4, _), (5, _), (6, _)]) rfl ?_
          refine jj_iload hC dX1_finest_77 rfl ?_
          refine jj_istore_n hC dX1_finest_79 (by decide) [1, 2, 3, 0, 4, 5, 6] (lv' := [(0, _), (1, _), (2, _), (3, .int _), (4, _), (5, _), (6, _)]) rfl ?_
          refine jj_iincN hC dX1_finest_80 rfl (d9 := 1) (by decide) (by decide) [1, 2, 3, 4, 0, 5, 6] (lv' := [(0, _), (1, _), (2, _), (3, _), (4, .int _), (5, _), (6, _)]) rfl ?_
          refine jj_goto hC dX1_finest_83 (tgt := 25) (by decide) ?_
          have hn0 : ¬ ts_nums v (ts_of v i) j0 = 0 := fun e => c57f (by rw [e]; rfl)
          have hf1 := ts_fi_1 (v := v) (s := j0) (c := i) (by omega) c62t
          refine jj_sub [0, 1, 2, 3, 4] (lv' := [(0, _), (1, _), (2, _), (3, _), (4, _)]) rfl ?_
          rw [show ts_fi v j0 (i + 1) = (nI i, ts_nums v (ts_of v i) j0, ts_stts v (ts_of v i) j0) from if_pos (by omega)] at ih
          exact ih _
        · refine jj_iload hC dX1_finest_65 rfl ?_
          refine jj_iload_n hC dX1_finest_67 rfl ?_
          first | refine jj_icmp_gtN hC dX1_finest_68 (tgt := 74) (by decide) (by omega) (by omega) (fun c68t => ?_) (fun c68f => ?_) | refine jj_icmp_gt hC dX1_finest_68 (tgt := 74) (by decide) (fun c68t => ?_) (fun c68f => ?_)
          · refine jj_iload hC dX1_finest_74 rfl ?_
            refine jj_istore_n hC dX1_finest_76 (by decide) [1, 2, 0, 3, 4, 5, 6] (lv' := [(0, _), (1, _), (2, .int _), (3, _), (4, _), (5, _), (6, _)]) rfl ?_
            refine jj_iload hC dX1_finest_77 rfl ?_
            refine jj_istore_n hC dX1_finest_79 (by decide) [1, 2, 3, 0, 4, 5, 6] (lv' := [(0, _), (1, _), (2, _), (3, .int _), (4, _), (5, _), (6, _)]) rfl ?_
            refine jj_iincN hC dX1_finest_80 rfl (d9 := 1) (by decide) (by decide) [1, 2, 3, 4, 0, 5, 6] (lv' := [(0, _), (1, _), (2, _), (3, _), (4, .int _), (5, _), (6, _)]) rfl ?_
            refine jj_goto hC dX1_finest_83 (tgt := 25) (by decide) ?_
            have hn0 : ¬ ts_nums v (ts_of v i) j0 = 0 := fun e => c57f (by rw [e]; rfl)
            refine jj_sub [0, 1, 2, 3, 4] (lv' := [(0, _), (1, _), (2, _), (3, _), (4, _)]) rfl ?_
            rw [show ts_fi v j0 (i + 1) = (nI i, ts_nums v (ts_of v i) j0, ts_stts v (ts_of v i) j0) from if_pos (by omega)] at ih
            exact ih _
          · refine jj_goto hC dX1_finest_71 (tgt := 80) (by decide) ?_
            refine jj_iincN hC dX1_finest_80 rfl (d9 := 1) (by decide) (by decide) [1, 2, 3, 4, 0, 5, 6] (lv' := [(0, _), (1, _), (2, _), (3, _), (4, .int _), (5, _), (6, _)]) rfl ?_
            refine jj_goto hC dX1_finest_83 (tgt := 25) (by decide) ?_
            have hn0 : ¬ ts_nums v (ts_of v i) j0 = 0 := fun e => c57f (by rw [e]; rfl)
            refine jj_sub [0, 1, 2, 3, 4] (lv' := [(0, _), (1, _), (2, _), (3, _), (4, _)]) rfl ?_
            rw [show ts_fi v j0 (i + 1) = ts_fi v j0 i from if_neg (by omega)] at ih
            exact ih _
  · refine jj_aload_n hC dX1_finest_12 rfl ?_
    refine jj_iconst hC dX1_finest_13 (v := nI 1) (by decide) ?_
    refine jj_calli hC (mm_fail _ _ b c1 c2 c3 v (nI 0) z (nI 1)) gX1_finest_X1_fail rfl 1 (by decide +kernel) ⟨by decide, by decide, by decide, by decide⟩ 0 1 (by rfl) rfl rfl rfl rfl (Nat.le_of_ble_eq_true rfl) dX1_finest_14 (fun r u hp => ?_)
    obtain rfl := hp
    have eO : (ts_req (ts_in x0 8) jj_IO) = some jj_IO := by
      first
        | (simp [ts_req, c9f]; done)
        | (simp [ts_req, c9f]
           repeat' split
           all_goals simp_all)
    rw [eO, ts_cdIO] at hret
    exact hret _ _ _ z dX1_finest_17 (by rfl) rfl
