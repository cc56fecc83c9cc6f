/-! ===== the reference's calls: what they answer and how they fail ===== -/
def ts_if {α : Type} (o : Option String) (x y : α) : α := match o with
  | none => x
  | some _ => y
def ts_cd (A B C : Nat) (o : Option String) : Int32 := match o with
  | none => nI 0
  | some e => if e = jj_IO then nI A else if e = jj_IA then nI B else nI C
theorem ts_cd0 (A B C : Nat) : ts_cd A B C none = nI 0 := rfl
theorem ts_cdIO (A B C : Nat) : ts_cd A B C (some jj_IO) = nI A := by
  show (if jj_IO = jj_IO then nI A else if jj_IO = jj_IA then nI B else nI C) = nI A
  rw [if_pos rfl]
theorem ts_cdIA (A B C : Nat) : ts_cd A B C (some jj_IA) = nI B := by
  show (if jj_IA = jj_IO then nI A else if jj_IA = jj_IA then nI B else nI C) = nI B
  rw [if_neg (by decide), if_pos rfl]
theorem ts_cdIS (A B C : Nat) : ts_cd A B C (some jj_IS) = nI C := by
  show (if jj_IS = jj_IO then nI A else if jj_IS = jj_IA then nI B else nI C) = nI C
  rw [if_neg (by decide), if_neg (by decide)]
theorem mm_isInN (l : Launch) (D : va_G) (c1 c2 c3 : ClassId) (x : Int32) (N : Nat) (hN : N + 1 < 2 ^ 30) : jj_M l D (ts_T c1 c2 c3) yX1_isIn wsX1_isIn rX1_isIn [.int x, .int (nI 0), .int (nI N)] ([]) Unit (fun r _ => r = ts_b (ts_in x (N + 1))) (fun _ => []) := by
  rw [← ts_in_isIn hN, show nI (N + 1) - nI 1 = nI N from nI_pred N]
  exact mm_isIn l D c1 c2 c3 x (nI 0) (nI N)
theorem ts_rg_isIn {x : Int32} {lo hi : Nat} (h1 : lo < 2 ^ 31) (h2 : hi < 2 ^ 31) : decide (nI lo ≤ x ∧ x ≤ nI hi) = ts_rg x lo hi := by
  have e : (nI lo ≤ x ∧ x ≤ nI hi) ↔ ((lo : Int) ≤ x.toInt ∧ x.toInt ≤ (hi : Int)) := by
    rw [Int32.le_iff_toInt_le, Int32.le_iff_toInt_le, nI_toInt h1, nI_toInt h2]
  unfold ts_rg
  exact decide_eq_decide.mpr e
theorem mm_isInR (l : Launch) (D : va_G) (c1 c2 c3 : ClassId) (x : Int32) (lo hi : Nat) (h1 : lo < 2 ^ 31) (h2 : hi < 2 ^ 31) : jj_M l D (ts_T c1 c2 c3) yX1_isIn wsX1_isIn rX1_isIn [.int x, .int (nI lo), .int (nI hi)] ([]) Unit (fun r _ => r = ts_b (ts_rg x lo hi)) (fun _ => []) := by
  rw [← ts_rg_isIn h1 h2]
  exact mm_isIn l D c1 c2 c3 x (nI lo) (nI hi)
theorem lkX1_like_28 : Cond.fieldLink RX1 28 RX1 (TX1 0).2.1 (TX1 0).2.2.1 ∈ wsX1_like := by decide +kernel
theorem lkX1_like_13 : Cond.fieldLink RX1 13 RX1 (TX1 4).2.1 (TX1 4).2.2.1 ∈ wsX1_like := by decide +kernel
theorem hinX1_like : ∀ w ∈ wsX10, w ∈ wsX1_like := by decide +kernel
set_option maxRecDepth 100000 in
set_option maxHeartbeats 4000000 in
theorem mo_like (l : Launch) (D : va_G) (b : Nat → Nat) (c1 c2 c3 : ClassId) (v : ts_V) (th : Int32) (z : Nat → Int32) (hI : ts_I v) (x0 x1 x2 : Int32) : jj_M l D (ts_T c1 c2 c3) yX1_like wsX1_like rX1_like [.ref (b 0), .int x0, .int x1, .int x2] (wm b c1 v th z) (Nat → Int32) (fun r _ => r = ts_if (((ts_req (ts_in x0 (ts_k v)) jj_IO).or (ts_req (ts_in x1 8) jj_IO)).or (ts_req (ts_in x2 6) jj_IA)) (nI (ts_li v (ts_N x0) (ts_N x1))) (nI 0)) (fun u => wm b c1 (ts_if (((ts_req (ts_in x0 (ts_k v)) jj_IO).or (ts_req (ts_in x1 8) jj_IO)).or (ts_req (ts_in x2 6) jj_IA)) ((ts_li' v (ts_up2 (ts_li v) (ts_N x0) (ts_N x1) (ts_N x2)))) v) (ts_cd 1 2 0 (((ts_req (ts_in x0 (ts_k v)) jj_IO).or (ts_req (ts_in x1 8) jj_IO)).or (ts_req (ts_in x2 6) jj_IA))) u) := by
  obtain ⟨hn, hk, hth, hwk, hli, hgr⟩ := id hI
  refine jj_met (cc := cX1_like) (nL := 5) (by decide) rfl (Nat.le_of_ble_eq_true rfl) (fun E Q hC hEl hED hD0 hret => ?_)
  show jj_J E 0 0 Q (wm b c1 v th z) 0 [(0, .ref (b 0)), (1, .int x0), (2, .int x1), (3, .int x2)] []
  refine jj_aload_n hC dX1_like_0 rfl ?_
  refine jj_iconst hC dX1_like_1 (v := nI 0) (by decide) ?_
  refine jj_put hC 0 0 dX1_like_2 (by rfl) rfl (by decide) lkX1_like_28 rfl hinX1_like tyX1_ok nmX1 rfl rfl rfl rfl (Nat.le_of_ble_eq_true rfl) (wm_p0 ..) ?_
  refine jj_aload_n hC dX1_like_5 rfl ?_
  refine jj_iload_n hC dX1_like_6 rfl ?_
  refine jj_calli hC (mm_isCollector _ _ b c1 c2 c3 v (nI 0) z hI x0) gX1_like_X1_isCollector rfl 1 (by decide +kernel) ⟨by decide, by decide, by decide, by decide⟩ 0 1 (by rfl) rfl rfl rfl rfl (Nat.le_of_ble_eq_true rfl) dX1_like_7 (fun r u hp => ?_)
  obtain rfl := hp
  refine jj_if_eqB hC dX1_like_10 (tgt := 20) (by decide) (fun c10t => ?_) (fun c10f => ?_)
  · refine jj_aload_n hC dX1_like_20 rfl ?_
    refine jj_iconst hC dX1_like_21 (v := nI 1) (by decide) ?_
    refine jj_calli hC (mm_fail _ _ b c1 c2 c3 v (nI 0) z (nI 1)) gX1_like_X1_fail rfl 1 (by decide +kernel) ⟨by decide, by decide, by decide, by decide⟩ 0 1 (by rfl) rfl rfl rfl rfl (Nat.le_of_ble_eq_true rfl) dX1_like_22 (fun r u hp => ?_)
    obtain rfl := hp
    have eO : (((ts_req (ts_in x0 (ts_k v)) jj_IO).or (ts_req (ts_in x1 8) jj_IO)).or (ts_req (ts_in x2 6) jj_IA)) = some jj_IO := by
      first
        | (simp [ts_req, c10t]; done)
        | (simp [ts_req, c10t]
           repeat' split
           all_goals simp_all)
    rw [eO, ts_cdIO] at hret
    exact hret _ _ _ z dX1_like_25 (by rfl) rfl
  · refine jj_iload_n hC dX1_like_13 rfl ?_
    refine jj_scalliN hC (mm_isSet _ _ c1 c2 c3 x1) gX1_like_X1_isSet rfl 1 (by decide +kernel) ⟨by decide, by decide, by decide, by decide⟩ rfl rfl rfl (Nat.le_of_ble_eq_true rfl) dX1_like_14 (fun r u hp => ?_)
    obtain rfl := hp
    refine jj_if_neB hC dX1_like_17 (tgt := 26) (by decide) (fun c17t => ?_) (fun c17f => ?_)
    · refine jj_iload_n hC dX1_like_26 rfl ?_
      refine jj_iconst hC dX1_like_27 (v := nI 0) (by decide) ?_
      refine jj_iconst hC dX1_like_28 (v := nI 5) (by decide) ?_
      refine jj_scalliN hC (mm_isInN _ _ c1 c2 c3 x2 5 (by decide)) gX1_like_X1_isIn rfl 3 (by decide +kernel) ⟨by decide, by decide, by decide, by decide⟩ rfl rfl rfl (Nat.le_of_ble_eq_true rfl) dX1_like_29 (fun r u hp => ?_)
      obtain rfl := hp
      refine jj_if_neB hC dX1_like_32 (tgt := 41) (by decide) (fun c32t => ?_) (fun c32f => ?_)
      · obtain ⟨j0, hj0, rfl⟩ := ts_in_of c10f (by omega)
        have eNj0 : ts_N (nI j0) = j0 := ts_N_nI (by omega)
        obtain ⟨j1, hj1, rfl⟩ := ts_in_of c17t (by omega)
        have eNj1 : ts_N (nI j1) = j1 := ts_N_nI (by omega)
        obtain ⟨j2, hj2, rfl⟩ := ts_in_of c32t (by omega)
        have eNj2 : ts_N (nI j2) = j2 := ts_N_nI (by omega)
        refine jj_aload_n hC dX1_like_41 rfl ?_
        refine jj_get hC 0 4 dX1_like_42 (by rfl) rfl (by decide) lkX1_like_13 rfl hinX1_like (by rfl) ?_
        refine jj_bipush hC dX1_like_45 (v := nI 8) (by decide) ?_
        refine jj_iload_n hC dX1_like_47 rfl ?_
        first | refine jj_imulN hC dX1_like_48 ?_ | refine jj_imul hC dX1_like_48 ?_
        refine jj_iload_n hC dX1_like_49 rfl ?_
        first | refine jj_iaddN hC dX1_like_50 ?_ | refine jj_iadd hC dX1_like_50 ?_
        refine jj_iald hC 2 0 dX1_like_51 (wm_g2 ..) rfl (by omega) (by decide) ?_
        rw [show (8 * j0 + j1) / 8 = j0 by omega, show (8 * j0 + j1) % 8 = j1 by omega]
        refine jj_istore hC dX1_like_52 (by decide) [1, 2, 3, 4, 0] (lv' := [(0, _), (1, _), (2, _), (3, _), (4, .int _)]) rfl ?_
        refine jj_aload_n hC dX1_like_54 rfl ?_
        refine jj_get hC 0 4 dX1_like_55 (by rfl) rfl (by decide) lkX1_like_13 rfl hinX1_like (by rfl) ?_
        refine jj_bipush hC dX1_like_58 (v := nI 8) (by decide) ?_
        refine jj_iload_n hC dX1_like_60 rfl ?_
        first | refine jj_imulN hC dX1_like_61 ?_ | refine jj_imul hC dX1_like_61 ?_
        refine jj_iload_n hC dX1_like_62 rfl ?_
        first | refine jj_iaddN hC dX1_like_63 ?_ | refine jj_iadd hC dX1_like_63 ?_
        refine jj_iload_n hC dX1_like_64 rfl ?_
        refine jj_iast hC 2 0 dX1_like_65 (wm_g2 ..) rfl (by omega) (by decide) (wm_s2 b c1 v (nI 0) z (ts_up2 (ts_li v) j0 j1 j2) _ (ts_flat8 (ts_li v) j0 j1 j2 (by omega))) ?_
        refine jj_iload hC dX1_like_66 rfl ?_
        simp only [eNj0, eNj1, eNj2] at hret
        have eO : (((ts_req (ts_in (nI j0) (ts_k v)) jj_IO).or (ts_req (ts_in (nI j1) 8) jj_IO)).or (ts_req (ts_in (nI j2) 6) jj_IA)) = none := by simp [ts_req, c10f, c17t, c32t]
        rw [eO] at hret
        exact hret _ _ _ z dX1_like_68 (by rfl) (rfl)
      · refine jj_aload_n hC dX1_like_35 rfl ?_
        refine jj_iconst hC dX1_like_36 (v := nI 2) (by decide) ?_
        refine jj_calli hC (mm_fail _ _ b c1 c2 c3 v (nI 0) z (nI 2)) gX1_like_X1_fail rfl 1 (by decide +kernel) ⟨by decide, by decide, by decide, by decide⟩ 0 1 (by rfl) rfl rfl rfl rfl (Nat.le_of_ble_eq_true rfl) dX1_like_37 (fun r u hp => ?_)
        obtain rfl := hp
        have eO : (((ts_req (ts_in x0 (ts_k v)) jj_IO).or (ts_req (ts_in x1 8) jj_IO)).or (ts_req (ts_in x2 6) jj_IA)) = some jj_IA := by
          first
            | (simp [ts_req, c10f, c17t, c32f]; done)
            | (simp [ts_req, c10f, c17t, c32f]
               repeat' split
               all_goals simp_all)
        rw [eO, ts_cdIA] at hret
        exact hret _ _ _ z dX1_like_40 (by rfl) rfl
    · refine jj_aload_n hC dX1_like_20 rfl ?_
      refine jj_iconst hC dX1_like_21 (v := nI 1) (by decide) ?_
      refine jj_calli hC (mm_fail _ _ b c1 c2 c3 v (nI 0) z (nI 1)) gX1_like_X1_fail rfl 1 (by decide +kernel) ⟨by decide, by decide, by decide, by decide⟩ 0 1 (by rfl) rfl rfl rfl rfl (Nat.le_of_ble_eq_true rfl) dX1_like_22 (fun r u hp => ?_)
      obtain rfl := hp
      have eO : (((ts_req (ts_in x0 (ts_k v)) jj_IO).or (ts_req (ts_in x1 8) jj_IO)).or (ts_req (ts_in x2 6) jj_IA)) = some jj_IO := by
        first
          | (simp [ts_req, c10f, c17f]; done)
          | (simp [ts_req, c10f, c17f]
             repeat' split
             all_goals simp_all)
      rw [eO, ts_cdIO] at hret
      exact hret _ _ _ z dX1_like_25 (by rfl) rfl
theorem lkX1_grudge_28 : Cond.fieldLink RX1 28 RX1 (TX1 0).2.1 (TX1 0).2.2.1 ∈ wsX1_grudge := by decide +kernel
theorem lkX1_grudge_16 : Cond.fieldLink RX1 16 RX1 (TX1 5).2.1 (TX1 5).2.2.1 ∈ wsX1_grudge := by decide +kernel
theorem hinX1_grudge : ∀ w ∈ wsX10, w ∈ wsX1_grudge := by decide +kernel
set_option maxRecDepth 100000 in
set_option maxHeartbeats 4000000 in
theorem mo_grudge (l : Launch) (D : va_G) (b : Nat → Nat) (c1 c2 c3 : ClassId) (v : ts_V) (th : Int32) (z : Nat → Int32) (hI : ts_I v) (x0 x1 : Int32) : jj_M l D (ts_T c1 c2 c3) yX1_grudge wsX1_grudge rX1_grudge [.ref (b 0), .int x0, .int x1] (wm b c1 v th z) (Nat → Int32) (fun r _ => r = ts_if ((ts_req (ts_in x0 (ts_k v)) jj_IO).or (ts_req (ts_in x1 (ts_k v)) jj_IO)) (nI (ts_gr v (ts_N x0) (ts_N x1))) (nI 0)) (fun u => wm b c1 (ts_if ((ts_req (ts_in x0 (ts_k v)) jj_IO).or (ts_req (ts_in x1 (ts_k v)) jj_IO)) (v) v) (ts_cd 1 0 0 ((ts_req (ts_in x0 (ts_k v)) jj_IO).or (ts_req (ts_in x1 (ts_k v)) jj_IO))) u) := by
  obtain ⟨hn, hk, hth, hwk, hli, hgr⟩ := id hI
  refine jj_met (cc := cX1_grudge) (nL := 3) (by decide) rfl (Nat.le_of_ble_eq_true rfl) (fun E Q hC hEl hED hD0 hret => ?_)
  show jj_J E 0 0 Q (wm b c1 v th z) 0 [(0, .ref (b 0)), (1, .int x0), (2, .int x1)] []
  refine jj_aload_n hC dX1_grudge_0 rfl ?_
  refine jj_iconst hC dX1_grudge_1 (v := nI 0) (by decide) ?_
  refine jj_put hC 0 0 dX1_grudge_2 (by rfl) rfl (by decide) lkX1_grudge_28 rfl hinX1_grudge tyX1_ok nmX1 rfl rfl rfl rfl (Nat.le_of_ble_eq_true rfl) (wm_p0 ..) ?_
  refine jj_aload_n hC dX1_grudge_5 rfl ?_
  refine jj_iload_n hC dX1_grudge_6 rfl ?_
  refine jj_calli hC (mm_isCollector _ _ b c1 c2 c3 v (nI 0) z hI x0) gX1_grudge_X1_isCollector rfl 1 (by decide +kernel) ⟨by decide, by decide, by decide, by decide⟩ 0 1 (by rfl) rfl rfl rfl rfl (Nat.le_of_ble_eq_true rfl) dX1_grudge_7 (fun r u hp => ?_)
  obtain rfl := hp
  refine jj_if_eqB hC dX1_grudge_10 (tgt := 35) (by decide) (fun c10t => ?_) (fun c10f => ?_)
  · refine jj_aload_n hC dX1_grudge_35 rfl ?_
    refine jj_iconst hC dX1_grudge_36 (v := nI 1) (by decide) ?_
    refine jj_calli hC (mm_fail _ _ b c1 c2 c3 v (nI 0) z (nI 1)) gX1_grudge_X1_fail rfl 1 (by decide +kernel) ⟨by decide, by decide, by decide, by decide⟩ 0 1 (by rfl) rfl rfl rfl rfl (Nat.le_of_ble_eq_true rfl) dX1_grudge_37 (fun r u hp => ?_)
    obtain rfl := hp
    have eO : ((ts_req (ts_in x0 (ts_k v)) jj_IO).or (ts_req (ts_in x1 (ts_k v)) jj_IO)) = some jj_IO := by
      first
        | (simp [ts_req, c10t]; done)
        | (simp [ts_req, c10t]
           repeat' split
           all_goals simp_all)
    rw [eO, ts_cdIO] at hret
    exact hret _ _ _ z dX1_grudge_40 (by rfl) rfl
  · refine jj_aload_n hC dX1_grudge_13 rfl ?_
    refine jj_iload_n hC dX1_grudge_14 rfl ?_
    refine jj_calli hC (mm_isCollector _ _ b c1 c2 c3 v (nI 0) z hI x1) gX1_grudge_X1_isCollector rfl 1 (by decide +kernel) ⟨by decide, by decide, by decide, by decide⟩ 0 1 (by rfl) rfl rfl rfl rfl (Nat.le_of_ble_eq_true rfl) dX1_grudge_15 (fun r u hp => ?_)
    obtain rfl := hp
    refine jj_if_eqB hC dX1_grudge_18 (tgt := 35) (by decide) (fun c18t => ?_) (fun c18f => ?_)
    · refine jj_aload_n hC dX1_grudge_35 rfl ?_
      refine jj_iconst hC dX1_grudge_36 (v := nI 1) (by decide) ?_
      refine jj_calli hC (mm_fail _ _ b c1 c2 c3 v (nI 0) z (nI 1)) gX1_grudge_X1_fail rfl 1 (by decide +kernel) ⟨by decide, by decide, by decide, by decide⟩ 0 1 (by rfl) rfl rfl rfl rfl (Nat.le_of_ble_eq_true rfl) dX1_grudge_37 (fun r u hp => ?_)
      obtain rfl := hp
      have eO : ((ts_req (ts_in x0 (ts_k v)) jj_IO).or (ts_req (ts_in x1 (ts_k v)) jj_IO)) = some jj_IO := by
        first
          | (simp [ts_req, c10f, c18t]; done)
          | (simp [ts_req, c10f, c18t]
             repeat' split
             all_goals simp_all)
      rw [eO, ts_cdIO] at hret
      exact hret _ _ _ z dX1_grudge_40 (by rfl) rfl
    · obtain ⟨j0, hj0, rfl⟩ := ts_in_of c10f (by omega)
      have eNj0 : ts_N (nI j0) = j0 := ts_N_nI (by omega)
      obtain ⟨j1, hj1, rfl⟩ := ts_in_of c18f (by omega)
      have eNj1 : ts_N (nI j1) = j1 := ts_N_nI (by omega)
      refine jj_aload_n hC dX1_grudge_21 rfl ?_
      refine jj_get hC 0 5 dX1_grudge_22 (by rfl) rfl (by decide) lkX1_grudge_16 rfl hinX1_grudge (by rfl) ?_
      refine jj_bipush hC dX1_grudge_25 (v := nI 7) (by decide) ?_
      refine jj_iload_n hC dX1_grudge_27 rfl ?_
      first | refine jj_imulN hC dX1_grudge_28 ?_ | refine jj_imul hC dX1_grudge_28 ?_
      refine jj_iload_n hC dX1_grudge_29 rfl ?_
      first | refine jj_iaddN hC dX1_grudge_30 ?_ | refine jj_iadd hC dX1_grudge_30 ?_
      refine jj_iald hC 3 0 dX1_grudge_31 (wm_g3 ..) rfl (by omega) (by decide) ?_
      rw [show (7 * j0 + j1) / 7 = j0 by omega, show (7 * j0 + j1) % 7 = j1 by omega]
      refine jj_goto hC dX1_grudge_32 (tgt := 40) (by decide) ?_
      simp only [eNj0, eNj1] at hret
      have eO : ((ts_req (ts_in (nI j0) (ts_k v)) jj_IO).or (ts_req (ts_in (nI j1) (ts_k v)) jj_IO)) = none := by simp [ts_req, c10f, c18f]
      rw [eO] at hret
      exact hret _ _ _ z dX1_grudge_40 (by rfl) (rfl)
theorem lkX1_thimble_28 : Cond.fieldLink RX1 28 RX1 (TX1 0).2.1 (TX1 0).2.2.1 ∈ wsX1_thimble := by decide +kernel
theorem hinX1_thimble : ∀ w ∈ wsX10, w ∈ wsX1_thimble := by decide +kernel
set_option maxRecDepth 100000 in
set_option maxHeartbeats 4000000 in
theorem mo_thimble (l : Launch) (D : va_G) (b : Nat → Nat) (c1 c2 c3 : ClassId) (v : ts_V) (th : Int32) (z : Nat → Int32) (hI : ts_I v) (x0 x1 : Int32) : jj_M l D (ts_T c1 c2 c3) yX1_thimble wsX1_thimble rX1_thimble [.ref (b 0), .int x0, .int x1] (wm b c1 v th z) (Nat → Int32) (fun r _ => r = ts_if ((ts_req (ts_in x0 (ts_n v)) jj_IO).or (ts_req (ts_in x1 6) jj_IO)) (ts_col v (ts_N x1) (ts_N x0)) (nI 0)) (fun u => wm b c1 (ts_if ((ts_req (ts_in x0 (ts_n v)) jj_IO).or (ts_req (ts_in x1 6) jj_IO)) (v) v) (ts_cd 1 0 0 ((ts_req (ts_in x0 (ts_n v)) jj_IO).or (ts_req (ts_in x1 6) jj_IO))) u) := by
  obtain ⟨hn, hk, hth, hwk, hli, hgr⟩ := id hI
  refine jj_met (cc := cX1_thimble) (nL := 3) (by decide) rfl (Nat.le_of_ble_eq_true rfl) (fun E Q hC hEl hED hD0 hret => ?_)
  show jj_J E 0 0 Q (wm b c1 v th z) 0 [(0, .ref (b 0)), (1, .int x0), (2, .int x1)] []
  refine jj_aload_n hC dX1_thimble_0 rfl ?_
  refine jj_iconst hC dX1_thimble_1 (v := nI 0) (by decide) ?_
  refine jj_put hC 0 0 dX1_thimble_2 (by rfl) rfl (by decide) lkX1_thimble_28 rfl hinX1_thimble tyX1_ok nmX1 rfl rfl rfl rfl (Nat.le_of_ble_eq_true rfl) (wm_p0 ..) ?_
  refine jj_aload_n hC dX1_thimble_5 rfl ?_
  refine jj_iload_n hC dX1_thimble_6 rfl ?_
  refine jj_calli hC (mm_isThimble _ _ b c1 c2 c3 v (nI 0) z hI x0) gX1_thimble_X1_isThimble rfl 1 (by decide +kernel) ⟨by decide, by decide, by decide, by decide⟩ 0 1 (by rfl) rfl rfl rfl rfl (Nat.le_of_ble_eq_true rfl) dX1_thimble_7 (fun r u hp => ?_)
  obtain rfl := hp
  refine jj_if_eqB hC dX1_thimble_10 (tgt := 31) (by decide) (fun c10t => ?_) (fun c10f => ?_)
  · refine jj_aload_n hC dX1_thimble_31 rfl ?_
    refine jj_iconst hC dX1_thimble_32 (v := nI 1) (by decide) ?_
    refine jj_calli hC (mm_fail _ _ b c1 c2 c3 v (nI 0) z (nI 1)) gX1_thimble_X1_fail rfl 1 (by decide +kernel) ⟨by decide, by decide, by decide, by decide⟩ 0 1 (by rfl) rfl rfl rfl rfl (Nat.le_of_ble_eq_true rfl) dX1_thimble_33 (fun r u hp => ?_)
    obtain rfl := hp
    have eO : ((ts_req (ts_in x0 (ts_n v)) jj_IO).or (ts_req (ts_in x1 6) jj_IO)) = some jj_IO := by
      first
        | (simp [ts_req, c10t]; done)
        | (simp [ts_req, c10t]
           repeat' split
           all_goals simp_all)
    rw [eO, ts_cdIO] at hret
    exact hret _ _ _ z dX1_thimble_36 (by rfl) rfl
  · refine jj_iload_n hC dX1_thimble_13 rfl ?_
    refine jj_iconst hC dX1_thimble_14 (v := nI 0) (by decide) ?_
    refine jj_iconst hC dX1_thimble_15 (v := nI 5) (by decide) ?_
    refine jj_scalliN hC (mm_isInN _ _ c1 c2 c3 x1 5 (by decide)) gX1_thimble_X1_isIn rfl 3 (by decide +kernel) ⟨by decide, by decide, by decide, by decide⟩ rfl rfl rfl (Nat.le_of_ble_eq_true rfl) dX1_thimble_16 (fun r u hp => ?_)
    obtain rfl := hp
    refine jj_if_eqB hC dX1_thimble_19 (tgt := 31) (by decide) (fun c19t => ?_) (fun c19f => ?_)
    · refine jj_aload_n hC dX1_thimble_31 rfl ?_
      refine jj_iconst hC dX1_thimble_32 (v := nI 1) (by decide) ?_
      refine jj_calli hC (mm_fail _ _ b c1 c2 c3 v (nI 0) z (nI 1)) gX1_thimble_X1_fail rfl 1 (by decide +kernel) ⟨by decide, by decide, by decide, by decide⟩ 0 1 (by rfl) rfl rfl rfl rfl (Nat.le_of_ble_eq_true rfl) dX1_thimble_33 (fun r u hp => ?_)
      obtain rfl := hp
      have eO : ((ts_req (ts_in x0 (ts_n v)) jj_IO).or (ts_req (ts_in x1 6) jj_IO)) = some jj_IO := by
        first
          | (simp [ts_req, c10f, c19t]; done)
          | (simp [ts_req, c10f, c19t]
             repeat' split
             all_goals simp_all)
      rw [eO, ts_cdIO] at hret
      exact hret _ _ _ z dX1_thimble_36 (by rfl) rfl
    · obtain ⟨j0, hj0, rfl⟩ := ts_in_of c10f (by omega)
      have eNj0 : ts_N (nI j0) = j0 := ts_N_nI (by omega)
      obtain ⟨j1, hj1, rfl⟩ := ts_in_of c19f (by omega)
      have eNj1 : ts_N (nI j1) = j1 := ts_N_nI (by omega)
      refine jj_aload_n hC dX1_thimble_22 rfl ?_
      refine jj_iload_n hC dX1_thimble_23 rfl ?_
      refine jj_iload_n hC dX1_thimble_24 rfl ?_
      refine jj_calli hC (mm_th _ _ b c1 c2 c3 v (nI 0) z j0 j1 (by omega) (by omega)) gX1_thimble_X1_th rfl 2 (by decide +kernel) ⟨by decide, by decide, by decide, by decide⟩ 0 1 (by rfl) rfl rfl rfl rfl (Nat.le_of_ble_eq_true rfl) dX1_thimble_25 (fun r u hp => ?_)
      obtain rfl := hp
      refine jj_goto hC dX1_thimble_28 (tgt := 36) (by decide) ?_
      simp only [eNj0, eNj1] at hret
      have eO : ((ts_req (ts_in (nI j0) (ts_n v)) jj_IO).or (ts_req (ts_in (nI j1) 6) jj_IO)) = none := by simp [ts_req, c10f, c19f]
      rw [eO] at hret
      exact hret _ _ _ z dX1_thimble_36 (by rfl) (rfl)
theorem lkX1_gains_28 : Cond.fieldLink RX1 28 RX1 (TX1 0).2.1 (TX1 0).2.2.1 ∈ wsX1_gains := by decide +kernel
theorem hinX1_gains : ∀ w ∈ wsX10, w ∈ wsX1_gains := by decide +kernel
set_option maxRecDepth 100000 in
set_option maxHeartbeats 4000000 in
theorem mo_gains (l : Launch) (D : va_G) (b : Nat → Nat) (c1 c2 c3 : ClassId) (v : ts_V) (th : Int32) (z : Nat → Int32) (hI : ts_I v) (x0 x1 : Int32) : jj_M l D (ts_T c1 c2 c3) yX1_gains wsX1_gains rX1_gains [.ref (b 0), .int x0, .int x1] (wm b c1 v th z) (Nat → Int32) (fun r _ => r = ts_if (((ts_req (ts_in x0 (ts_n v)) jj_IO).or (ts_req (ts_in x1 (ts_n v)) jj_IO)).or (ts_req (decide (¬ ts_ow v (ts_N x0) = ts_ow v (ts_N x1))) jj_IA)) (ts_gain v (ts_N x0) (ts_N x1)) (nI 0)) (fun u => wm b c1 (ts_if (((ts_req (ts_in x0 (ts_n v)) jj_IO).or (ts_req (ts_in x1 (ts_n v)) jj_IO)).or (ts_req (decide (¬ ts_ow v (ts_N x0) = ts_ow v (ts_N x1))) jj_IA)) (v) v) (ts_cd 1 2 0 (((ts_req (ts_in x0 (ts_n v)) jj_IO).or (ts_req (ts_in x1 (ts_n v)) jj_IO)).or (ts_req (decide (¬ ts_ow v (ts_N x0) = ts_ow v (ts_N x1))) jj_IA))) u) := by
  obtain ⟨hn, hk, hth, hwk, hli, hgr⟩ := id hI
  refine jj_met (cc := cX1_gains) (nL := 3) (by decide) rfl (Nat.le_of_ble_eq_true rfl) (fun E Q hC hEl hED hD0 hret => ?_)
  show jj_J E 0 0 Q (wm b c1 v th z) 0 [(0, .ref (b 0)), (1, .int x0), (2, .int x1)] []
  refine jj_aload_n hC dX1_gains_0 rfl ?_
  refine jj_iconst hC dX1_gains_1 (v := nI 0) (by decide) ?_
  refine jj_put hC 0 0 dX1_gains_2 (by rfl) rfl (by decide) lkX1_gains_28 rfl hinX1_gains tyX1_ok nmX1 rfl rfl rfl rfl (Nat.le_of_ble_eq_true rfl) (wm_p0 ..) ?_
  refine jj_aload_n hC dX1_gains_5 rfl ?_
  refine jj_iload_n hC dX1_gains_6 rfl ?_
  refine jj_calli hC (mm_isThimble _ _ b c1 c2 c3 v (nI 0) z hI x0) gX1_gains_X1_isThimble rfl 1 (by decide +kernel) ⟨by decide, by decide, by decide, by decide⟩ 0 1 (by rfl) rfl rfl rfl rfl (Nat.le_of_ble_eq_true rfl) dX1_gains_7 (fun r u hp => ?_)
  obtain rfl := hp
  refine jj_if_eqB hC dX1_gains_10 (tgt := 21) (by decide) (fun c10t => ?_) (fun c10f => ?_)
  · refine jj_aload_n hC dX1_gains_21 rfl ?_
    refine jj_iconst hC dX1_gains_22 (v := nI 1) (by decide) ?_
    refine jj_calli hC (mm_fail _ _ b c1 c2 c3 v (nI 0) z (nI 1)) gX1_gains_X1_fail rfl 1 (by decide +kernel) ⟨by decide, by decide, by decide, by decide⟩ 0 1 (by rfl) rfl rfl rfl rfl (Nat.le_of_ble_eq_true rfl) dX1_gains_23 (fun r u hp => ?_)
    obtain rfl := hp
    have eO : (((ts_req (ts_in x0 (ts_n v)) jj_IO).or (ts_req (ts_in x1 (ts_n v)) jj_IO)).or (ts_req (decide (¬ ts_ow v (ts_N x0) = ts_ow v (ts_N x1))) jj_IA)) = some jj_IO := by
      first
        | (simp [ts_req, c10t]; done)
        | (simp [ts_req, c10t]
           repeat' split
           all_goals simp_all)
    rw [eO, ts_cdIO] at hret
    exact hret _ _ _ z dX1_gains_26 (by rfl) rfl
  · refine jj_aload_n hC dX1_gains_13 rfl ?_
    refine jj_iload_n hC dX1_gains_14 rfl ?_
    refine jj_calli hC (mm_isThimble _ _ b c1 c2 c3 v (nI 0) z hI x1) gX1_gains_X1_isThimble rfl 1 (by decide +kernel) ⟨by decide, by decide, by decide, by decide⟩ 0 1 (by rfl) rfl rfl rfl rfl (Nat.le_of_ble_eq_true rfl) dX1_gains_15 (fun r u hp => ?_)
    obtain rfl := hp
    refine jj_if_neB hC dX1_gains_18 (tgt := 27) (by decide) (fun c18t => ?_) (fun c18f => ?_)
    · obtain ⟨j0, hj0, rfl⟩ := ts_in_of c10f (by omega)
      have eNj0 : ts_N (nI j0) = j0 := ts_N_nI (by omega)
      obtain ⟨j1, hj1, rfl⟩ := ts_in_of c18t (by omega)
      have eNj1 : ts_N (nI j1) = j1 := ts_N_nI (by omega)
      have hb0 := hth j0 hj0
      have hb1 := hth j1 hj1
      refine jj_aload_n hC dX1_gains_27 rfl ?_
      refine jj_iload_n hC dX1_gains_28 rfl ?_
      refine jj_iconst hC dX1_gains_29 (v := nI 4) (by decide) ?_
      refine jj_calli hC (mm_th4 _ _ b c1 c2 c3 v (nI 0) z j0 (by omega)) gX1_gains_X1_th rfl 2 (by decide +kernel) ⟨by decide, by decide, by decide, by decide⟩ 0 1 (by rfl) rfl rfl rfl rfl (Nat.le_of_ble_eq_true rfl) dX1_gains_30 (fun r u hp => ?_)
      obtain rfl := hp
      refine jj_aload_n hC dX1_gains_33 rfl ?_
      refine jj_iload_n hC dX1_gains_34 rfl ?_
      refine jj_iconst hC dX1_gains_35 (v := nI 4) (by decide) ?_
      refine jj_calli hC (mm_th4 _ _ b c1 c2 c3 v (nI 0) z j1 (by omega)) gX1_gains_X1_th rfl 2 (by decide +kernel) ⟨by decide, by decide, by decide, by decide⟩ 0 1 (by rfl) rfl rfl rfl rfl (Nat.le_of_ble_eq_true rfl) dX1_gains_36 (fun r u hp => ?_)
      obtain rfl := hp
      first | refine jj_icmp_neN hC dX1_gains_39 (tgt := 50) (by decide) (by omega) (by omega) (fun c39t => ?_) (fun c39f => ?_) | refine jj_icmp_ne hC dX1_gains_39 (tgt := 50) (by decide) (fun c39t => ?_) (fun c39f => ?_)
      · refine jj_aload_n hC dX1_gains_50 rfl ?_
        refine jj_iload_n hC dX1_gains_51 rfl ?_
        refine jj_iload_n hC dX1_gains_52 rfl ?_
        refine jj_calli hC (mm_gain _ _ b c1 c2 c3 v (nI 0) z hI j0 j1 hj0 hj1 c39t) gX1_gains_X1_gain rfl 2 (by decide +kernel) ⟨by decide, by decide, by decide, by decide⟩ 0 1 (by rfl) rfl rfl rfl rfl (Nat.le_of_ble_eq_true rfl) dX1_gains_53 (fun r u hp => ?_)
        obtain rfl := hp
        revert u
        intro z1
        simp only [eNj0, eNj1] at hret
        have eO : (((ts_req (ts_in (nI j0) (ts_n v)) jj_IO).or (ts_req (ts_in (nI j1) (ts_n v)) jj_IO)).or (ts_req (decide (¬ ts_ow v j0 = ts_ow v j1)) jj_IA)) = none := by simp [ts_req, c10f, c18t, c39t]
        rw [eO] at hret
        exact hret _ _ _ z1 dX1_gains_56 (by rfl) (rfl)
      · refine jj_aload_n hC dX1_gains_42 rfl ?_
        refine jj_iconst hC dX1_gains_43 (v := nI 2) (by decide) ?_
        refine jj_calli hC (mm_fail _ _ b c1 c2 c3 v (nI 0) z (nI 2)) gX1_gains_X1_fail rfl 1 (by decide +kernel) ⟨by decide, by decide, by decide, by decide⟩ 0 1 (by rfl) rfl rfl rfl rfl (Nat.le_of_ble_eq_true rfl) dX1_gains_44 (fun r u hp => ?_)
        obtain rfl := hp
        refine jj_goto hC dX1_gains_47 (tgt := 56) (by decide) ?_
        simp only [eNj0, eNj1] at hret
        have eO : (((ts_req (ts_in (nI j0) (ts_n v)) jj_IO).or (ts_req (ts_in (nI j1) (ts_n v)) jj_IO)).or (ts_req (decide (¬ ts_ow v j0 = ts_ow v j1)) jj_IA)) = some jj_IA := by
          first
            | (simp [ts_req, c10f, c18t, c39f]; done)
            | (simp [ts_req, c10f, c18t, c39f]
               repeat' split
               all_goals simp_all)
        rw [eO, ts_cdIA] at hret
        exact hret _ _ _ z dX1_gains_56 (by rfl) rfl
    · refine jj_aload_n hC dX1_gains_21 rfl ?_
      refine jj_iconst hC dX1_gains_22 (v := nI 1) (by decide) ?_
      refine jj_calli hC (mm_fail _ _ b c1 c2 c3 v (nI 0) z (nI 1)) gX1_gains_X1_fail rfl 1 (by decide +kernel) ⟨by decide, by decide, by decide, by decide⟩ 0 1 (by rfl) rfl rfl rfl rfl (Nat.le_of_ble_eq_true rfl) dX1_gains_23 (fun r u hp => ?_)
      obtain rfl := hp
      have eO : (((ts_req (ts_in x0 (ts_n v)) jj_IO).or (ts_req (ts_in x1 (ts_n v)) jj_IO)).or (ts_req (decide (¬ ts_ow v (ts_N x0) = ts_ow v (ts_N x1))) jj_IA)) = some jj_IO := by
        first
          | (simp [ts_req, c10f, c18f]; done)
          | (simp [ts_req, c10f, c18f]
             repeat' split
             all_goals simp_all)
      rw [eO, ts_cdIO] at hret
      exact hret _ _ _ z dX1_gains_26 (by rfl) rfl
theorem lkX1_swap_28 : Cond.fieldLink RX1 28 RX1 (TX1 0).2.1 (TX1 0).2.2.1 ∈ wsX1_swap := by decide +kernel
theorem hinX1_swap : ∀ w ∈ wsX10, w ∈ wsX1_swap := by decide +kernel
set_option maxRecDepth 100000 in
set_option maxHeartbeats 4000000 in
theorem mo_swap (l : Launch) (D : va_G) (b : Nat → Nat) (c1 c2 c3 : ClassId) (v : ts_V) (th : Int32) (z : Nat → Int32) (hI : ts_I v) (x0 x1 : Int32) : jj_M l D (ts_T c1 c2 c3) yX1_swap wsX1_swap rX1_swap [.ref (b 0), .int x0, .int x1] (wm b c1 v th z) (Nat → Int32) (fun r _ => r = ts_if (((((ts_req (ts_in x0 (ts_n v)) jj_IO).or (ts_req (ts_in x1 (ts_n v)) jj_IO)).or (ts_req (decide (¬ ts_ow v (ts_N x0) = ts_ow v (ts_N x1))) jj_IA)).or (ts_req (!(ts_lt v (ts_N x0))) jj_IS)).or (ts_req (!(ts_lt v (ts_N x1))) jj_IS)) ((ts_rs v (ts_N x0) (ts_N x1)).1) (nI 0)) (fun u => wm b c1 (ts_if (((((ts_req (ts_in x0 (ts_n v)) jj_IO).or (ts_req (ts_in x1 (ts_n v)) jj_IO)).or (ts_req (decide (¬ ts_ow v (ts_N x0) = ts_ow v (ts_N x1))) jj_IA)).or (ts_req (!(ts_lt v (ts_N x0))) jj_IS)).or (ts_req (!(ts_lt v (ts_N x1))) jj_IS)) ((ts_rs v (ts_N x0) (ts_N x1)).2) v) (ts_cd 1 2 3 (((((ts_req (ts_in x0 (ts_n v)) jj_IO).or (ts_req (ts_in x1 (ts_n v)) jj_IO)).or (ts_req (decide (¬ ts_ow v (ts_N x0) = ts_ow v (ts_N x1))) jj_IA)).or (ts_req (!(ts_lt v (ts_N x0))) jj_IS)).or (ts_req (!(ts_lt v (ts_N x1))) jj_IS))) u) := by
  obtain ⟨hn, hk, hth, hwk, hli, hgr⟩ := id hI
  refine jj_met (cc := cX1_swap) (nL := 3) (by decide) rfl (Nat.le_of_ble_eq_true rfl) (fun E Q hC hEl hED hD0 hret => ?_)
  show jj_J E 0 0 Q (wm b c1 v th z) 0 [(0, .ref (b 0)), (1, .int x0), (2, .int x1)] []
  refine jj_aload_n hC dX1_swap_0 rfl ?_
  refine jj_iconst hC dX1_swap_1 (v := nI 0) (by decide) ?_
  refine jj_put hC 0 0 dX1_swap_2 (by rfl) rfl (by decide) lkX1_swap_28 rfl hinX1_swap tyX1_ok nmX1 rfl rfl rfl rfl (Nat.le_of_ble_eq_true rfl) (wm_p0 ..) ?_
  refine jj_aload_n hC dX1_swap_5 rfl ?_
  refine jj_iload_n hC dX1_swap_6 rfl ?_
  refine jj_calli hC (mm_isThimble _ _ b c1 c2 c3 v (nI 0) z hI x0) gX1_swap_X1_isThimble rfl 1 (by decide +kernel) ⟨by decide, by decide, by decide, by decide⟩ 0 1 (by rfl) rfl rfl rfl rfl (Nat.le_of_ble_eq_true rfl) dX1_swap_7 (fun r u hp => ?_)
  obtain rfl := hp
  refine jj_if_eqB hC dX1_swap_10 (tgt := 21) (by decide) (fun c10t => ?_) (fun c10f => ?_)
  · refine jj_aload_n hC dX1_swap_21 rfl ?_
    refine jj_iconst hC dX1_swap_22 (v := nI 1) (by decide) ?_
    refine jj_calli hC (mm_fail _ _ b c1 c2 c3 v (nI 0) z (nI 1)) gX1_swap_X1_fail rfl 1 (by decide +kernel) ⟨by decide, by decide, by decide, by decide⟩ 0 1 (by rfl) rfl rfl rfl rfl (Nat.le_of_ble_eq_true rfl) dX1_swap_23 (fun r u hp => ?_)
    obtain rfl := hp
    have eO : (((((ts_req (ts_in x0 (ts_n v)) jj_IO).or (ts_req (ts_in x1 (ts_n v)) jj_IO)).or (ts_req (decide (¬ ts_ow v (ts_N x0) = ts_ow v (ts_N x1))) jj_IA)).or (ts_req (!(ts_lt v (ts_N x0))) jj_IS)).or (ts_req (!(ts_lt v (ts_N x1))) jj_IS)) = some jj_IO := by
      first
        | (simp [ts_req, c10t]; done)
        | (simp [ts_req, c10t]
           repeat' split
           all_goals simp_all)
    rw [eO, ts_cdIO] at hret
    exact hret _ _ _ z dX1_swap_26 (by rfl) rfl
  · refine jj_aload_n hC dX1_swap_13 rfl ?_
    refine jj_iload_n hC dX1_swap_14 rfl ?_
    refine jj_calli hC (mm_isThimble _ _ b c1 c2 c3 v (nI 0) z hI x1) gX1_swap_X1_isThimble rfl 1 (by decide +kernel) ⟨by decide, by decide, by decide, by decide⟩ 0 1 (by rfl) rfl rfl rfl rfl (Nat.le_of_ble_eq_true rfl) dX1_swap_15 (fun r u hp => ?_)
    obtain rfl := hp
    refine jj_if_neB hC dX1_swap_18 (tgt := 27) (by decide) (fun c18t => ?_) (fun c18f => ?_)
    · obtain ⟨j0, hj0, rfl⟩ := ts_in_of c10f (by omega)
      have eNj0 : ts_N (nI j0) = j0 := ts_N_nI (by omega)
      obtain ⟨j1, hj1, rfl⟩ := ts_in_of c18t (by omega)
      have eNj1 : ts_N (nI j1) = j1 := ts_N_nI (by omega)
      have hb0 := hth j0 hj0
      have hb1 := hth j1 hj1
      refine jj_aload_n hC dX1_swap_27 rfl ?_
      refine jj_iload_n hC dX1_swap_28 rfl ?_
      refine jj_iconst hC dX1_swap_29 (v := nI 4) (by decide) ?_
      refine jj_calli hC (mm_th4 _ _ b c1 c2 c3 v (nI 0) z j0 (by omega)) gX1_swap_X1_th rfl 2 (by decide +kernel) ⟨by decide, by decide, by decide, by decide⟩ 0 1 (by rfl) rfl rfl rfl rfl (Nat.le_of_ble_eq_true rfl) dX1_swap_30 (fun r u hp => ?_)
      obtain rfl := hp
      refine jj_aload_n hC dX1_swap_33 rfl ?_
      refine jj_iload_n hC dX1_swap_34 rfl ?_
      refine jj_iconst hC dX1_swap_35 (v := nI 4) (by decide) ?_
      refine jj_calli hC (mm_th4 _ _ b c1 c2 c3 v (nI 0) z j1 (by omega)) gX1_swap_X1_th rfl 2 (by decide +kernel) ⟨by decide, by decide, by decide, by decide⟩ 0 1 (by rfl) rfl rfl rfl rfl (Nat.le_of_ble_eq_true rfl) dX1_swap_36 (fun r u hp => ?_)
      obtain rfl := hp
      first | refine jj_icmp_neN hC dX1_swap_39 (tgt := 48) (by decide) (by omega) (by omega) (fun c39t => ?_) (fun c39f => ?_) | refine jj_icmp_ne hC dX1_swap_39 (tgt := 48) (by decide) (fun c39t => ?_) (fun c39f => ?_)
      · refine jj_aload_n hC dX1_swap_48 rfl ?_
        refine jj_iload_n hC dX1_swap_49 rfl ?_
        refine jj_calli hC (mm_isLent _ _ b c1 c2 c3 v (nI 0) z j0 (by omega)) gX1_swap_X1_isLent rfl 1 (by decide +kernel) ⟨by decide, by decide, by decide, by decide⟩ 0 1 (by rfl) rfl rfl rfl rfl (Nat.le_of_ble_eq_true rfl) dX1_swap_50 (fun r u hp => ?_)
        obtain rfl := hp
        refine jj_if_neB hC dX1_swap_53 (tgt := 64) (by decide) (fun c53t => ?_) (fun c53f => ?_)
        · refine jj_aload_n hC dX1_swap_64 rfl ?_
          refine jj_iconst hC dX1_swap_65 (v := nI 3) (by decide) ?_
          refine jj_calli hC (mm_fail _ _ b c1 c2 c3 v (nI 0) z (nI 3)) gX1_swap_X1_fail rfl 1 (by decide +kernel) ⟨by decide, by decide, by decide, by decide⟩ 0 1 (by rfl) rfl rfl rfl rfl (Nat.le_of_ble_eq_true rfl) dX1_swap_66 (fun r u hp => ?_)
          obtain rfl := hp
          refine jj_goto hC dX1_swap_69 (tgt := 78) (by decide) ?_
          simp only [eNj0, eNj1] at hret
          have eO : (((((ts_req (ts_in (nI j0) (ts_n v)) jj_IO).or (ts_req (ts_in (nI j1) (ts_n v)) jj_IO)).or (ts_req (decide (¬ ts_ow v j0 = ts_ow v j1)) jj_IA)).or (ts_req (!(ts_lt v j0)) jj_IS)).or (ts_req (!(ts_lt v j1)) jj_IS)) = some jj_IS := by
            first
              | (simp [ts_req, c10f, c18t, c39t, c53t]; done)
              | (simp [ts_req, c10f, c18t, c39t, c53t]
                 repeat' split
                 all_goals simp_all)
          rw [eO, ts_cdIS] at hret
          exact hret _ _ _ z dX1_swap_78 (by rfl) rfl
        · refine jj_aload_n hC dX1_swap_56 rfl ?_
          refine jj_iload_n hC dX1_swap_57 rfl ?_
          refine jj_calli hC (mm_isLent _ _ b c1 c2 c3 v (nI 0) z j1 (by omega)) gX1_swap_X1_isLent rfl 1 (by decide +kernel) ⟨by decide, by decide, by decide, by decide⟩ 0 1 (by rfl) rfl rfl rfl rfl (Nat.le_of_ble_eq_true rfl) dX1_swap_58 (fun r u hp => ?_)
          obtain rfl := hp
          refine jj_if_eqB hC dX1_swap_61 (tgt := 72) (by decide) (fun c61t => ?_) (fun c61f => ?_)
          · refine jj_aload_n hC dX1_swap_72 rfl ?_
            refine jj_iload_n hC dX1_swap_73 rfl ?_
            refine jj_iload_n hC dX1_swap_74 rfl ?_
            refine jj_calli hC (mm_swapped _ _ b c1 c2 c3 v (nI 0) z hI j0 j1 hj0 hj1 c39t) gX1_swap_X1_swapped rfl 2 (by decide +kernel) ⟨by decide, by decide, by decide, by decide⟩ 0 1 (by rfl) rfl rfl rfl rfl (Nat.le_of_ble_eq_true rfl) dX1_swap_75 (fun r u hp => ?_)
            obtain rfl := hp
            revert u
            intro z1
            simp only [eNj0, eNj1] at hret
            have eO : (((((ts_req (ts_in (nI j0) (ts_n v)) jj_IO).or (ts_req (ts_in (nI j1) (ts_n v)) jj_IO)).or (ts_req (decide (¬ ts_ow v j0 = ts_ow v j1)) jj_IA)).or (ts_req (!(ts_lt v j0)) jj_IS)).or (ts_req (!(ts_lt v j1)) jj_IS)) = none := by simp [ts_req, c10f, c18t, c39t, c53f, c61t]
            rw [eO] at hret
            exact hret _ _ _ z1 dX1_swap_78 (by rfl) (rfl)
          · refine jj_aload_n hC dX1_swap_64 rfl ?_
            refine jj_iconst hC dX1_swap_65 (v := nI 3) (by decide) ?_
            refine jj_calli hC (mm_fail _ _ b c1 c2 c3 v (nI 0) z (nI 3)) gX1_swap_X1_fail rfl 1 (by decide +kernel) ⟨by decide, by decide, by decide, by decide⟩ 0 1 (by rfl) rfl rfl rfl rfl (Nat.le_of_ble_eq_true rfl) dX1_swap_66 (fun r u hp => ?_)
            obtain rfl := hp
            refine jj_goto hC dX1_swap_69 (tgt := 78) (by decide) ?_
            simp only [eNj0, eNj1] at hret
            have eO : (((((ts_req (ts_in (nI j0) (ts_n v)) jj_IO).or (ts_req (ts_in (nI j1) (ts_n v)) jj_IO)).or (ts_req (decide (¬ ts_ow v j0 = ts_ow v j1)) jj_IA)).or (ts_req (!(ts_lt v j0)) jj_IS)).or (ts_req (!(ts_lt v j1)) jj_IS)) = some jj_IS := by
              first
                | (simp [ts_req, c10f, c18t, c39t, c53f, c61f]; done)
                | (simp [ts_req, c10f, c18t, c39t, c53f, c61f]
                   repeat' split
                   all_goals simp_all)
            rw [eO, ts_cdIS] at hret
            exact hret _ _ _ z dX1_swap_78 (by rfl) rfl
      · refine jj_aload_n hC dX1_swap_42 rfl ?_
        refine jj_iconst hC dX1_swap_43 (v := nI 2) (by decide) ?_
        refine jj_calli hC (mm_fail _ _ b c1 c2 c3 v (nI 0) z (nI 2)) gX1_swap_X1_fail rfl 1 (by decide +kernel) ⟨by decide, by decide, by decide, by decide⟩ 0 1 (by rfl) rfl rfl rfl rfl (Nat.le_of_ble_eq_true rfl) dX1_swap_44 (fun r u hp => ?_)
        obtain rfl := hp
        simp only [eNj0, eNj1] at hret
        have eO : (((((ts_req (ts_in (nI j0) (ts_n v)) jj_IO).or (ts_req (ts_in (nI j1) (ts_n v)) jj_IO)).or (ts_req (decide (¬ ts_ow v j0 = ts_ow v j1)) jj_IA)).or (ts_req (!(ts_lt v j0)) jj_IS)).or (ts_req (!(ts_lt v j1)) jj_IS)) = some jj_IA := by
          first
            | (simp [ts_req, c10f, c18t, c39f]; done)
            | (simp [ts_req, c10f, c18t, c39f]
               repeat' split
               all_goals simp_all)
        rw [eO, ts_cdIA] at hret
        exact hret _ _ _ z dX1_swap_47 (by rfl) rfl
    · refine jj_aload_n hC dX1_swap_21 rfl ?_
      refine jj_iconst hC dX1_swap_22 (v := nI 1) (by decide) ?_
      refine jj_calli hC (mm_fail _ _ b c1 c2 c3 v (nI 0) z (nI 1)) gX1_swap_X1_fail rfl 1 (by decide +kernel) ⟨by decide, by decide, by decide, by decide⟩ 0 1 (by rfl) rfl rfl rfl rfl (Nat.le_of_ble_eq_true rfl) dX1_swap_23 (fun r u hp => ?_)
      obtain rfl := hp
      have eO : (((((ts_req (ts_in x0 (ts_n v)) jj_IO).or (ts_req (ts_in x1 (ts_n v)) jj_IO)).or (ts_req (decide (¬ ts_ow v (ts_N x0) = ts_ow v (ts_N x1))) jj_IA)).or (ts_req (!(ts_lt v (ts_N x0))) jj_IS)).or (ts_req (!(ts_lt v (ts_N x1))) jj_IS)) = some jj_IO := by
        first
          | (simp [ts_req, c10f, c18f]; done)
          | (simp [ts_req, c10f, c18f]
             repeat' split
             all_goals simp_all)
      rw [eO, ts_cdIO] at hret
      exact hret _ _ _ z dX1_swap_26 (by rfl) rfl
theorem ts_gain_pos {v : ts_V} (hI : ts_I v) {x y c o : Nat} (h : ts_en v (ts_gain v x y) c o = true) : ∃ d : Nat, 0 < d ∧ d ≤ 3600 ∧ ts_gain v x y = nI d := by
  have h1 : nI (2 * ts_gr v c o) < ts_gain v x y := by simpa [ts_en] using h
  have h2 := ts_now_le hI (ts_ow v x)
  have h3 := ts_aft_le hI (ts_ow v x) x y
  have hg := (hI.2.2.2.2.2 c o).1
  unfold ts_gain at h1 ⊢
  rw [Int32.lt_iff_toInt_lt, nI_toInt (by omega), pk_sub_toInt (by omega) (by omega)] at h1
  exact ⟨ts_aft v (ts_ow v x) x y - ts_now v (ts_ow v x), by omega, by omega, pk_sub (by omega)⟩
theorem ts_both_pos {v : ts_V} (hI : ts_I v) {x y c o c2 o2 : Nat} (h : ts_en v (ts_gain v x y) c o = true) (h2 : ts_en v (ts_gain v y x) c2 o2 = true) : 0 < ts_gain v x y + ts_gain v y x := by
  obtain ⟨d, hd, hd2, e⟩ := ts_gain_pos hI h
  obtain ⟨f, hf, hf2, e2⟩ := ts_gain_pos hI h2
  rw [e, e2, nI_add]
  exact (nI_ltI (a := 0) (by decide) (by omega)).mpr (by omega)
theorem ts_bok_1 {v : ts_V} (hI : ts_I v) {c o : Nat} {s : Int32 × Int32} (h : ts_bok v c o s) (h1 : s.1 = -1) : s.2 = 0 := by
  rcases h with rfl | ⟨x, y, hg, rfl⟩
  · rfl
  · have hx := hg.1
    have hy := hg.2.1
    have hn := hI.1
    have h2 : nI (36 * x + y) = -1 := h1
    have h3 := congrArg Int32.toInt h2
    rw [nI_toInt (by omega)] at h3
    have e3 : (-1 : Int32).toInt = -1 := by decide
    omega
theorem lkX1_bestOf_39 : Cond.fieldLink RX1 39 RX1 (TX1 2).2.1 (TX1 2).2.2.1 ∈ wsX1_bestOf := by decide +kernel
theorem hinX1_bestOf : ∀ w ∈ wsX10, w ∈ wsX1_bestOf := by decide +kernel
set_option maxRecDepth 100000 in
set_option maxHeartbeats 4000000 in
theorem mm_bestOf (l : Launch) (D : va_G) (b : Nat → Nat) (c1 c2 c3 : ClassId) (v : ts_V) (th : Int32) (z : Nat → Int32) (hI : ts_I v) (c o : Nat) (hc : c < ts_k v) (ho : o < ts_k v) (hco : ¬ c = o) : jj_M l D (ts_T c1 c2 c3) yX1_bestOf wsX1_bestOf rX1_bestOf [.ref (b 0), .int (nI c), .int (nI o)] (wm b c1 v th z) (Nat → Int32) (fun x _ => x = ts_best v c o) (fun u => wm b c1 v th u) := by
  obtain ⟨hn, hk, hth, hwk, hli, hgr⟩ := id hI
  refine jj_met (cc := cX1_bestOf) (nL := 8) (by decide) rfl (Nat.le_of_ble_eq_true rfl) (fun E Q hC hEl hED hD0 hret => ?_)
  show jj_J E 0 0 Q (wm b c1 v th z) 0 [(0, .ref (b 0)), (1, .int (nI c)), (2, .int (nI o))] []
  refine jj_iconst hC dX1_bestOf_0 (v := -1) (by decide) ?_
  refine jj_istore_n hC dX1_bestOf_1 (by decide) [1, 2, 3, 0] (lv' := [(0, _), (1, _), (2, _), (3, .int _)]) rfl ?_
  refine jj_iconst hC dX1_bestOf_2 (v := nI 0) (by decide) ?_
  refine jj_istore hC dX1_bestOf_3 (by decide) [1, 2, 3, 4, 0] (lv' := [(0, _), (1, _), (2, _), (3, _), (4, .int _)]) rfl ?_
  refine jj_iconst hC dX1_bestOf_5 (v := nI 0) (by decide) ?_
  refine jj_istore hC dX1_bestOf_6 (by decide) [1, 2, 3, 4, 5, 0] (lv' := [(0, _), (1, _), (2, _), (3, _), (4, _), (5, .int _)]) rfl ?_
  refine jj_for (P := fun i => ∀ z1 : Nat → Int32, jj_J E 0 0 Q (wm b c1 v th z1) 8 [(0, .ref (b 0)), (1, .int (nI c)), (2, .int (nI o)), (3, .int (ts_bout v c o i).1), (4, .int (ts_bout v c o i).2), (5, .int (nI i))] []) (N := ts_n v) ?_ ?_ 0 (Nat.zero_le _) z
  · intro z1
    refine jj_iload hC dX1_bestOf_8 rfl ?_
    refine jj_aload_n hC dX1_bestOf_10 rfl ?_
    refine jj_get hC 0 2 dX1_bestOf_11 (by rfl) rfl (by decide) lkX1_bestOf_39 rfl hinX1_bestOf (by rfl) ?_
    refine jj_icmp_geT hC dX1_bestOf_14 (tgt := 156) (by decide) (nI_le (Nat.le_refl _) (by omega)) ?_
    refine jj_iload_n hC dX1_bestOf_156 rfl ?_
    exact hret _ _ _ z1 dX1_bestOf_157 (by rfl) rfl
  · intro i hi ih z1
    have hbi := hth i hi
    refine jj_iload hC dX1_bestOf_8 rfl ?_
    refine jj_aload_n hC dX1_bestOf_10 rfl ?_
    refine jj_get hC 0 2 dX1_bestOf_11 (by rfl) rfl (by decide) lkX1_bestOf_39 rfl hinX1_bestOf (by rfl) ?_
    refine jj_icmp_geF hC dX1_bestOf_14 (tgt := 156) (by decide) (nI_ge hi (by omega)) ?_
    refine jj_aload_n hC dX1_bestOf_17 rfl ?_
    refine jj_iload hC dX1_bestOf_18 rfl ?_
    refine jj_iconst hC dX1_bestOf_20 (v := nI 4) (by decide) ?_
    refine jj_calli hC (mm_th4 _ _ b c1 c2 c3 v th z1 i (by omega)) gX1_bestOf_X1_th rfl 2 (by decide +kernel) ⟨by decide, by decide, by decide, by decide⟩ 0 1 (by rfl) rfl rfl rfl rfl (Nat.le_of_ble_eq_true rfl) dX1_bestOf_21 (fun r u hp => ?_)
    obtain rfl := hp
    refine jj_iload_n hC dX1_bestOf_24 rfl ?_
    first | refine jj_icmp_neN hC dX1_bestOf_25 (tgt := 150) (by decide) (by omega) (by omega) (fun c25t => ?_) (fun c25f => ?_) | refine jj_icmp_ne hC dX1_bestOf_25 (tgt := 150) (by decide) (fun c25t => ?_) (fun c25f => ?_)
    · refine jj_iincN hC dX1_bestOf_150 rfl (d9 := 1) (by decide) (by decide) [1, 2, 3, 4, 5, 0] (lv' := [(0, _), (1, _), (2, _), (3, _), (4, _), (5, .int _)]) rfl ?_
      refine jj_goto hC dX1_bestOf_153 (tgt := 8) (by decide) ?_
      refine jj_sub [0, 1, 2, 3, 4, 5] (lv' := [(0, _), (1, _), (2, _), (3, _), (4, _), (5, _)]) rfl ?_
      have e : ts_bout v c o (i + 1) = ts_bout v c o i := by rw [ts_bout, if_neg (fun q => c25t (ts_home_ow q))]
      rw [e] at ih
      exact ih _
    · refine jj_aload_n hC dX1_bestOf_28 rfl ?_
      refine jj_iload hC dX1_bestOf_29 rfl ?_
      refine jj_calli hC (mm_isLent _ _ b c1 c2 c3 v th z1 i (by omega)) gX1_bestOf_X1_isLent rfl 1 (by decide +kernel) ⟨by decide, by decide, by decide, by decide⟩ 0 1 (by rfl) rfl rfl rfl rfl (Nat.le_of_ble_eq_true rfl) dX1_bestOf_31 (fun r u hp => ?_)
      obtain rfl := hp
      refine jj_if_eqB hC dX1_bestOf_34 (tgt := 40) (by decide) (fun c34t => ?_) (fun c34f => ?_)
      · refine jj_iconst hC dX1_bestOf_40 (v := nI 0) (by decide) ?_
        refine jj_istore hC dX1_bestOf_41 (by decide) [1, 2, 3, 4, 5, 6, 0] (lv' := [(0, _), (1, _), (2, _), (3, _), (4, _), (5, _), (6, .int _)]) rfl ?_
        have hhi : ts_home v i c = true := by simp [ts_home, c25f, c34t]
        have hok := ts_bout_ok (v := v) (c := c) (o := o) i (by omega)
        refine jj_for (P := fun j => ∀ z1 : Nat → Int32, jj_J E 0 0 Q (wm b c1 v th z1) 43 [(0, .ref (b 0)), (1, .int (nI c)), (2, .int (nI o)), (3, .int (ts_bin v c o i (ts_bout v c o i) j).1), (4, .int (ts_bin v c o i (ts_bout v c o i) j).2), (5, .int (nI i)), (6, .int (nI j))] []) (N := ts_n v) ?_ ?_ 0 (Nat.zero_le _) _
        · intro z1
          refine jj_iload hC dX1_bestOf_43 rfl ?_
          refine jj_aload_n hC dX1_bestOf_45 rfl ?_
          refine jj_get hC 0 2 dX1_bestOf_46 (by rfl) rfl (by decide) lkX1_bestOf_39 rfl hinX1_bestOf (by rfl) ?_
          refine jj_icmp_geT hC dX1_bestOf_49 (tgt := 150) (by decide) (nI_le (Nat.le_refl _) (by omega)) ?_
          refine jj_iincN hC dX1_bestOf_150 rfl (d9 := 1) (by decide) (by decide) [1, 2, 3, 4, 5, 0, 6] (lv' := [(0, _), (1, _), (2, _), (3, _), (4, _), (5, .int _), (6, _)]) rfl ?_
          refine jj_goto hC dX1_bestOf_153 (tgt := 8) (by decide) ?_
          refine jj_sub [0, 1, 2, 3, 4, 5] (lv' := [(0, _), (1, _), (2, _), (3, _), (4, _), (5, _)]) rfl ?_
          have e : ts_bout v c o (i + 1) = ts_bin v c o i (ts_bout v c o i) (ts_n v) := by rw [ts_bout, if_pos hhi]
          rw [e] at ih
          exact ih _
        · intro j hj ih2 z1
          have hbj := hth j hj
          refine jj_iload hC dX1_bestOf_43 rfl ?_
          refine jj_aload_n hC dX1_bestOf_45 rfl ?_
          refine jj_get hC 0 2 dX1_bestOf_46 (by rfl) rfl (by decide) lkX1_bestOf_39 rfl hinX1_bestOf (by rfl) ?_
          refine jj_icmp_geF hC dX1_bestOf_49 (tgt := 150) (by decide) (nI_ge hj (by omega)) ?_
          refine jj_aload_n hC dX1_bestOf_52 rfl ?_
          refine jj_iload hC dX1_bestOf_53 rfl ?_
          refine jj_iconst hC dX1_bestOf_55 (v := nI 4) (by decide) ?_
          refine jj_calli hC (mm_th4 _ _ b c1 c2 c3 v th z1 j (by omega)) gX1_bestOf_X1_th rfl 2 (by decide +kernel) ⟨by decide, by decide, by decide, by decide⟩ 0 1 (by rfl) rfl rfl rfl rfl (Nat.le_of_ble_eq_true rfl) dX1_bestOf_56 (fun r u hp => ?_)
          obtain rfl := hp
          refine jj_iload_n hC dX1_bestOf_59 rfl ?_
          first | refine jj_icmp_neN hC dX1_bestOf_60 (tgt := 144) (by decide) (by omega) (by omega) (fun c60t => ?_) (fun c60f => ?_) | refine jj_icmp_ne hC dX1_bestOf_60 (tgt := 144) (by decide) (fun c60t => ?_) (fun c60f => ?_)
          · refine jj_iincN hC dX1_bestOf_144 rfl (d9 := 1) (by decide) (by decide) [1, 2, 3, 4, 5, 6, 0] (lv' := [(0, _), (1, _), (2, _), (3, _), (4, _), (5, _), (6, .int _)]) rfl ?_
            refine jj_goto hC dX1_bestOf_147 (tgt := 43) (by decide) ?_
            refine jj_sub [0, 1, 2, 3, 4, 5, 6] (lv' := [(0, _), (1, _), (2, _), (3, _), (4, _), (5, _), (6, _)]) rfl ?_
            rw [show ts_bin v c o i (ts_bout v c o i) (j + 1) = ts_bin v c o i (ts_bout v c o i) j from if_neg (fun q => c60t (ts_home_ow q.1))] at ih2
            exact ih2 _
          · refine jj_aload_n hC dX1_bestOf_63 rfl ?_
            refine jj_iload hC dX1_bestOf_64 rfl ?_
            refine jj_calli hC (mm_isLent _ _ b c1 c2 c3 v th z1 j (by omega)) gX1_bestOf_X1_isLent rfl 1 (by decide +kernel) ⟨by decide, by decide, by decide, by decide⟩ 0 1 (by rfl) rfl rfl rfl rfl (Nat.le_of_ble_eq_true rfl) dX1_bestOf_66 (fun r u hp => ?_)
            obtain rfl := hp
            refine jj_if_neB hC dX1_bestOf_69 (tgt := 144) (by decide) (fun c69t => ?_) (fun c69f => ?_)
            · refine jj_iincN hC dX1_bestOf_144 rfl (d9 := 1) (by decide) (by decide) [1, 2, 3, 4, 5, 6, 0] (lv' := [(0, _), (1, _), (2, _), (3, _), (4, _), (5, _), (6, .int _)]) rfl ?_
              refine jj_goto hC dX1_bestOf_147 (tgt := 43) (by decide) ?_
              refine jj_sub [0, 1, 2, 3, 4, 5, 6] (lv' := [(0, _), (1, _), (2, _), (3, _), (4, _), (5, _), (6, _)]) rfl ?_
              rw [show ts_bin v c o i (ts_bout v c o i) (j + 1) = ts_bin v c o i (ts_bout v c o i) j from if_neg (fun q => by have q1 := q.1; unfold ts_home at q1; rw [c69t] at q1; simp at q1)] at ih2
              exact ih2 _
            · have eow1 : ts_ow v i = c := c25f
              have eow2 : ts_ow v j = o := c60f
              have hne : ¬ ts_ow v i = ts_ow v j := by rw [eow1, eow2]; exact hco
              have hhj : ts_home v j o = true := by simp [ts_home, c60f, c69f]
              refine jj_aload_n hC dX1_bestOf_72 rfl ?_
              refine jj_iload hC dX1_bestOf_73 rfl ?_
              refine jj_iload hC dX1_bestOf_75 rfl ?_
              refine jj_calli hC (mm_isEnough _ _ b c1 c2 c3 v th z1 hI i j hi hj hne) gX1_bestOf_X1_isEnough rfl 2 (by decide +kernel) ⟨by decide, by decide, by decide, by decide⟩ 0 1 (by rfl) rfl rfl rfl rfl (Nat.le_of_ble_eq_true rfl) dX1_bestOf_77 (fun r u hp => ?_)
              obtain rfl := hp
              rw [eow1, eow2]
              revert u
              intro z2
              refine jj_if_eqB hC dX1_bestOf_80 (tgt := 144) (by decide) (fun c80t => ?_) (fun c80f => ?_)
              · refine jj_iincN hC dX1_bestOf_144 rfl (d9 := 1) (by decide) (by decide) [1, 2, 3, 4, 5, 6, 0] (lv' := [(0, _), (1, _), (2, _), (3, _), (4, _), (5, _), (6, .int _)]) rfl ?_
                refine jj_goto hC dX1_bestOf_147 (tgt := 43) (by decide) ?_
                refine jj_sub [0, 1, 2, 3, 4, 5, 6] (lv' := [(0, _), (1, _), (2, _), (3, _), (4, _), (5, _), (6, _)]) rfl ?_
                rw [show ts_bin v c o i (ts_bout v c o i) (j + 1) = ts_bin v c o i (ts_bout v c o i) j from if_neg (fun q => by rw [c80t] at q; exact absurd q.2.1 Bool.false_ne_true)] at ih2
                exact ih2 _
              · refine jj_aload_n hC dX1_bestOf_83 rfl ?_
                refine jj_iload hC dX1_bestOf_84 rfl ?_
                refine jj_iload hC dX1_bestOf_86 rfl ?_
                refine jj_calli hC (mm_isEnough _ _ b c1 c2 c3 v th z2 hI j i hj hi (fun q => hne q.symm)) gX1_bestOf_X1_isEnough rfl 2 (by decide +kernel) ⟨by decide, by decide, by decide, by decide⟩ 0 1 (by rfl) rfl rfl rfl rfl (Nat.le_of_ble_eq_true rfl) dX1_bestOf_88 (fun r u hp => ?_)
                obtain rfl := hp
                rw [eow1, eow2]
                revert u
                intro z3
                refine jj_if_neB hC dX1_bestOf_91 (tgt := 97) (by decide) (fun c91t => ?_) (fun c91f => ?_)
                · refine jj_aload_n hC dX1_bestOf_97 rfl ?_
                  refine jj_iload hC dX1_bestOf_98 rfl ?_
                  refine jj_iload hC dX1_bestOf_100 rfl ?_
                  refine jj_calli hC (mm_gain _ _ b c1 c2 c3 v th z3 hI i j hi hj hne) gX1_bestOf_X1_gain rfl 2 (by decide +kernel) ⟨by decide, by decide, by decide, by decide⟩ 0 1 (by rfl) rfl rfl rfl rfl (Nat.le_of_ble_eq_true rfl) dX1_bestOf_102 (fun r u hp => ?_)
                  obtain rfl := hp
                  revert u
                  intro z4
                  refine jj_aload_n hC dX1_bestOf_105 rfl ?_
                  refine jj_iload hC dX1_bestOf_106 rfl ?_
                  refine jj_iload hC dX1_bestOf_108 rfl ?_
                  refine jj_calli hC (mm_gain _ _ b c1 c2 c3 v th z4 hI j i hj hi (fun q => hne q.symm)) gX1_bestOf_X1_gain rfl 2 (by decide +kernel) ⟨by decide, by decide, by decide, by decide⟩ 0 1 (by rfl) rfl rfl rfl rfl (Nat.le_of_ble_eq_true rfl) dX1_bestOf_110 (fun r u hp => ?_)
                  obtain rfl := hp
                  revert u
                  intro z5
                  refine jj_iadd hC dX1_bestOf_113 ?_
                  refine jj_istore hC dX1_bestOf_114 (by decide) [1, 2, 3, 4, 5, 6, 7, 0] (lv' := [(0, _), (1, _), (2, _), (3, _), (4, _), (5, _), (6, _), (7, .int _)]) rfl ?_
                  have hbp := ts_both_pos hI c80f c91t
                  have hokj := ts_bin_ok hi hhi hok j (by omega)
                  refine jj_iload_n hC dX1_bestOf_116 rfl ?_
                  refine jj_iconst hC dX1_bestOf_117 (v := -1) (by decide) ?_
                  refine jj_icmp_eq hC dX1_bestOf_118 (tgt := 131) (by decide) (fun c118t => ?_) (fun c118f => ?_)
                  · refine jj_bipush hC dX1_bestOf_131 (v := nI 36) (by decide) ?_
                    refine jj_iload hC dX1_bestOf_133 rfl ?_
                    first | refine jj_imulN hC dX1_bestOf_135 ?_ | refine jj_imul hC dX1_bestOf_135 ?_
                    refine jj_iload hC dX1_bestOf_136 rfl ?_
                    first | refine jj_iaddN hC dX1_bestOf_138 ?_ | refine jj_iadd hC dX1_bestOf_138 ?_
                    refine jj_istore_n hC dX1_bestOf_139 (by decide) [1, 2, 3, 0, 4, 5, 6, 7] (lv' := [(0, _), (1, _), (2, _), (3, .int _), (4, _), (5, _), (6, _), (7, _)]) rfl ?_
                    refine jj_iload hC dX1_bestOf_140 rfl ?_
                    refine jj_istore hC dX1_bestOf_142 (by decide) [1, 2, 3, 4, 0, 5, 6, 7] (lv' := [(0, _), (1, _), (2, _), (3, _), (4, .int _), (5, _), (6, _), (7, _)]) rfl ?_
                    refine jj_iincN hC dX1_bestOf_144 rfl (d9 := 1) (by decide) (by decide) [1, 2, 3, 4, 5, 6, 0, 7] (lv' := [(0, _), (1, _), (2, _), (3, _), (4, _), (5, _), (6, .int _), (7, _)]) rfl ?_
                    refine jj_goto hC dX1_bestOf_147 (tgt := 43) (by decide) ?_
                    refine jj_sub [0, 1, 2, 3, 4, 5, 6] (lv' := [(0, _), (1, _), (2, _), (3, _), (4, _), (5, _), (6, _)]) rfl ?_
                    rw [show ts_bin v c o i (ts_bout v c o i) (j + 1) = (nI (36 * i + j), ts_gain v i j + ts_gain v j i) from if_pos ⟨hhj, c80f, c91t, by rw [ts_bok_1 hI hokj c118t]; exact hbp⟩] at ih2
                    exact ih2 _
                  · refine jj_iload hC dX1_bestOf_121 rfl ?_
                    refine jj_iload hC dX1_bestOf_123 rfl ?_
                    refine jj_icmp_gt hC dX1_bestOf_125 (tgt := 131) (by decide) (fun c125t => ?_) (fun c125f => ?_)
                    · refine jj_bipush hC dX1_bestOf_131 (v := nI 36) (by decide) ?_
                      refine jj_iload hC dX1_bestOf_133 rfl ?_
                      first | refine jj_imulN hC dX1_bestOf_135 ?_ | refine jj_imul hC dX1_bestOf_135 ?_
                      refine jj_iload hC dX1_bestOf_136 rfl ?_
                      first | refine jj_iaddN hC dX1_bestOf_138 ?_ | refine jj_iadd hC dX1_bestOf_138 ?_
                      refine jj_istore_n hC dX1_bestOf_139 (by decide) [1, 2, 3, 0, 4, 5, 6, 7] (lv' := [(0, _), (1, _), (2, _), (3, .int _), (4, _), (5, _), (6, _), (7, _)]) rfl ?_
                      refine jj_iload hC dX1_bestOf_140 rfl ?_
                      refine jj_istore hC dX1_bestOf_142 (by decide) [1, 2, 3, 4, 0, 5, 6, 7] (lv' := [(0, _), (1, _), (2, _), (3, _), (4, .int _), (5, _), (6, _), (7, _)]) rfl ?_
                      refine jj_iincN hC dX1_bestOf_144 rfl (d9 := 1) (by decide) (by decide) [1, 2, 3, 4, 5, 6, 0, 7] (lv' := [(0, _), (1, _), (2, _), (3, _), (4, _), (5, _), (6, .int _), (7, _)]) rfl ?_
                      refine jj_goto hC dX1_bestOf_147 (tgt := 43) (by decide) ?_
                      refine jj_sub [0, 1, 2, 3, 4, 5, 6] (lv' := [(0, _), (1, _), (2, _), (3, _), (4, _), (5, _), (6, _)]) rfl ?_
                      rw [show ts_bin v c o i (ts_bout v c o i) (j + 1) = (nI (36 * i + j), ts_gain v i j + ts_gain v j i) from if_pos ⟨hhj, c80f, c91t, c125t⟩] at ih2
                      exact ih2 _
                    · refine jj_goto hC dX1_bestOf_128 (tgt := 144) (by decide) ?_
                      refine jj_iincN hC dX1_bestOf_144 rfl (d9 := 1) (by decide) (by decide) [1, 2, 3, 4, 5, 6, 0, 7] (lv' := [(0, _), (1, _), (2, _), (3, _), (4, _), (5, _), (6, .int _), (7, _)]) rfl ?_
                      refine jj_goto hC dX1_bestOf_147 (tgt := 43) (by decide) ?_
                      refine jj_sub [0, 1, 2, 3, 4, 5, 6] (lv' := [(0, _), (1, _), (2, _), (3, _), (4, _), (5, _), (6, _)]) rfl ?_
                      rw [show ts_bin v c o i (ts_bout v c o i) (j + 1) = ts_bin v c o i (ts_bout v c o i) j from if_neg (fun q => c125f q.2.2.2)] at ih2
                      exact ih2 _
                · refine jj_goto hC dX1_bestOf_94 (tgt := 144) (by decide) ?_
                  refine jj_iincN hC dX1_bestOf_144 rfl (d9 := 1) (by decide) (by decide) [1, 2, 3, 4, 5, 6, 0] (lv' := [(0, _), (1, _), (2, _), (3, _), (4, _), (5, _), (6, .int _)]) rfl ?_
                  refine jj_goto hC dX1_bestOf_147 (tgt := 43) (by decide) ?_
                  refine jj_sub [0, 1, 2, 3, 4, 5, 6] (lv' := [(0, _), (1, _), (2, _), (3, _), (4, _), (5, _), (6, _)]) rfl ?_
                  rw [show ts_bin v c o i (ts_bout v c o i) (j + 1) = ts_bin v c o i (ts_bout v c o i) j from if_neg (fun q => by rw [c91f] at q; exact absurd q.2.2.1 Bool.false_ne_true)] at ih2
                  exact ih2 _
      · refine jj_goto hC dX1_bestOf_37 (tgt := 150) (by decide) ?_
        refine jj_iincN hC dX1_bestOf_150 rfl (d9 := 1) (by decide) (by decide) [1, 2, 3, 4, 5, 0] (lv' := [(0, _), (1, _), (2, _), (3, _), (4, _), (5, .int _)]) rfl ?_
        refine jj_goto hC dX1_bestOf_153 (tgt := 8) (by decide) ?_
        refine jj_sub [0, 1, 2, 3, 4, 5] (lv' := [(0, _), (1, _), (2, _), (3, _), (4, _), (5, _)]) rfl ?_
        have e : ts_bout v c o (i + 1) = ts_bout v c o i := by rw [ts_bout, if_neg (fun q => by unfold ts_home at q; rw [c34f] at q; simp at q)]
        rw [e] at ih
        exact ih _
theorem lkX1_best_28 : Cond.fieldLink RX1 28 RX1 (TX1 0).2.1 (TX1 0).2.2.1 ∈ wsX1_best := by decide +kernel
theorem hinX1_best : ∀ w ∈ wsX10, w ∈ wsX1_best := by decide +kernel
set_option maxRecDepth 100000 in
set_option maxHeartbeats 4000000 in
theorem mo_best (l : Launch) (D : va_G) (b : Nat → Nat) (c1 c2 c3 : ClassId) (v : ts_V) (th : Int32) (z : Nat → Int32) (hI : ts_I v) (x0 x1 : Int32) : jj_M l D (ts_T c1 c2 c3) yX1_best wsX1_best rX1_best [.ref (b 0), .int x0, .int x1] (wm b c1 v th z) (Nat → Int32) (fun r _ => r = ts_if (((ts_req (ts_in x0 (ts_k v)) jj_IO).or (ts_req (ts_in x1 (ts_k v)) jj_IO)).or (ts_req (decide (¬ x0 = x1)) jj_IA)) (ts_best v (ts_N x0) (ts_N x1)) (nI 0)) (fun u => wm b c1 (ts_if (((ts_req (ts_in x0 (ts_k v)) jj_IO).or (ts_req (ts_in x1 (ts_k v)) jj_IO)).or (ts_req (decide (¬ x0 = x1)) jj_IA)) (v) v) (ts_cd 1 2 0 (((ts_req (ts_in x0 (ts_k v)) jj_IO).or (ts_req (ts_in x1 (ts_k v)) jj_IO)).or (ts_req (decide (¬ x0 = x1)) jj_IA))) u) := by
  obtain ⟨hn, hk, hth, hwk, hli, hgr⟩ := id hI
  refine jj_met (cc := cX1_best) (nL := 3) (by decide) rfl (Nat.le_of_ble_eq_true rfl) (fun E Q hC hEl hED hD0 hret => ?_)
  show jj_J E 0 0 Q (wm b c1 v th z) 0 [(0, .ref (b 0)), (1, .int x0), (2, .int x1)] []
  refine jj_aload_n hC dX1_best_0 rfl ?_
  refine jj_iconst hC dX1_best_1 (v := nI 0) (by decide) ?_
  refine jj_put hC 0 0 dX1_best_2 (by rfl) rfl (by decide) lkX1_best_28 rfl hinX1_best tyX1_ok nmX1 rfl rfl rfl rfl (Nat.le_of_ble_eq_true rfl) (wm_p0 ..) ?_
  refine jj_aload_n hC dX1_best_5 rfl ?_
  refine jj_iload_n hC dX1_best_6 rfl ?_
  refine jj_calli hC (mm_isCollector _ _ b c1 c2 c3 v (nI 0) z hI x0) gX1_best_X1_isCollector rfl 1 (by decide +kernel) ⟨by decide, by decide, by decide, by decide⟩ 0 1 (by rfl) rfl rfl rfl rfl (Nat.le_of_ble_eq_true rfl) dX1_best_7 (fun r u hp => ?_)
  obtain rfl := hp
  refine jj_if_eqB hC dX1_best_10 (tgt := 21) (by decide) (fun c10t => ?_) (fun c10f => ?_)
  · refine jj_aload_n hC dX1_best_21 rfl ?_
    refine jj_iconst hC dX1_best_22 (v := nI 1) (by decide) ?_
    refine jj_calli hC (mm_fail _ _ b c1 c2 c3 v (nI 0) z (nI 1)) gX1_best_X1_fail rfl 1 (by decide +kernel) ⟨by decide, by decide, by decide, by decide⟩ 0 1 (by rfl) rfl rfl rfl rfl (Nat.le_of_ble_eq_true rfl) dX1_best_23 (fun r u hp => ?_)
    obtain rfl := hp
    have eO : (((ts_req (ts_in x0 (ts_k v)) jj_IO).or (ts_req (ts_in x1 (ts_k v)) jj_IO)).or (ts_req (decide (¬ x0 = x1)) jj_IA)) = some jj_IO := by
      first
        | (simp [ts_req, c10t]; done)
        | (simp [ts_req, c10t]
           repeat' split
           all_goals simp_all)
    rw [eO, ts_cdIO] at hret
    exact hret _ _ _ z dX1_best_26 (by rfl) rfl
  · refine jj_aload_n hC dX1_best_13 rfl ?_
    refine jj_iload_n hC dX1_best_14 rfl ?_
    refine jj_calli hC (mm_isCollector _ _ b c1 c2 c3 v (nI 0) z hI x1) gX1_best_X1_isCollector rfl 1 (by decide +kernel) ⟨by decide, by decide, by decide, by decide⟩ 0 1 (by rfl) rfl rfl rfl rfl (Nat.le_of_ble_eq_true rfl) dX1_best_15 (fun r u hp => ?_)
    obtain rfl := hp
    refine jj_if_neB hC dX1_best_18 (tgt := 27) (by decide) (fun c18t => ?_) (fun c18f => ?_)
    · obtain ⟨j0, hj0, rfl⟩ := ts_in_of c10f (by omega)
      have eNj0 : ts_N (nI j0) = j0 := ts_N_nI (by omega)
      obtain ⟨j1, hj1, rfl⟩ := ts_in_of c18t (by omega)
      have eNj1 : ts_N (nI j1) = j1 := ts_N_nI (by omega)
      refine jj_iload_n hC dX1_best_27 rfl ?_
      refine jj_iload_n hC dX1_best_28 rfl ?_
      refine jj_icmp_ne hC dX1_best_29 (tgt := 40) (by decide) (fun c29t => ?_) (fun c29f => ?_)
      · refine jj_aload_n hC dX1_best_40 rfl ?_
        refine jj_iload_n hC dX1_best_41 rfl ?_
        refine jj_iload_n hC dX1_best_42 rfl ?_
        refine jj_calli hC (mm_bestOf _ _ b c1 c2 c3 v (nI 0) z hI j0 j1 hj0 hj1 (fun q => c29t (by rw [q]))) gX1_best_X1_bestOf rfl 2 (by decide +kernel) ⟨by decide, by decide, by decide, by decide⟩ 0 1 (by rfl) rfl rfl rfl rfl (Nat.le_of_ble_eq_true rfl) dX1_best_43 (fun r u hp => ?_)
        obtain rfl := hp
        revert u
        intro z1
        simp only [eNj0, eNj1] at hret
        have eO : (((ts_req (ts_in (nI j0) (ts_k v)) jj_IO).or (ts_req (ts_in (nI j1) (ts_k v)) jj_IO)).or (ts_req (decide (¬ (nI j0) = (nI j1))) jj_IA)) = none := by simp [ts_req, c10f, c18t, c29t]
        rw [eO] at hret
        exact hret _ _ _ z1 dX1_best_46 (by rfl) (rfl)
      · refine jj_aload_n hC dX1_best_32 rfl ?_
        refine jj_iconst hC dX1_best_33 (v := nI 2) (by decide) ?_
        refine jj_calli hC (mm_fail _ _ b c1 c2 c3 v (nI 0) z (nI 2)) gX1_best_X1_fail rfl 1 (by decide +kernel) ⟨by decide, by decide, by decide, by decide⟩ 0 1 (by rfl) rfl rfl rfl rfl (Nat.le_of_ble_eq_true rfl) dX1_best_34 (fun r u hp => ?_)
        obtain rfl := hp
        refine jj_goto hC dX1_best_37 (tgt := 46) (by decide) ?_
        simp only [eNj0, eNj1] at hret
        have eO : (((ts_req (ts_in (nI j0) (ts_k v)) jj_IO).or (ts_req (ts_in (nI j1) (ts_k v)) jj_IO)).or (ts_req (decide (¬ (nI j0) = (nI j1))) jj_IA)) = some jj_IA := by
          first
            | (simp [ts_req, c10f, c18t, c29f]; done)
            | (simp [ts_req, c10f, c18t, c29f]
               repeat' split
               all_goals simp_all)
        rw [eO, ts_cdIA] at hret
        exact hret _ _ _ z dX1_best_46 (by rfl) rfl
    · refine jj_aload_n hC dX1_best_21 rfl ?_
      refine jj_iconst hC dX1_best_22 (v := nI 1) (by decide) ?_
      refine jj_calli hC (mm_fail _ _ b c1 c2 c3 v (nI 0) z (nI 1)) gX1_best_X1_fail rfl 1 (by decide +kernel) ⟨by decide, by decide, by decide, by decide⟩ 0 1 (by rfl) rfl rfl rfl rfl (Nat.le_of_ble_eq_true rfl) dX1_best_23 (fun r u hp => ?_)
      obtain rfl := hp
      have eO : (((ts_req (ts_in x0 (ts_k v)) jj_IO).or (ts_req (ts_in x1 (ts_k v)) jj_IO)).or (ts_req (decide (¬ x0 = x1)) jj_IA)) = some jj_IO := by
        first
          | (simp [ts_req, c10f, c18f]; done)
          | (simp [ts_req, c10f, c18f]
             repeat' split
             all_goals simp_all)
      rw [eO, ts_cdIO] at hret
      exact hret _ _ _ z dX1_best_26 (by rfl) rfl
