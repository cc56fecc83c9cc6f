/-! what the calls answer, and what they leave -/
def ts_N (x : Int32) : Nat := x.toNatClampNeg
theorem ts_N_nI {j : Nat} (h : j < 2 ^ 31) : ts_N (nI j) = j := nI_clamp h
def ts_jn (v : ts_V) : ts_V := ts_k' (ts_li' v (fun c s => if c = ts_k v then (if s < 8 then 1 else ts_li v c s) else ts_li v c s)) (ts_k v + 1)
def ts_fd (v : ts_V) (c s u m t : Nat) : ts_V := ts_n' (ts_ti' (ts_ow' (ts_st' (ts_ha' (ts_nu' (ts_se' v (va_up (ts_se v) (ts_n v) s)) (va_up (ts_nu v) (ts_n v) u)) (va_up (ts_ha v) (ts_n v) m)) (va_up (ts_st v) (ts_n v) t)) (va_up (ts_ow v) (ts_n v) c)) (va_up (ts_ti v) (ts_n v) (-1))) (ts_n v + 1)
def ts_ct (v : ts_V) (c w : Nat) : Int32 := match w with
  | 0 => nI (ts_cnt (ts_of v c) (ts_n v))
  | 1 => nI (ts_cnt (fun t => ts_of v c t && ts_lt v t) (ts_n v))
  | 2 => nI (ts_hm v (ts_of v c))
  | 3 => nI (ts_now v c)
  | 4 => nI (ts_whole v c)
  | 5 => nI (ts_sum (fun o => ts_gr v c o) (ts_k v))
  | _ => ts_sw v c
def ts_cn (v : ts_V) (w : Nat) : Int32 := match w with
  | 0 => ts_w v
  | 1 => nI (ts_k v)
  | 2 => nI (ts_n v)
  | 3 => nI (ts_cnt (ts_lt v) (ts_n v))
  | 4 => ts_ag v
  | 5 => ts_rf v
  | _ => nI (ts_all v)
/-- a refused swap -/
def ts_rs (v : ts_V) (x y : Nat) : Int32 × ts_V :=
  if ts_en v (ts_gain v x y) (ts_ow v x) (ts_ow v y) = true ∧ ts_en v (ts_gain v y x) (ts_ow v y) (ts_ow v x) = true then (nI 0, ts_swp v x y)
  else if ts_en v (ts_gain v x y) (ts_ow v x) (ts_ow v y) = true then (nI 2, ts_gr' (ts_rf' v (ts_rf v + 1)) (ts_rese (ts_gr v) (ts_ow v x) (ts_ow v y)))
  else if ts_en v (ts_gain v y x) (ts_ow v y) (ts_ow v x) = true then (nI 1, ts_gr' (ts_rf' v (ts_rf v + 1)) (ts_rese (ts_gr v) (ts_ow v y) (ts_ow v x)))
  else (nI 3, ts_rf' v (ts_rf v + 1))
def ts_rg (x : Int32) (lo hi : Nat) : Bool := decide ((lo : Int) ≤ x.toInt ∧ x.toInt ≤ (hi : Int))
def ts_pa (v : ts_V) : Nat → ts_V × Nat
  | 0 => (v, 0)
  | i + 1 => ((ts_end (ts_pa v i).1).1, (ts_pa v i).2 + (ts_end (ts_pa v i).1).2)
def ts_fi (v : ts_V) (s : Nat) : Nat → Int32 × Nat × Nat
  | 0 => (-1, 0, 0)
  | c + 1 => if (ts_fi v s c).2.1 < ts_nums v (ts_of v c) s ∨ (ts_nums v (ts_of v c) s = (ts_fi v s c).2.1 ∧ (ts_fi v s c).2.2 < ts_stts v (ts_of v c) s) then (nI c, ts_nums v (ts_of v c) s, ts_stts v (ts_of v c) s) else ts_fi v s c
theorem wx_slr (a : Nat → Nat) (c1 c2 : ClassId) (v : ts_V) (g : Nat → Int32) (h : Int32) (c : Nat) (hc : c < 7) (f : Nat → Nat) (y : Nat → Int32) (hy : y = fun s => nI (f s)) : (wx a c1 c2 v g h).set (12 + c) (a (12 + c), .inl (c1, 8, .inl y)) = wx a c1 c2 (ts_li' v (fun c2 s => if c2 = c then f s else ts_li v c2 s)) g h := by
  subst hy
  refine wx_set a c1 c2 v _ g _ h _ (12 + c) _ ?_ (wx_lit (fun _ => rfl) (fun _ => rfl) (fun _ => rfl) (fun _ => rfl) (fun _ => rfl) (fun _ => rfl) (fun _ => rfl) (fun _ => rfl) (fun _ => rfl) (fun _ => rfl) (fun _ => rfl) (fun _ => rfl) (fun j h1 h2 hne => ?_))
  · rw [wx_row _ _ _ _ _ _ _ (by omega), if_pos (show 12 + c < 19 by omega), show wx_len (12 + c) = 8 by unfold wx_len; rw [if_neg (by omega), if_neg (by omega), if_neg (by omega), if_pos (by omega)], show 12 + c - 12 = c by omega]
    simp [ts_li, ts_li']
  · rw [wx_row _ _ _ _ _ _ j h1, wx_row _ _ _ _ _ _ j h1]
    by_cases hj : j < 19
    · rw [if_pos hj, if_pos hj]
      have : ¬ j - 12 = c := by omega
      simp [this, ts_li, ts_li']
    · rw [if_neg hj, if_neg hj]
theorem lkX0_join_45 : Cond.fieldLink RX0 45 RX0 (TX0 1).2.1 (TX0 1).2.2.1 ∈ wsX0_join := by decide +kernel
theorem lkX0_join_33 : Cond.fieldLink RX0 33 RX0 (TX0 12).2.1 (TX0 12).2.2.1 ∈ wsX0_join := by decide +kernel
theorem xkX0_join_49 : Cond.classLink RX0 49 "java/lang/IllegalStateException" ∈ wsX0_join := by decide +kernel
theorem xiX0_join_IS : Cond.initialized "java/lang/IllegalStateException" ∈ wsX0_join := by decide +kernel
theorem xgX0_join_53 : ∀ w ∈ (vx_atS RX0 53 "java/lang/IllegalStateException" jj_nm).filter goodWord, w ∈ wsX0_join := by decide +kernel
theorem hinX0_join : ∀ w ∈ wsX00, w ∈ wsX0_join := by decide +kernel
set_option maxRecDepth 100000 in
set_option maxHeartbeats 4000000 in
theorem xm_join (l : Launch) (D : va_G) (a : Nat → Nat) (c1 c2 c3 : ClassId) (v : ts_V) (g : Nat → Int32) (h : Int32) (hl : l.stackTraces = false) (hI : ts_I v) : jj_Mx l D (ts_T c1 c2 c3) yX0_join wsX0_join rX0_join [.ref (a 0)] (wx a c1 c2 v g h) (ts_req (decide (ts_k v < 7)) jj_IS) Unit (fun x _ => x = nI (ts_k v)) (fun _ => wx a c1 c2 (ts_jn v) g h) := by
  obtain ⟨hn, hk, hth, hwk, hli, hgr⟩ := id hI
  refine jj_metx (cc := cX0_join) (nL := 2) hl rfl (by decide) rfl (Nat.le_of_ble_eq_true rfl) (fun E Q hC hEl hED hD0 hH hV hret hthr hnew => ?_)
  subst hEl
  show jj_J E 0 0 Q (wx a c1 c2 v g h) 0 [(0, .ref (a 0))] []
  refine jj_aload_n hC dX0_join_0 rfl ?_
  refine jj_get hC 0 1 dX0_join_1 (by rfl) rfl (by decide) lkX0_join_45 rfl hinX0_join (by rfl) ?_
  refine jj_bipush hC dX0_join_4 (v := nI 7) (by decide) ?_
  first | refine jj_icmp_ltN hC dX0_join_6 (tgt := 19) (by decide) (by omega) (by omega) (fun c6 => ?_) (fun c6 => ?_) | refine jj_icmp_lt hC dX0_join_6 (tgt := 19) (by decide) (fun c6 => ?_) (fun c6 => ?_)
  · refine jj_aload_n hC dX0_join_19 rfl ?_
    refine jj_get hC 0 1 dX0_join_20 (by rfl) rfl (by decide) lkX0_join_45 rfl hinX0_join (by rfl) ?_
    refine jj_istore_n hC dX0_join_23 (by decide) [1, 0] (lv' := [(0, _), (1, .int _)]) rfl ?_
    refine jj_aload_n hC dX0_join_24 rfl ?_
    refine jj_get hC 0 12 dX0_join_25 (by rfl) rfl (by decide) lkX0_join_33 rfl hinX0_join (by rfl) ?_
    refine jj_iload_n hC dX0_join_28 rfl ?_
    refine jj_aald hC 8 1 dX0_join_29 (wx_g8 ..) rfl rfl (by omega) (by decide) (if_pos (by omega)) ?_
    refine jj_iconst hC dX0_join_30 (v := nI 1) (by decide) ?_
    refine jj_scallv1 hC (q := 12 + ts_k v) (wx_gli _ _ _ _ _ _ _ (by omega)) (xm_fill _ _ c1 c2 c3 (a (12 + ts_k v)) 8 (by decide) (fun s => nI (ts_li v (ts_k v) s)) (nI 1)) gX0_join_J7_fill_53178 rfl 2 (by decide +kernel) ⟨by decide, by decide, by decide, by decide⟩ rfl rfl rfl (Nat.le_of_ble_eq_true rfl) dX0_join_31 (wx_slr _ _ _ _ _ _ _ (by omega) (fun s => if s < 8 then 1 else ts_li v (ts_k v) s) _ (by funext s; by_cases e : s < 8 <;> simp [e])) ?_
    refine jj_aload_n hC dX0_join_34 rfl ?_
    refine jj_dup hC dX0_join_35 rfl ?_
    refine jj_get hC 0 1 dX0_join_36 (by rfl) rfl (by decide) lkX0_join_45 rfl hinX0_join (by rfl) ?_
    refine jj_iconst hC dX0_join_39 (v := nI 1) (by decide) ?_
    first | refine jj_iaddN hC dX0_join_40 ?_ | refine jj_iadd hC dX0_join_40 ?_
    refine jj_put hC 0 1 dX0_join_41 (by rfl) rfl (by decide) lkX0_join_45 rfl hinX0_join tyX0_ok nmX0 rfl rfl rfl rfl (Nat.le_of_ble_eq_true rfl) (wx_p1 ..) ?_
    refine jj_iload_n hC dX0_join_44 rfl ?_
    refine jj_widen (k' := 1) (n' := 6) (by decide) (by decide) ?_
    refine jj_ws (ws' := wx a c1 c2 (ts_jn v) g h) ?_ (hret _ _ _ () (by simp [ts_req, show ts_k v < 7 by omega]) dX0_join_45 (by rfl) rfl)
    unfold ts_jn
    congr 1
    simp only [Prod.mk.injEq, true_and, and_true]
    funext c s
    by_cases e : c = ts_k v
    · simp [e]
    · simp [e]
  · exact hnew _ _ 9 49 51 53 "java/lang/IllegalStateException" "there are 7 collectors" _ _ (by simp [ts_req, show ¬ ts_k v < 7 by omega]) (by decide) (by decide) (by decide +kernel) (Or.inr (Or.inr rfl)) xkX0_join_49 xiX0_join_IS xgX0_join_53 xbad_IS xot_IS_49 dX0_join_9 dX0_join_12 dX0_join_13 dX0_join_15 dX0_join_18 (by decide) (Nat.le_of_ble_eq_true rfl)
theorem xkX0_find_70 : Cond.classLink RX0 70 "java/lang/IllegalArgumentException" ∈ wsX0_find := by decide +kernel
theorem xiX0_find_IA : Cond.initialized "java/lang/IllegalArgumentException" ∈ wsX0_find := by decide +kernel
theorem xgX0_find_74 : ∀ w ∈ (vx_atS RX0 74 "java/lang/IllegalArgumentException" jj_nm).filter goodWord, w ∈ wsX0_find := by decide +kernel
theorem lkX0_find_75 : Cond.fieldLink RX0 75 RX0 (TX0 2).2.1 (TX0 2).2.2.1 ∈ wsX0_find := by decide +kernel
theorem lkX0_find_9 : Cond.fieldLink RX0 9 RX0 (TX0 5).2.1 (TX0 5).2.2.1 ∈ wsX0_find := by decide +kernel
theorem lkX0_find_13 : Cond.fieldLink RX0 13 RX0 (TX0 6).2.1 (TX0 6).2.2.1 ∈ wsX0_find := by decide +kernel
theorem lkX0_find_16 : Cond.fieldLink RX0 16 RX0 (TX0 7).2.1 (TX0 7).2.2.1 ∈ wsX0_find := by decide +kernel
theorem lkX0_find_19 : Cond.fieldLink RX0 19 RX0 (TX0 8).2.1 (TX0 8).2.2.1 ∈ wsX0_find := by decide +kernel
theorem lkX0_find_22 : Cond.fieldLink RX0 22 RX0 (TX0 9).2.1 (TX0 9).2.2.1 ∈ wsX0_find := by decide +kernel
theorem lkX0_find_25 : Cond.fieldLink RX0 25 RX0 (TX0 10).2.1 (TX0 10).2.2.1 ∈ wsX0_find := by decide +kernel
theorem xkX0_find_49 : Cond.classLink RX0 49 "java/lang/IllegalStateException" ∈ wsX0_find := by decide +kernel
theorem xiX0_find_IS : Cond.initialized "java/lang/IllegalStateException" ∈ wsX0_find := by decide +kernel
theorem xgX0_find_53 : ∀ w ∈ (vx_atS RX0 53 "java/lang/IllegalStateException" jj_nm).filter goodWord, w ∈ wsX0_find := by decide +kernel
theorem hinX0_find : ∀ w ∈ wsX00, w ∈ wsX0_find := by decide +kernel
set_option maxRecDepth 100000 in
set_option maxHeartbeats 4000000 in
theorem xm_find (l : Launch) (D : va_G) (a : Nat → Nat) (c1 c2 c3 : ClassId) (v : ts_V) (g : Nat → Int32) (h : Int32) (hl : l.stackTraces = false) (hI : ts_I v) (x0 x1 x2 x3 x4 : Int32) : jj_Mx l D (ts_T c1 c2 c3) yX0_find wsX0_find rX0_find [.ref (a 0), .int x0, .int x1, .int x2, .int x3, .int x4] (wx a c1 c2 v g h) (((ts_req (ts_in x0 (ts_k v)) jj_IO).or (ts_req (ts_in x1 8 && (ts_in x2 6 && (ts_in x3 20 && ts_in x4 10))) jj_IA)).or (ts_req (decide (ts_n v < 36)) jj_IS)) Unit (fun x _ => x = nI (ts_n v)) (fun _ => wx a c1 c2 (ts_fd v (ts_N x0) (ts_N x1) (ts_N x2) (ts_N x3) (ts_N x4)) g h) := by
  obtain ⟨hn, hk, hth, hwk, hli, hgr⟩ := id hI
  refine jj_metx (cc := cX0_find) (nL := 7) hl rfl (by decide) rfl (Nat.le_of_ble_eq_true rfl) (fun E Q hC hEl hED hD0 hH hV hret hthr hnew => ?_)
  subst hEl
  show jj_J E 0 0 Q (wx a c1 c2 v g h) 0 [(0, .ref (a 0)), (1, .int x0), (2, .int x1), (3, .int x2), (4, .int x3), (5, .int x4)] []
  refine jj_aload_n hC dX0_find_0 rfl ?_
  refine jj_iload_n hC dX0_find_1 rfl ?_
  cases hq2 : ts_in x0 (ts_k v) with
  | false => exact jj_callxv hC hH hV (xm_requireCollector _ _ a c1 c2 c3 v g h hl hI _) gX0_find_X0_requireCollector rfl 1 (by decide +kernel) ⟨by decide, by decide, by decide, by decide⟩ 0 0 (by rfl) rfl rfl rfl rfl (Nat.le_of_ble_eq_true rfl) dX0_find_2  (fun Ex hEx => hthr _ _ _ _ (by simpa [ts_req, hq2, ] using hEx)) (fun hEx => by simp [ts_req, hq2] at hEx)
  | true =>
    obtain ⟨j0, hj0, rfl⟩ := ts_in_of hq2 (by omega)
    refine jj_callv hC (xp_requireCollector _ _ a c1 c2 c3 v g h hI _ hq2) gX0_find_X0_requireCollector rfl 1 (by decide +kernel) ⟨by decide, by decide, by decide, by decide⟩ 0 0 (by rfl) rfl rfl rfl rfl (Nat.le_of_ble_eq_true rfl) dX0_find_2  (fun u hp => ?_)
    refine jj_iload_n hC dX0_find_5 rfl ?_
    refine jj_bipush hC dX0_find_6 (v := nI 8) (by decide) ?_
    refine jj_scalliN hC (xm_isBelow _ _ c1 c2 c3 x1 8 (by decide)) gX0_find_X0_isBelow rfl 2 (by decide +kernel) ⟨by decide, by decide, by decide, by decide⟩ rfl rfl rfl (Nat.le_of_ble_eq_true rfl) dX0_find_8 (fun r u hp => ?_)
    obtain rfl := hp
    refine jj_if_eqB hC dX0_find_11 (tgt := 43) (by decide) (fun c11 => ?_) (fun c11 => ?_)
    · exact hnew _ _ 43 70 72 74 "java/lang/IllegalArgumentException" "no thimble is like this" _ _ (by simp [ts_req, hq2, c11]) (by decide) (by decide) (by decide +kernel) (Or.inr (Or.inl rfl)) xkX0_find_70 xiX0_find_IA xgX0_find_74 xbad_IA xot_IA_70 dX0_find_43 dX0_find_46 dX0_find_47 dX0_find_49 dX0_find_52 (by decide) (Nat.le_of_ble_eq_true rfl)
    · refine jj_iload_n hC dX0_find_14 rfl ?_
      refine jj_bipush hC dX0_find_15 (v := nI 6) (by decide) ?_
      refine jj_scalliN hC (xm_isBelow _ _ c1 c2 c3 x2 6 (by decide)) gX0_find_X0_isBelow rfl 2 (by decide +kernel) ⟨by decide, by decide, by decide, by decide⟩ rfl rfl rfl (Nat.le_of_ble_eq_true rfl) dX0_find_17 (fun r u hp => ?_)
      obtain rfl := hp
      refine jj_if_eqB hC dX0_find_20 (tgt := 43) (by decide) (fun c20 => ?_) (fun c20 => ?_)
      · exact hnew _ _ 43 70 72 74 "java/lang/IllegalArgumentException" "no thimble is like this" _ _ (by simp [ts_req, hq2, c11, c20]) (by decide) (by decide) (by decide +kernel) (Or.inr (Or.inl rfl)) xkX0_find_70 xiX0_find_IA xgX0_find_74 xbad_IA xot_IA_70 dX0_find_43 dX0_find_46 dX0_find_47 dX0_find_49 dX0_find_52 (by decide) (Nat.le_of_ble_eq_true rfl)
      · refine jj_iload hC dX0_find_23 rfl ?_
        refine jj_bipush hC dX0_find_25 (v := nI 20) (by decide) ?_
        refine jj_scalliN hC (xm_isBelow _ _ c1 c2 c3 x3 20 (by decide)) gX0_find_X0_isBelow rfl 2 (by decide +kernel) ⟨by decide, by decide, by decide, by decide⟩ rfl rfl rfl (Nat.le_of_ble_eq_true rfl) dX0_find_27 (fun r u hp => ?_)
        obtain rfl := hp
        refine jj_if_eqB hC dX0_find_30 (tgt := 43) (by decide) (fun c30 => ?_) (fun c30 => ?_)
        · exact hnew _ _ 43 70 72 74 "java/lang/IllegalArgumentException" "no thimble is like this" _ _ (by simp [ts_req, hq2, c11, c20, c30]) (by decide) (by decide) (by decide +kernel) (Or.inr (Or.inl rfl)) xkX0_find_70 xiX0_find_IA xgX0_find_74 xbad_IA xot_IA_70 dX0_find_43 dX0_find_46 dX0_find_47 dX0_find_49 dX0_find_52 (by decide) (Nat.le_of_ble_eq_true rfl)
        · refine jj_iload hC dX0_find_33 rfl ?_
          refine jj_bipush hC dX0_find_35 (v := nI 10) (by decide) ?_
          refine jj_scalliN hC (xm_isBelow _ _ c1 c2 c3 x4 10 (by decide)) gX0_find_X0_isBelow rfl 2 (by decide +kernel) ⟨by decide, by decide, by decide, by decide⟩ rfl rfl rfl (Nat.le_of_ble_eq_true rfl) dX0_find_37 (fun r u hp => ?_)
          obtain rfl := hp
          refine jj_if_neB hC dX0_find_40 (tgt := 53) (by decide) (fun c40 => ?_) (fun c40 => ?_)
          · obtain ⟨j1, hj1, rfl⟩ := ts_in_of c11 (by decide)
            obtain ⟨j2, hj2, rfl⟩ := ts_in_of c20 (by decide)
            obtain ⟨j3, hj3, rfl⟩ := ts_in_of c30 (by decide)
            obtain ⟨j4, hj4, rfl⟩ := ts_in_of c40 (by decide)
            refine jj_aload_n hC dX0_find_53 rfl ?_
            refine jj_get hC 0 2 dX0_find_54 (by rfl) rfl (by decide) lkX0_find_75 rfl hinX0_find (by rfl) ?_
            refine jj_bipush hC dX0_find_57 (v := nI 36) (by decide) ?_
            first | refine jj_icmp_ltN hC dX0_find_59 (tgt := 72) (by decide) (by omega) (by omega) (fun c59 => ?_) (fun c59 => ?_) | refine jj_icmp_lt hC dX0_find_59 (tgt := 72) (by decide) (fun c59 => ?_) (fun c59 => ?_)
            · refine jj_aload_n hC dX0_find_72 rfl ?_
              refine jj_get hC 0 2 dX0_find_73 (by rfl) rfl (by decide) lkX0_find_75 rfl hinX0_find (by rfl) ?_
              refine jj_istore hC dX0_find_76 (by decide) [1, 2, 3, 4, 5, 6, 0] (lv' := [(0, _), (1, _), (2, _), (3, _), (4, _), (5, _), (6, .int _)]) rfl ?_
              refine jj_aload_n hC dX0_find_78 rfl ?_
              refine jj_get hC 0 5 dX0_find_79 (by rfl) rfl (by decide) lkX0_find_9 rfl hinX0_find (by rfl) ?_
              refine jj_iload hC dX0_find_82 rfl ?_
              refine jj_iload_n hC dX0_find_84 rfl ?_
              refine jj_iast hC 1 0 dX0_find_85 (wx_g1 ..) rfl (by omega) (by decide) (wx_s1 ..) ?_
              refine jj_aload_n hC dX0_find_86 rfl ?_
              refine jj_get hC 0 6 dX0_find_87 (by rfl) rfl (by decide) lkX0_find_13 rfl hinX0_find (by rfl) ?_
              refine jj_iload hC dX0_find_90 rfl ?_
              refine jj_iload_n hC dX0_find_92 rfl ?_
              refine jj_iast hC 2 0 dX0_find_93 (wx_g2 ..) rfl (by omega) (by decide) (wx_s2 ..) ?_
              refine jj_aload_n hC dX0_find_94 rfl ?_
              refine jj_get hC 0 7 dX0_find_95 (by rfl) rfl (by decide) lkX0_find_16 rfl hinX0_find (by rfl) ?_
              refine jj_iload hC dX0_find_98 rfl ?_
              refine jj_iload hC dX0_find_100 rfl ?_
              refine jj_iast hC 3 0 dX0_find_102 (wx_g3 ..) rfl (by omega) (by decide) (wx_s3 ..) ?_
              refine jj_aload_n hC dX0_find_103 rfl ?_
              refine jj_get hC 0 8 dX0_find_104 (by rfl) rfl (by decide) lkX0_find_19 rfl hinX0_find (by rfl) ?_
              refine jj_iload hC dX0_find_107 rfl ?_
              refine jj_iload hC dX0_find_109 rfl ?_
              refine jj_iast hC 4 0 dX0_find_111 (wx_g4 ..) rfl (by omega) (by decide) (wx_s4 ..) ?_
              refine jj_aload_n hC dX0_find_112 rfl ?_
              refine jj_get hC 0 9 dX0_find_113 (by rfl) rfl (by decide) lkX0_find_22 rfl hinX0_find (by rfl) ?_
              refine jj_iload hC dX0_find_116 rfl ?_
              refine jj_iload_n hC dX0_find_118 rfl ?_
              refine jj_iast hC 5 0 dX0_find_119 (wx_g5 ..) rfl (by omega) (by decide) (wx_s5 ..) ?_
              refine jj_aload_n hC dX0_find_120 rfl ?_
              refine jj_get hC 0 10 dX0_find_121 (by rfl) rfl (by decide) lkX0_find_25 rfl hinX0_find (by rfl) ?_
              refine jj_iload hC dX0_find_124 rfl ?_
              refine jj_iconst hC dX0_find_126 (v := -1) (by decide) ?_
              refine jj_iast hC 6 0 dX0_find_127 (wx_g6 ..) rfl (by omega) (by decide) (wx_s6 ..) ?_
              refine jj_aload_n hC dX0_find_128 rfl ?_
              refine jj_dup hC dX0_find_129 rfl ?_
              refine jj_get hC 0 2 dX0_find_130 (by rfl) rfl (by decide) lkX0_find_75 rfl hinX0_find (by rfl) ?_
              refine jj_iconst hC dX0_find_133 (v := nI 1) (by decide) ?_
              first | refine jj_iaddN hC dX0_find_134 ?_ | refine jj_iadd hC dX0_find_134 ?_
              refine jj_put hC 0 2 dX0_find_135 (by rfl) rfl (by decide) lkX0_find_75 rfl hinX0_find tyX0_ok nmX0 rfl rfl rfl rfl (Nat.le_of_ble_eq_true rfl) (wx_p2 ..) ?_
              refine jj_iload hC dX0_find_138 rfl ?_
              refine jj_widen (k' := 1) (n' := 6) (by decide) (by decide) ?_
              refine jj_ws (ws' := wx a c1 c2 (ts_fd v (ts_N (nI j0)) (ts_N (nI j1)) (ts_N (nI j2)) (ts_N (nI j3)) (ts_N (nI j4))) g h) (by rw [ts_N_nI (by omega), ts_N_nI (by omega), ts_N_nI (by omega), ts_N_nI (by omega), ts_N_nI (by omega)]; rfl) (hret _ _ _ () (by simp [ts_req, hq2, c11, c20, c30, c40, show ts_n v < 36 by omega]) dX0_find_140 (by rfl) rfl)
            · exact hnew _ _ 62 49 78 53 "java/lang/IllegalStateException" "there are 36 thimbles" _ _ (by simp [ts_req, hq2, c11, c20, c30, c40, show ¬ ts_n v < 36 by omega]) (by decide) (by decide) (by decide +kernel) (Or.inr (Or.inr rfl)) xkX0_find_49 xiX0_find_IS xgX0_find_53 xbad_IS xot_IS_49 dX0_find_62 dX0_find_65 dX0_find_66 dX0_find_68 dX0_find_71 (by decide) (Nat.le_of_ble_eq_true rfl)
          · exact hnew _ _ 43 70 72 74 "java/lang/IllegalArgumentException" "no thimble is like this" _ _ (by simp [ts_req, hq2, c11, c20, c30, c40]) (by decide) (by decide) (by decide +kernel) (Or.inr (Or.inl rfl)) xkX0_find_70 xiX0_find_IA xgX0_find_74 xbad_IA xot_IA_70 dX0_find_43 dX0_find_46 dX0_find_47 dX0_find_49 dX0_find_52 (by decide) (Nat.le_of_ble_eq_true rfl)
theorem lkX0_like_33 : Cond.fieldLink RX0 33 RX0 (TX0 12).2.1 (TX0 12).2.2.1 ∈ wsX0_like := by decide +kernel
theorem xkX0_like_70 : Cond.classLink RX0 70 "java/lang/IllegalArgumentException" ∈ wsX0_like := by decide +kernel
theorem xiX0_like_IA : Cond.initialized "java/lang/IllegalArgumentException" ∈ wsX0_like := by decide +kernel
theorem xgX0_like_74 : ∀ w ∈ (vx_atS RX0 74 "java/lang/IllegalArgumentException" jj_nm).filter goodWord, w ∈ wsX0_like := by decide +kernel
theorem hinX0_like : ∀ w ∈ wsX00, w ∈ wsX0_like := by decide +kernel
set_option maxRecDepth 100000 in
set_option maxHeartbeats 4000000 in
theorem xm_like (l : Launch) (D : va_G) (a : Nat → Nat) (c1 c2 c3 : ClassId) (v : ts_V) (g : Nat → Int32) (h : Int32) (hl : l.stackTraces = false) (hI : ts_I v) (x0 x1 x2 : Int32) : jj_Mx l D (ts_T c1 c2 c3) yX0_like wsX0_like rX0_like [.ref (a 0), .int x0, .int x1, .int x2] (wx a c1 c2 v g h) (((ts_req (ts_in x0 (ts_k v)) jj_IO).or (ts_req (ts_in x1 8) jj_IO)).or (ts_req (ts_in x2 6) jj_IA)) Unit (fun x _ => x = nI (ts_li v (ts_N x0) (ts_N x1))) (fun _ => wx a c1 c2 (ts_li' v (ts_up2 (ts_li v) (ts_N x0) (ts_N x1) (ts_N x2))) g h) := by
  obtain ⟨hn, hk, hth, hwk, hli, hgr⟩ := id hI
  refine jj_metx (cc := cX0_like) (nL := 5) hl rfl (by decide) rfl (Nat.le_of_ble_eq_true rfl) (fun E Q hC hEl hED hD0 hH hV hret hthr hnew => ?_)
  subst hEl
  show jj_J E 0 0 Q (wx a c1 c2 v g h) 0 [(0, .ref (a 0)), (1, .int x0), (2, .int x1), (3, .int x2)] []
  refine jj_aload_n hC dX0_like_0 rfl ?_
  refine jj_iload_n hC dX0_like_1 rfl ?_
  cases hq2 : ts_in x0 (ts_k v) with
  | false => exact jj_callxv hC hH hV (xm_requireCollector _ _ a c1 c2 c3 v g h hl hI _) gX0_like_X0_requireCollector rfl 1 (by decide +kernel) ⟨by decide, by decide, by decide, by decide⟩ 0 0 (by rfl) rfl rfl rfl rfl (Nat.le_of_ble_eq_true rfl) dX0_like_2  (fun Ex hEx => hthr _ _ _ _ (by simpa [ts_req, hq2, ] using hEx)) (fun hEx => by simp [ts_req, hq2] at hEx)
  | true =>
    obtain ⟨j0, hj0, rfl⟩ := ts_in_of hq2 (by omega)
    refine jj_callv hC (xp_requireCollector _ _ a c1 c2 c3 v g h hI _ hq2) gX0_like_X0_requireCollector rfl 1 (by decide +kernel) ⟨by decide, by decide, by decide, by decide⟩ 0 0 (by rfl) rfl rfl rfl rfl (Nat.le_of_ble_eq_true rfl) dX0_like_2  (fun u hp => ?_)
    refine jj_iload_n hC dX0_like_5 rfl ?_
    cases hq6 : ts_in x1 8 with
    | false => exact jj_scallxvN hC hH hV (xm_requireSet _ _ c1 c2 c3 hl _) gX0_like_X0_requireSet rfl 1 (by decide +kernel) ⟨by decide, by decide, by decide, by decide⟩ rfl rfl rfl (Nat.le_of_ble_eq_true rfl) dX0_like_6  (fun Ex hEx => hthr _ _ _ _ (by simpa [ts_req, hq6, hq2] using hEx)) (fun hEx => by simp [ts_req, hq6] at hEx)
    | true =>
      obtain ⟨j1, hj1, rfl⟩ := ts_in_of hq6 (by decide)
      refine jj_scallvL (ws := []) hC (xp_requireSet _ _ c1 c2 c3 _ hq6) gX0_like_X0_requireSet rfl 1 (by decide +kernel) ⟨by decide, by decide, by decide, by decide⟩ rfl rfl rfl (Nat.le_of_ble_eq_true rfl) dX0_like_6  (fun u hp => ?_)
      show jj_J E _ _ Q _ _ _ _
      refine jj_iload_n hC dX0_like_9 rfl ?_
      refine jj_bipush hC dX0_like_10 (v := nI 6) (by decide) ?_
      refine jj_scalliN hC (xm_isBelow _ _ c1 c2 c3 x2 6 (by decide)) gX0_like_X0_isBelow rfl 2 (by decide +kernel) ⟨by decide, by decide, by decide, by decide⟩ rfl rfl rfl (Nat.le_of_ble_eq_true rfl) dX0_like_12 (fun r u hp => ?_)
      obtain rfl := hp
      refine jj_if_neB hC dX0_like_15 (tgt := 28) (by decide) (fun c15 => ?_) (fun c15 => ?_)
      · obtain ⟨j2, hj2, rfl⟩ := ts_in_of c15 (by decide)
        refine jj_aload_n hC dX0_like_28 rfl ?_
        refine jj_get hC 0 12 dX0_like_29 (by rfl) rfl (by decide) lkX0_like_33 rfl hinX0_like (by rfl) ?_
        refine jj_iload_n hC dX0_like_32 rfl ?_
        refine jj_aald hC 8 1 dX0_like_33 (wx_g8 ..) rfl rfl (by omega) (by decide) (if_pos (by omega)) ?_
        refine jj_iload_n hC dX0_like_34 rfl ?_
        refine jj_iald hC _ 0 dX0_like_35 (wx_gli _ _ _ _ _ _ _ (by omega)) rfl (by omega) (by decide) ?_
        refine jj_istore hC dX0_like_36 (by decide) [1, 2, 3, 4, 0] (lv' := [(0, _), (1, _), (2, _), (3, _), (4, .int _)]) rfl ?_
        refine jj_aload_n hC dX0_like_38 rfl ?_
        refine jj_get hC 0 12 dX0_like_39 (by rfl) rfl (by decide) lkX0_like_33 rfl hinX0_like (by rfl) ?_
        refine jj_iload_n hC dX0_like_42 rfl ?_
        refine jj_aald hC 8 1 dX0_like_43 (wx_g8 ..) rfl rfl (by omega) (by decide) (if_pos (by omega)) ?_
        refine jj_iload_n hC dX0_like_44 rfl ?_
        refine jj_iload_n hC dX0_like_45 rfl ?_
        refine jj_iast hC _ 0 dX0_like_46 (wx_gli _ _ _ _ _ _ _ (by omega)) rfl (by omega) (by decide) (wx_sli _ _ _ _ _ _ _ _ _ (by omega)) ?_
        refine jj_iload hC dX0_like_47 rfl ?_
        refine jj_widen (k' := 1) (n' := 6) (by decide) (by decide) ?_
        refine jj_ws (ws' := wx a c1 c2 (ts_li' v (ts_up2 (ts_li v) (ts_N (nI j0)) (ts_N (nI j1)) (ts_N (nI j2)))) g h) (by rw [ts_N_nI (by omega), ts_N_nI (by omega), ts_N_nI (by omega)]) ?_
        exact hret _ _ _ () (by simp [ts_req, hq2, hq6, c15]) dX0_like_49 (by rfl) (by rw [ts_N_nI (by omega), ts_N_nI (by omega)])
      · exact hnew _ _ 18 70 83 74 "java/lang/IllegalArgumentException" "a liking is 0 to 5" _ _ (by simp [ts_req, hq2, hq6, c15]) (by decide) (by decide) (by decide +kernel) (Or.inr (Or.inl rfl)) xkX0_like_70 xiX0_like_IA xgX0_like_74 xbad_IA xot_IA_70 dX0_like_18 dX0_like_21 dX0_like_22 dX0_like_24 dX0_like_27 (by decide) (Nat.le_of_ble_eq_true rfl)
theorem lkX0_collector_39 : Cond.fieldLink RX0 39 RX0 (TX0 14).2.1 (TX0 14).2.2.1 ∈ wsX0_collector := by decide +kernel
theorem hinX0_collector : ∀ w ∈ wsX00, w ∈ wsX0_collector := by decide +kernel
set_option maxRecDepth 100000 in
set_option maxHeartbeats 4000000 in
theorem xm_collector (l : Launch) (D : va_G) (a : Nat → Nat) (c1 c2 c3 : ClassId) (v : ts_V) (g : Nat → Int32) (h : Int32) (hl : l.stackTraces = false) (hI : ts_I v) (x0 x1 : Int32) : jj_Mx l D (ts_T c1 c2 c3) yX0_collector wsX0_collector rX0_collector [.ref (a 0), .int x0, .int x1] (wx a c1 c2 v g h) ((ts_req (ts_in x0 (ts_k v)) jj_IO).or (ts_req (ts_in x1 7) jj_IO)) ((Nat → Int32) × Int32) (fun x _ => x = ts_ct v (ts_N x0) (ts_N x1)) (fun u => wx a c1 c2 v u.1 u.2) := by
  obtain ⟨hn, hk, hth, hwk, hli, hgr⟩ := id hI
  refine jj_metx (cc := cX0_collector) (nL := 3) hl rfl (by decide) rfl (Nat.le_of_ble_eq_true rfl) (fun E Q hC hEl hED hD0 hH hV hret hthr hnew => ?_)
  subst hEl
  show jj_J E 0 0 Q (wx a c1 c2 v g h) 0 [(0, .ref (a 0)), (1, .int x0), (2, .int x1)] []
  refine jj_aload_n hC dX0_collector_0 rfl ?_
  refine jj_iload_n hC dX0_collector_1 rfl ?_
  cases hq2 : ts_in x0 (ts_k v) with
  | false => exact jj_callxv hC hH hV (xm_requireCollector _ _ a c1 c2 c3 v g h hl hI _) gX0_collector_X0_requireCollector rfl 1 (by decide +kernel) ⟨by decide, by decide, by decide, by decide⟩ 0 0 (by rfl) rfl rfl rfl rfl (Nat.le_of_ble_eq_true rfl) dX0_collector_2  (fun Ex hEx => hthr _ _ _ _ (by simpa [ts_req, hq2, ] using hEx)) (fun hEx => by simp [ts_req, hq2] at hEx)
  | true =>
    obtain ⟨j0, hj0, rfl⟩ := ts_in_of hq2 (by omega)
    refine jj_callv hC (xp_requireCollector _ _ a c1 c2 c3 v g h hI _ hq2) gX0_collector_X0_requireCollector rfl 1 (by decide +kernel) ⟨by decide, by decide, by decide, by decide⟩ 0 0 (by rfl) rfl rfl rfl rfl (Nat.le_of_ble_eq_true rfl) dX0_collector_2  (fun u hp => ?_)
    refine jj_iload_n hC dX0_collector_5 rfl ?_
    refine jj_bipush hC dX0_collector_6 (v := nI 7) (by decide) ?_
    cases hq8 : ts_in x1 7 with
    | false => exact jj_scallxvN hC hH hV (xm_requireRow _ _ c1 c2 c3 hl _ 7 (by decide)) gX0_collector_X0_requireRow rfl 2 (by decide +kernel) ⟨by decide, by decide, by decide, by decide⟩ rfl rfl rfl (Nat.le_of_ble_eq_true rfl) dX0_collector_8  (fun Ex hEx => hthr _ _ _ _ (by simpa [ts_req, hq8, hq2] using hEx)) (fun hEx => by simp [ts_req, hq8] at hEx)
    | true =>
      obtain ⟨j1, hj1, rfl⟩ := ts_in_of hq8 (by decide)
      refine jj_scallvL (ws := []) hC (xp_requireRow _ _ c1 c2 c3 _ 7 (by decide) hq8) gX0_collector_X0_requireRow rfl 2 (by decide +kernel) ⟨by decide, by decide, by decide, by decide⟩ rfl rfl rfl (Nat.le_of_ble_eq_true rfl) dX0_collector_8  (fun u hp => ?_)
      show jj_J E _ _ Q _ _ _ _
      refine jj_iload_n hC dX0_collector_11 rfl ?_
      rcases (show j1 = 0 ∨ j1 = 1 ∨ j1 = 2 ∨ j1 = 3 ∨ j1 = 4 ∨ j1 = 5 ∨ j1 = 6 by omega) with rfl | rfl | rfl | rfl | rfl | rfl | rfl
      · refine jj_tableIn hC dX0_collector_12 (by decide) (by decide) (off := 40) (by decide) (tgt := 52) (by decide) ?_
        refine jj_aload_n hC dX0_collector_52 rfl ?_
        refine jj_iload_n hC dX0_collector_53 rfl ?_
        refine jj_calli hC (xm_thimblesOf _ _ a c1 c2 c3 v g h hI j0 (by omega)) gX0_collector_X0_thimblesOf rfl 1 (by decide +kernel) ⟨by decide, by decide, by decide, by decide⟩ 0 0 (by rfl) rfl rfl rfl rfl (Nat.le_of_ble_eq_true rfl) dX0_collector_54 (fun r u hp => ?_)
        obtain rfl := hp
        refine jj_widen (k' := 1) (n' := 6) (by decide) (by decide) ?_
        exact hret _ _ _ (g, h) (by simp [ts_req, hq2, hq8]) dX0_collector_57 (by rfl) (by rw [ts_N_nI (by omega), ts_N_nI (by omega)]; rfl)
      · refine jj_tableIn hC dX0_collector_12 (by decide) (by decide) (off := 46) (by decide) (tgt := 58) (by decide) ?_
        refine jj_aload_n hC dX0_collector_58 rfl ?_
        refine jj_iload_n hC dX0_collector_59 rfl ?_
        refine jj_calli hC (xm_thimblesLentBy _ _ a c1 c2 c3 v g h hI j0 (by omega)) gX0_collector_X0_thimblesLentBy rfl 1 (by decide +kernel) ⟨by decide, by decide, by decide, by decide⟩ 0 0 (by rfl) rfl rfl rfl rfl (Nat.le_of_ble_eq_true rfl) dX0_collector_60 (fun r u hp => ?_)
        obtain rfl := hp
        refine jj_widen (k' := 1) (n' := 6) (by decide) (by decide) ?_
        exact hret _ _ _ (g, h) (by simp [ts_req, hq2, hq8]) dX0_collector_63 (by rfl) (by rw [ts_N_nI (by omega), ts_N_nI (by omega)]; rfl)
      · refine jj_tableIn hC dX0_collector_12 (by decide) (by decide) (off := 52) (by decide) (tgt := 64) (by decide) ?_
        refine jj_aload_n hC dX0_collector_64 rfl ?_
        refine jj_iload_n hC dX0_collector_65 rfl ?_
        refine jj_calli hC (xm_differentHallmarks _ _ a c1 c2 c3 v g h hI j0 hj0) gX0_collector_X0_differentHallmarks rfl 1 (by decide +kernel) ⟨by decide, by decide, by decide, by decide⟩ 0 0 (by rfl) rfl rfl rfl rfl (Nat.le_of_ble_eq_true rfl) dX0_collector_66 (fun r u hp => ?_)
        obtain rfl := hp
        refine jj_widen (k' := 1) (n' := 6) (by decide) (by decide) ?_
        exact hret _ _ _ u (by simp [ts_req, hq2, hq8]) dX0_collector_69 (by rfl) (by rw [ts_N_nI (by omega), ts_N_nI (by omega)]; rfl)
      · refine jj_tableIn hC dX0_collector_12 (by decide) (by decide) (off := 58) (by decide) (tgt := 70) (by decide) ?_
        refine jj_aload_n hC dX0_collector_70 rfl ?_
        refine jj_iload_n hC dX0_collector_71 rfl ?_
        refine jj_calli hC (xm_worthNow _ _ a c1 c2 c3 v g h hI j0 hj0) gX0_collector_X0_worthNow rfl 1 (by decide +kernel) ⟨by decide, by decide, by decide, by decide⟩ 0 0 (by rfl) rfl rfl rfl rfl (Nat.le_of_ble_eq_true rfl) dX0_collector_72 (fun r u hp => ?_)
        obtain rfl := hp
        refine jj_widen (k' := 1) (n' := 6) (by decide) (by decide) ?_
        exact hret _ _ _ u (by simp [ts_req, hq2, hq8]) dX0_collector_75 (by rfl) (by rw [ts_N_nI (by omega), ts_N_nI (by omega)]; rfl)
      · refine jj_tableIn hC dX0_collector_12 (by decide) (by decide) (off := 64) (by decide) (tgt := 76) (by decide) ?_
        refine jj_aload_n hC dX0_collector_76 rfl ?_
        refine jj_iload_n hC dX0_collector_77 rfl ?_
        refine jj_calli hC (xm_wholeSets _ _ a c1 c2 c3 v g h hI j0 hj0) gX0_collector_X0_wholeSets rfl 1 (by decide +kernel) ⟨by decide, by decide, by decide, by decide⟩ 0 0 (by rfl) rfl rfl rfl rfl (Nat.le_of_ble_eq_true rfl) dX0_collector_78 (fun r u hp => ?_)
        obtain rfl := hp
        refine jj_widen (k' := 1) (n' := 6) (by decide) (by decide) ?_
        exact hret _ _ _ u (by simp [ts_req, hq2, hq8]) dX0_collector_81 (by rfl) (by rw [ts_N_nI (by omega), ts_N_nI (by omega)]; rfl)
      · refine jj_tableIn hC dX0_collector_12 (by decide) (by decide) (off := 70) (by decide) (tgt := 82) (by decide) ?_
        refine jj_aload_n hC dX0_collector_82 rfl ?_
        refine jj_iload_n hC dX0_collector_83 rfl ?_
        refine jj_calli hC (xm_allGrudgesOf _ _ a c1 c2 c3 v g h hI j0 (by omega)) gX0_collector_X0_allGrudgesOf rfl 1 (by decide +kernel) ⟨by decide, by decide, by decide, by decide⟩ 0 0 (by rfl) rfl rfl rfl rfl (Nat.le_of_ble_eq_true rfl) dX0_collector_84 (fun r u hp => ?_)
        obtain rfl := hp
        refine jj_widen (k' := 1) (n' := 6) (by decide) (by decide) ?_
        exact hret _ _ _ (g, h) (by simp [ts_req, hq2, hq8]) dX0_collector_87 (by rfl) (by rw [ts_N_nI (by omega), ts_N_nI (by omega)]; rfl)
      · refine jj_tableOut hC dX0_collector_12 (Or.inr (by decide)) (tgt := 88) (by decide) ?_
        refine jj_aload_n hC dX0_collector_88 rfl ?_
        refine jj_get hC 0 14 dX0_collector_89 (by rfl) rfl (by decide) lkX0_collector_39 rfl hinX0_collector (by rfl) ?_
        refine jj_iload_n hC dX0_collector_92 rfl ?_
        refine jj_iald hC 10 0 dX0_collector_93 (wx_g10 ..) rfl (by omega) (by decide) ?_
        refine jj_widen (k' := 1) (n' := 6) (by decide) (by decide) ?_
        exact hret _ _ _ (g, h) (by simp [ts_req, hq2, hq8]) dX0_collector_94 (by rfl) (by rw [ts_N_nI (by omega), ts_N_nI (by omega)]; rfl)
set_option maxRecDepth 100000 in
set_option maxHeartbeats 4000000 in
theorem xp_collector (l : Launch) (D : va_G) (a : Nat → Nat) (c1 c2 c3 : ClassId) (v : ts_V) (g : Nat → Int32) (h : Int32) (hI : ts_I v) (j0 j1 : Nat) (hj0 : j0 < ts_k v) (hj1 : j1 < 7) : jj_M l D (ts_T c1 c2 c3) yX0_collector wsX0_collector pX0_collector [.ref (a 0), .int (nI j0), .int (nI j1)] (wx a c1 c2 v g h) ((Nat → Int32) × Int32) (fun x _ => x = ts_ct v j0 j1) (fun u => wx a c1 c2 v u.1 u.2) := by
  obtain ⟨hn, hk, hth, hwk, hli, hgr⟩ := id hI
  have hq2 : ts_in (nI j0) (ts_k v) = true := by rw [ts_in_nI (by omega)]; exact decide_eq_true hj0
  have hq8 : ts_in (nI j1) 7 = true := by rw [ts_in_nI (by omega)]; exact decide_eq_true hj1
  refine jj_met (cc := cX0_collector) (nL := 3) (by decide) rfl (Nat.le_of_ble_eq_true rfl) (fun E Q hC hEl hED hD0 hret => ?_)
  show jj_J E 0 0 Q (wx a c1 c2 v g h) 0 [(0, .ref (a 0)), (1, .int (nI j0)), (2, .int (nI j1))] []
  refine jj_aload_n hC dX0_collector_0 rfl ?_
  refine jj_iload_n hC dX0_collector_1 rfl ?_
  refine jj_callv hC (xp_requireCollector _ _ a c1 c2 c3 v g h hI _ hq2) gX0_collector_X0_requireCollector rfl 1 (by decide +kernel) ⟨by decide, by decide, by decide, by decide⟩ 0 0 (by rfl) rfl rfl rfl rfl (Nat.le_of_ble_eq_true rfl) dX0_collector_2  (fun u hp => ?_)
  refine jj_iload_n hC dX0_collector_5 rfl ?_
  refine jj_bipush hC dX0_collector_6 (v := nI 7) (by decide) ?_
  refine jj_scallvL (ws := []) hC (xp_requireRow _ _ c1 c2 c3 _ 7 (by decide) hq8) gX0_collector_X0_requireRow rfl 2 (by decide +kernel) ⟨by decide, by decide, by decide, by decide⟩ rfl rfl rfl (Nat.le_of_ble_eq_true rfl) dX0_collector_8  (fun u hp => ?_)
  show jj_J E _ _ Q _ _ _ _
  refine jj_iload_n hC dX0_collector_11 rfl ?_
  rcases (show j1 = 0 ∨ j1 = 1 ∨ j1 = 2 ∨ j1 = 3 ∨ j1 = 4 ∨ j1 = 5 ∨ j1 = 6 by omega) with rfl | rfl | rfl | rfl | rfl | rfl | rfl
  · refine jj_tableIn hC dX0_collector_12 (by decide) (by decide) (off := 40) (by decide) (tgt := 52) (by decide) ?_
    refine jj_aload_n hC dX0_collector_52 rfl ?_
    refine jj_iload_n hC dX0_collector_53 rfl ?_
    refine jj_calli hC (xm_thimblesOf _ _ a c1 c2 c3 v g h hI j0 (by omega)) gX0_collector_X0_thimblesOf rfl 1 (by decide +kernel) ⟨by decide, by decide, by decide, by decide⟩ 0 0 (by rfl) rfl rfl rfl rfl (Nat.le_of_ble_eq_true rfl) dX0_collector_54 (fun r u hp => ?_)
    obtain rfl := hp
    exact hret _ _ _ (g, h) dX0_collector_57 (by rfl) rfl
  · refine jj_tableIn hC dX0_collector_12 (by decide) (by decide) (off := 46) (by decide) (tgt := 58) (by decide) ?_
    refine jj_aload_n hC dX0_collector_58 rfl ?_
    refine jj_iload_n hC dX0_collector_59 rfl ?_
    refine jj_calli hC (xm_thimblesLentBy _ _ a c1 c2 c3 v g h hI j0 (by omega)) gX0_collector_X0_thimblesLentBy rfl 1 (by decide +kernel) ⟨by decide, by decide, by decide, by decide⟩ 0 0 (by rfl) rfl rfl rfl rfl (Nat.le_of_ble_eq_true rfl) dX0_collector_60 (fun r u hp => ?_)
    obtain rfl := hp
    exact hret _ _ _ (g, h) dX0_collector_63 (by rfl) rfl
  · refine jj_tableIn hC dX0_collector_12 (by decide) (by decide) (off := 52) (by decide) (tgt := 64) (by decide) ?_
    refine jj_aload_n hC dX0_collector_64 rfl ?_
    refine jj_iload_n hC dX0_collector_65 rfl ?_
    refine jj_calli hC (xm_differentHallmarks _ _ a c1 c2 c3 v g h hI j0 hj0) gX0_collector_X0_differentHallmarks rfl 1 (by decide +kernel) ⟨by decide, by decide, by decide, by decide⟩ 0 0 (by rfl) rfl rfl rfl rfl (Nat.le_of_ble_eq_true rfl) dX0_collector_66 (fun r u hp => ?_)
    obtain rfl := hp
    exact hret _ _ _ u dX0_collector_69 (by rfl) rfl
  · refine jj_tableIn hC dX0_collector_12 (by decide) (by decide) (off := 58) (by decide) (tgt := 70) (by decide) ?_
    refine jj_aload_n hC dX0_collector_70 rfl ?_
    refine jj_iload_n hC dX0_collector_71 rfl ?_
    refine jj_calli hC (xm_worthNow _ _ a c1 c2 c3 v g h hI j0 hj0) gX0_collector_X0_worthNow rfl 1 (by decide +kernel) ⟨by decide, by decide, by decide, by decide⟩ 0 0 (by rfl) rfl rfl rfl rfl (Nat.le_of_ble_eq_true rfl) dX0_collector_72 (fun r u hp => ?_)
    obtain rfl := hp
    exact hret _ _ _ u dX0_collector_75 (by rfl) rfl
  · refine jj_tableIn hC dX0_collector_12 (by decide) (by decide) (off := 64) (by decide) (tgt := 76) (by decide) ?_
    refine jj_aload_n hC dX0_collector_76 rfl ?_
    refine jj_iload_n hC dX0_collector_77 rfl ?_
    refine jj_calli hC (xm_wholeSets _ _ a c1 c2 c3 v g h hI j0 hj0) gX0_collector_X0_wholeSets rfl 1 (by decide +kernel) ⟨by decide, by decide, by decide, by decide⟩ 0 0 (by rfl) rfl rfl rfl rfl (Nat.le_of_ble_eq_true rfl) dX0_collector_78 (fun r u hp => ?_)
    obtain rfl := hp
    exact hret _ _ _ u dX0_collector_81 (by rfl) rfl
  · refine jj_tableIn hC dX0_collector_12 (by decide) (by decide) (off := 70) (by decide) (tgt := 82) (by decide) ?_
    refine jj_aload_n hC dX0_collector_82 rfl ?_
    refine jj_iload_n hC dX0_collector_83 rfl ?_
    refine jj_calli hC (xm_allGrudgesOf _ _ a c1 c2 c3 v g h hI j0 (by omega)) gX0_collector_X0_allGrudgesOf rfl 1 (by decide +kernel) ⟨by decide, by decide, by decide, by decide⟩ 0 0 (by rfl) rfl rfl rfl rfl (Nat.le_of_ble_eq_true rfl) dX0_collector_84 (fun r u hp => ?_)
    obtain rfl := hp
    exact hret _ _ _ (g, h) dX0_collector_87 (by rfl) rfl
  · refine jj_tableOut hC dX0_collector_12 (Or.inr (by decide)) (tgt := 88) (by decide) ?_
    refine jj_aload_n hC dX0_collector_88 rfl ?_
    refine jj_get hC 0 14 dX0_collector_89 (by rfl) rfl (by decide) lkX0_collector_39 rfl hinX0_collector (by rfl) ?_
    refine jj_iload_n hC dX0_collector_92 rfl ?_
    refine jj_iald hC 10 0 dX0_collector_93 (wx_g10 ..) rfl (by omega) (by decide) ?_
    exact hret _ _ _ (g, h) dX0_collector_94 (by rfl) rfl
theorem lkX0_grudge_36 : Cond.fieldLink RX0 36 RX0 (TX0 13).2.1 (TX0 13).2.2.1 ∈ wsX0_grudge := by decide +kernel
theorem hinX0_grudge : ∀ w ∈ wsX00, w ∈ wsX0_grudge := by decide +kernel
set_option maxRecDepth 100000 in
set_option maxHeartbeats 4000000 in
theorem xm_grudge (l : Launch) (D : va_G) (a : Nat → Nat) (c1 c2 c3 : ClassId) (v : ts_V) (g : Nat → Int32) (h : Int32) (hl : l.stackTraces = false) (hI : ts_I v) (x0 x1 : Int32) : jj_Mx l D (ts_T c1 c2 c3) yX0_grudge wsX0_grudge rX0_grudge [.ref (a 0), .int x0, .int x1] (wx a c1 c2 v g h) ((ts_req (ts_in x0 (ts_k v)) jj_IO).or (ts_req (ts_in x1 (ts_k v)) jj_IO)) Unit (fun x _ => x = nI (ts_gr v (ts_N x0) (ts_N x1))) (fun _ => wx a c1 c2 v g h) := by
  obtain ⟨hn, hk, hth, hwk, hli, hgr⟩ := id hI
  refine jj_metx (cc := cX0_grudge) (nL := 3) hl rfl (by decide) rfl (Nat.le_of_ble_eq_true rfl) (fun E Q hC hEl hED hD0 hH hV hret hthr hnew => ?_)
  subst hEl
  show jj_J E 0 0 Q (wx a c1 c2 v g h) 0 [(0, .ref (a 0)), (1, .int x0), (2, .int x1)] []
  refine jj_aload_n hC dX0_grudge_0 rfl ?_
  refine jj_iload_n hC dX0_grudge_1 rfl ?_
  cases hq2 : ts_in x0 (ts_k v) with
  | false => exact jj_callxv hC hH hV (xm_requireCollector _ _ a c1 c2 c3 v g h hl hI _) gX0_grudge_X0_requireCollector rfl 1 (by decide +kernel) ⟨by decide, by decide, by decide, by decide⟩ 0 0 (by rfl) rfl rfl rfl rfl (Nat.le_of_ble_eq_true rfl) dX0_grudge_2  (fun Ex hEx => hthr _ _ _ _ (by simpa [ts_req, hq2, ] using hEx)) (fun hEx => by simp [ts_req, hq2] at hEx)
  | true =>
    obtain ⟨j0, hj0, rfl⟩ := ts_in_of hq2 (by omega)
    refine jj_callv hC (xp_requireCollector _ _ a c1 c2 c3 v g h hI _ hq2) gX0_grudge_X0_requireCollector rfl 1 (by decide +kernel) ⟨by decide, by decide, by decide, by decide⟩ 0 0 (by rfl) rfl rfl rfl rfl (Nat.le_of_ble_eq_true rfl) dX0_grudge_2  (fun u hp => ?_)
    refine jj_aload_n hC dX0_grudge_5 rfl ?_
    refine jj_iload_n hC dX0_grudge_6 rfl ?_
    cases hq7 : ts_in x1 (ts_k v) with
    | false => exact jj_callxv hC hH hV (xm_requireCollector _ _ a c1 c2 c3 v g h hl hI _) gX0_grudge_X0_requireCollector rfl 1 (by decide +kernel) ⟨by decide, by decide, by decide, by decide⟩ 0 0 (by rfl) rfl rfl rfl rfl (Nat.le_of_ble_eq_true rfl) dX0_grudge_7  (fun Ex hEx => hthr _ _ _ _ (by simpa [ts_req, hq7, hq2] using hEx)) (fun hEx => by simp [ts_req, hq7] at hEx)
    | true =>
      obtain ⟨j1, hj1, rfl⟩ := ts_in_of hq7 (by omega)
      refine jj_callv hC (xp_requireCollector _ _ a c1 c2 c3 v g h hI _ hq7) gX0_grudge_X0_requireCollector rfl 1 (by decide +kernel) ⟨by decide, by decide, by decide, by decide⟩ 0 0 (by rfl) rfl rfl rfl rfl (Nat.le_of_ble_eq_true rfl) dX0_grudge_7  (fun u hp => ?_)
      refine jj_aload_n hC dX0_grudge_10 rfl ?_
      refine jj_get hC 0 13 dX0_grudge_11 (by rfl) rfl (by decide) lkX0_grudge_36 rfl hinX0_grudge (by rfl) ?_
      refine jj_iload_n hC dX0_grudge_14 rfl ?_
      refine jj_aald hC 9 1 dX0_grudge_15 (wx_g9 ..) rfl rfl (by omega) (by decide) (if_pos (by omega)) ?_
      refine jj_iload_n hC dX0_grudge_16 rfl ?_
      refine jj_iald hC _ 0 dX0_grudge_17 (wx_ggr _ _ _ _ _ _ _ (by omega)) rfl (by omega) (by decide) ?_
      refine jj_widen (k' := 1) (n' := 6) (by decide) (by decide) ?_
      exact hret _ _ _ () (by simp [ts_req, hq2, hq7]) dX0_grudge_18 (by rfl) (by rw [ts_N_nI (by omega), ts_N_nI (by omega)])
theorem lkX0_thimble_9 : Cond.fieldLink RX0 9 RX0 (TX0 5).2.1 (TX0 5).2.2.1 ∈ wsX0_thimble := by decide +kernel
theorem lkX0_thimble_13 : Cond.fieldLink RX0 13 RX0 (TX0 6).2.1 (TX0 6).2.2.1 ∈ wsX0_thimble := by decide +kernel
theorem lkX0_thimble_16 : Cond.fieldLink RX0 16 RX0 (TX0 7).2.1 (TX0 7).2.2.1 ∈ wsX0_thimble := by decide +kernel
theorem lkX0_thimble_19 : Cond.fieldLink RX0 19 RX0 (TX0 8).2.1 (TX0 8).2.2.1 ∈ wsX0_thimble := by decide +kernel
theorem lkX0_thimble_22 : Cond.fieldLink RX0 22 RX0 (TX0 9).2.1 (TX0 9).2.2.1 ∈ wsX0_thimble := by decide +kernel
theorem lkX0_thimble_25 : Cond.fieldLink RX0 25 RX0 (TX0 10).2.1 (TX0 10).2.2.1 ∈ wsX0_thimble := by decide +kernel
theorem hinX0_thimble : ∀ w ∈ wsX00, w ∈ wsX0_thimble := by decide +kernel
set_option maxRecDepth 100000 in
set_option maxHeartbeats 4000000 in
theorem xm_thimble (l : Launch) (D : va_G) (a : Nat → Nat) (c1 c2 c3 : ClassId) (v : ts_V) (g : Nat → Int32) (h : Int32) (hl : l.stackTraces = false) (hI : ts_I v) (x0 x1 : Int32) : jj_Mx l D (ts_T c1 c2 c3) yX0_thimble wsX0_thimble rX0_thimble [.ref (a 0), .int x0, .int x1] (wx a c1 c2 v g h) ((ts_req (ts_in x0 (ts_n v)) jj_IO).or (ts_req (ts_in x1 6) jj_IO)) Unit (fun x _ => x = ts_col v (ts_N x1) (ts_N x0)) (fun _ => wx a c1 c2 v g h) := by
  obtain ⟨hn, hk, hth, hwk, hli, hgr⟩ := id hI
  refine jj_metx (cc := cX0_thimble) (nL := 3) hl rfl (by decide) rfl (Nat.le_of_ble_eq_true rfl) (fun E Q hC hEl hED hD0 hH hV hret hthr hnew => ?_)
  subst hEl
  show jj_J E 0 0 Q (wx a c1 c2 v g h) 0 [(0, .ref (a 0)), (1, .int x0), (2, .int x1)] []
  refine jj_aload_n hC dX0_thimble_0 rfl ?_
  refine jj_iload_n hC dX0_thimble_1 rfl ?_
  cases hq2 : ts_in x0 (ts_n v) with
  | false => exact jj_callxv hC hH hV (xm_requireThimble _ _ a c1 c2 c3 v g h hl hI _) gX0_thimble_X0_requireThimble rfl 1 (by decide +kernel) ⟨by decide, by decide, by decide, by decide⟩ 0 0 (by rfl) rfl rfl rfl rfl (Nat.le_of_ble_eq_true rfl) dX0_thimble_2  (fun Ex hEx => hthr _ _ _ _ (by simpa [ts_req, hq2, ] using hEx)) (fun hEx => by simp [ts_req, hq2] at hEx)
  | true =>
    obtain ⟨j0, hj0, rfl⟩ := ts_in_of hq2 (by omega)
    refine jj_callv hC (xp_requireThimble _ _ a c1 c2 c3 v g h hI _ hq2) gX0_thimble_X0_requireThimble rfl 1 (by decide +kernel) ⟨by decide, by decide, by decide, by decide⟩ 0 0 (by rfl) rfl rfl rfl rfl (Nat.le_of_ble_eq_true rfl) dX0_thimble_2  (fun u hp => ?_)
    refine jj_iload_n hC dX0_thimble_5 rfl ?_
    refine jj_bipush hC dX0_thimble_6 (v := nI 6) (by decide) ?_
    cases hq8 : ts_in x1 6 with
    | false => exact jj_scallxvN hC hH hV (xm_requireRow _ _ c1 c2 c3 hl _ 6 (by decide)) gX0_thimble_X0_requireRow rfl 2 (by decide +kernel) ⟨by decide, by decide, by decide, by decide⟩ rfl rfl rfl (Nat.le_of_ble_eq_true rfl) dX0_thimble_8  (fun Ex hEx => hthr _ _ _ _ (by simpa [ts_req, hq8, hq2] using hEx)) (fun hEx => by simp [ts_req, hq8] at hEx)
    | true =>
      obtain ⟨j1, hj1, rfl⟩ := ts_in_of hq8 (by decide)
      refine jj_scallvL (ws := []) hC (xp_requireRow _ _ c1 c2 c3 _ 6 (by decide) hq8) gX0_thimble_X0_requireRow rfl 2 (by decide +kernel) ⟨by decide, by decide, by decide, by decide⟩ rfl rfl rfl (Nat.le_of_ble_eq_true rfl) dX0_thimble_8  (fun u hp => ?_)
      show jj_J E _ _ Q _ _ _ _
      refine jj_iload_n hC dX0_thimble_11 rfl ?_
      rcases (show j1 = 0 ∨ j1 = 1 ∨ j1 = 2 ∨ j1 = 3 ∨ j1 = 4 ∨ j1 = 5 by omega) with rfl | rfl | rfl | rfl | rfl | rfl
      · refine jj_tableIn hC dX0_thimble_12 (by decide) (by decide) (off := 36) (by decide) (tgt := 48) (by decide) ?_
        refine jj_aload_n hC dX0_thimble_48 rfl ?_
        refine jj_get hC 0 5 dX0_thimble_49 (by rfl) rfl (by decide) lkX0_thimble_9 rfl hinX0_thimble (by rfl) ?_
        refine jj_iload_n hC dX0_thimble_52 rfl ?_
        refine jj_iald hC 1 0 dX0_thimble_53 (wx_g1 ..) rfl (by omega) (by decide) ?_
        refine jj_widen (k' := 1) (n' := 6) (by decide) (by decide) ?_
        exact hret _ _ _ () (by simp [ts_req, hq2, hq8]) dX0_thimble_54 (by rfl) (by rw [ts_N_nI (by omega), ts_N_nI (by omega)]; rfl)
      · refine jj_tableIn hC dX0_thimble_12 (by decide) (by decide) (off := 43) (by decide) (tgt := 55) (by decide) ?_
        refine jj_aload_n hC dX0_thimble_55 rfl ?_
        refine jj_get hC 0 6 dX0_thimble_56 (by rfl) rfl (by decide) lkX0_thimble_13 rfl hinX0_thimble (by rfl) ?_
        refine jj_iload_n hC dX0_thimble_59 rfl ?_
        refine jj_iald hC 2 0 dX0_thimble_60 (wx_g2 ..) rfl (by omega) (by decide) ?_
        refine jj_widen (k' := 1) (n' := 6) (by decide) (by decide) ?_
        exact hret _ _ _ () (by simp [ts_req, hq2, hq8]) dX0_thimble_61 (by rfl) (by rw [ts_N_nI (by omega), ts_N_nI (by omega)]; rfl)
      · refine jj_tableIn hC dX0_thimble_12 (by decide) (by decide) (off := 50) (by decide) (tgt := 62) (by decide) ?_
        refine jj_aload_n hC dX0_thimble_62 rfl ?_
        refine jj_get hC 0 7 dX0_thimble_63 (by rfl) rfl (by decide) lkX0_thimble_16 rfl hinX0_thimble (by rfl) ?_
        refine jj_iload_n hC dX0_thimble_66 rfl ?_
        refine jj_iald hC 3 0 dX0_thimble_67 (wx_g3 ..) rfl (by omega) (by decide) ?_
        refine jj_widen (k' := 1) (n' := 6) (by decide) (by decide) ?_
        exact hret _ _ _ () (by simp [ts_req, hq2, hq8]) dX0_thimble_68 (by rfl) (by rw [ts_N_nI (by omega), ts_N_nI (by omega)]; rfl)
      · refine jj_tableIn hC dX0_thimble_12 (by decide) (by decide) (off := 57) (by decide) (tgt := 69) (by decide) ?_
        refine jj_aload_n hC dX0_thimble_69 rfl ?_
        refine jj_get hC 0 8 dX0_thimble_70 (by rfl) rfl (by decide) lkX0_thimble_19 rfl hinX0_thimble (by rfl) ?_
        refine jj_iload_n hC dX0_thimble_73 rfl ?_
        refine jj_iald hC 4 0 dX0_thimble_74 (wx_g4 ..) rfl (by omega) (by decide) ?_
        refine jj_widen (k' := 1) (n' := 6) (by decide) (by decide) ?_
        exact hret _ _ _ () (by simp [ts_req, hq2, hq8]) dX0_thimble_75 (by rfl) (by rw [ts_N_nI (by omega), ts_N_nI (by omega)]; rfl)
      · refine jj_tableIn hC dX0_thimble_12 (by decide) (by decide) (off := 64) (by decide) (tgt := 76) (by decide) ?_
        refine jj_aload_n hC dX0_thimble_76 rfl ?_
        refine jj_get hC 0 9 dX0_thimble_77 (by rfl) rfl (by decide) lkX0_thimble_22 rfl hinX0_thimble (by rfl) ?_
        refine jj_iload_n hC dX0_thimble_80 rfl ?_
        refine jj_iald hC 5 0 dX0_thimble_81 (wx_g5 ..) rfl (by omega) (by decide) ?_
        refine jj_widen (k' := 1) (n' := 6) (by decide) (by decide) ?_
        exact hret _ _ _ () (by simp [ts_req, hq2, hq8]) dX0_thimble_82 (by rfl) (by rw [ts_N_nI (by omega), ts_N_nI (by omega)]; rfl)
      · refine jj_tableOut hC dX0_thimble_12 (Or.inr (by decide)) (tgt := 83) (by decide) ?_
        refine jj_aload_n hC dX0_thimble_83 rfl ?_
        refine jj_get hC 0 10 dX0_thimble_84 (by rfl) rfl (by decide) lkX0_thimble_25 rfl hinX0_thimble (by rfl) ?_
        refine jj_iload_n hC dX0_thimble_87 rfl ?_
        refine jj_iald hC 6 0 dX0_thimble_88 (wx_g6 ..) rfl (by omega) (by decide) ?_
        refine jj_widen (k' := 1) (n' := 6) (by decide) (by decide) ?_
        exact hret _ _ _ () (by simp [ts_req, hq2, hq8]) dX0_thimble_89 (by rfl) (by rw [ts_N_nI (by omega), ts_N_nI (by omega)]; rfl)
set_option maxRecDepth 100000 in
set_option maxHeartbeats 4000000 in
theorem xp_thimble (l : Launch) (D : va_G) (a : Nat → Nat) (c1 c2 c3 : ClassId) (v : ts_V) (g : Nat → Int32) (h : Int32) (hI : ts_I v) (j0 j1 : Nat) (hj0 : j0 < ts_n v) (hj1 : j1 < 6) : jj_M l D (ts_T c1 c2 c3) yX0_thimble wsX0_thimble pX0_thimble [.ref (a 0), .int (nI j0), .int (nI j1)] (wx a c1 c2 v g h) Unit (fun x _ => x = ts_col v j1 j0) (fun _ => wx a c1 c2 v g h) := by
  obtain ⟨hn, hk, hth, hwk, hli, hgr⟩ := id hI
  have hq2 : ts_in (nI j0) (ts_n v) = true := by rw [ts_in_nI (by omega)]; exact decide_eq_true hj0
  have hq8 : ts_in (nI j1) 6 = true := by rw [ts_in_nI (by omega)]; exact decide_eq_true hj1
  refine jj_met (cc := cX0_thimble) (nL := 3) (by decide) rfl (Nat.le_of_ble_eq_true rfl) (fun E Q hC hEl hED hD0 hret => ?_)
  show jj_J E 0 0 Q (wx a c1 c2 v g h) 0 [(0, .ref (a 0)), (1, .int (nI j0)), (2, .int (nI j1))] []
  refine jj_aload_n hC dX0_thimble_0 rfl ?_
  refine jj_iload_n hC dX0_thimble_1 rfl ?_
  refine jj_callv hC (xp_requireThimble _ _ a c1 c2 c3 v g h hI _ hq2) gX0_thimble_X0_requireThimble rfl 1 (by decide +kernel) ⟨by decide, by decide, by decide, by decide⟩ 0 0 (by rfl) rfl rfl rfl rfl (Nat.le_of_ble_eq_true rfl) dX0_thimble_2  (fun u hp => ?_)
  refine jj_iload_n hC dX0_thimble_5 rfl ?_
  refine jj_bipush hC dX0_thimble_6 (v := nI 6) (by decide) ?_
  refine jj_scallvL (ws := []) hC (xp_requireRow _ _ c1 c2 c3 _ 6 (by decide) hq8) gX0_thimble_X0_requireRow rfl 2 (by decide +kernel) ⟨by decide, by decide, by decide, by decide⟩ rfl rfl rfl (Nat.le_of_ble_eq_true rfl) dX0_thimble_8  (fun u hp => ?_)
  show jj_J E _ _ Q _ _ _ _
  refine jj_iload_n hC dX0_thimble_11 rfl ?_
  rcases (show j1 = 0 ∨ j1 = 1 ∨ j1 = 2 ∨ j1 = 3 ∨ j1 = 4 ∨ j1 = 5 by omega) with rfl | rfl | rfl | rfl | rfl | rfl
  · refine jj_tableIn hC dX0_thimble_12 (by decide) (by decide) (off := 36) (by decide) (tgt := 48) (by decide) ?_
    refine jj_aload_n hC dX0_thimble_48 rfl ?_
    refine jj_get hC 0 5 dX0_thimble_49 (by rfl) rfl (by decide) lkX0_thimble_9 rfl hinX0_thimble (by rfl) ?_
    refine jj_iload_n hC dX0_thimble_52 rfl ?_
    refine jj_iald hC 1 0 dX0_thimble_53 (wx_g1 ..) rfl (by omega) (by decide) ?_
    exact hret _ _ _ () dX0_thimble_54 (by rfl) rfl
  · refine jj_tableIn hC dX0_thimble_12 (by decide) (by decide) (off := 43) (by decide) (tgt := 55) (by decide) ?_
    refine jj_aload_n hC dX0_thimble_55 rfl ?_
    refine jj_get hC 0 6 dX0_thimble_56 (by rfl) rfl (by decide) lkX0_thimble_13 rfl hinX0_thimble (by rfl) ?_
    refine jj_iload_n hC dX0_thimble_59 rfl ?_
    refine jj_iald hC 2 0 dX0_thimble_60 (wx_g2 ..) rfl (by omega) (by decide) ?_
    exact hret _ _ _ () dX0_thimble_61 (by rfl) rfl
  · refine jj_tableIn hC dX0_thimble_12 (by decide) (by decide) (off := 50) (by decide) (tgt := 62) (by decide) ?_
    refine jj_aload_n hC dX0_thimble_62 rfl ?_
    refine jj_get hC 0 7 dX0_thimble_63 (by rfl) rfl (by decide) lkX0_thimble_16 rfl hinX0_thimble (by rfl) ?_
    refine jj_iload_n hC dX0_thimble_66 rfl ?_
    refine jj_iald hC 3 0 dX0_thimble_67 (wx_g3 ..) rfl (by omega) (by decide) ?_
    exact hret _ _ _ () dX0_thimble_68 (by rfl) rfl
  · refine jj_tableIn hC dX0_thimble_12 (by decide) (by decide) (off := 57) (by decide) (tgt := 69) (by decide) ?_
    refine jj_aload_n hC dX0_thimble_69 rfl ?_
    refine jj_get hC 0 8 dX0_thimble_70 (by rfl) rfl (by decide) lkX0_thimble_19 rfl hinX0_thimble (by rfl) ?_
    refine jj_iload_n hC dX0_thimble_73 rfl ?_
    refine jj_iald hC 4 0 dX0_thimble_74 (wx_g4 ..) rfl (by omega) (by decide) ?_
    exact hret _ _ _ () dX0_thimble_75 (by rfl) rfl
  · refine jj_tableIn hC dX0_thimble_12 (by decide) (by decide) (off := 64) (by decide) (tgt := 76) (by decide) ?_
    refine jj_aload_n hC dX0_thimble_76 rfl ?_
    refine jj_get hC 0 9 dX0_thimble_77 (by rfl) rfl (by decide) lkX0_thimble_22 rfl hinX0_thimble (by rfl) ?_
    refine jj_iload_n hC dX0_thimble_80 rfl ?_
    refine jj_iald hC 5 0 dX0_thimble_81 (wx_g5 ..) rfl (by omega) (by decide) ?_
    exact hret _ _ _ () dX0_thimble_82 (by rfl) rfl
  · refine jj_tableOut hC dX0_thimble_12 (Or.inr (by decide)) (tgt := 83) (by decide) ?_
    refine jj_aload_n hC dX0_thimble_83 rfl ?_
    refine jj_get hC 0 10 dX0_thimble_84 (by rfl) rfl (by decide) lkX0_thimble_25 rfl hinX0_thimble (by rfl) ?_
    refine jj_iload_n hC dX0_thimble_87 rfl ?_
    refine jj_iald hC 6 0 dX0_thimble_88 (wx_g6 ..) rfl (by omega) (by decide) ?_
    exact hret _ _ _ () dX0_thimble_89 (by rfl) rfl
