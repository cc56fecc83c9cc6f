set_option maxRecDepth 100000 in
set_option maxHeartbeats 4000000 in
theorem xm_gains (l : Launch) (D : va_G) (a : Nat → Nat) (c1 c2 c3 : ClassId) (v : ts_V) (g : Nat → Int32) (h : Int32) (hl : l.stackTraces = false) (hI : ts_I v) (x0 x1 : Int32) : jj_Mx l D (ts_T c1 c2 c3) yX0_gains wsX0_gains rX0_gains [.ref (a 0), .int x0, .int x1] (wx a c1 c2 v g h) (((ts_req (ts_in x0 (ts_n v)) jj_IO).or (ts_req (ts_in x1 (ts_n v)) jj_IO)).or (ts_req (decide (¬ ts_ow v (ts_N x0) = ts_ow v (ts_N x1))) jj_IA)) ((Nat → Int32) × Int32) (fun x _ => x = ts_gain v (ts_N x0) (ts_N x1)) (fun u => wx a c1 c2 v u.1 u.2) := by
  obtain ⟨hn, hk, hth, hwk, hli, hgr⟩ := id hI
  refine jj_metx (cc := cX0_gains) (nL := 3) hl rfl (by decide) rfl (Nat.le_of_ble_eq_true rfl) (fun E Q hC hEl hED hD0 hH hV hret hthr hnew => ?_)
  subst hEl
  show jj_J E 0 0 Q (wx a c1 c2 v g h) 0 [(0, .ref (a 0)), (1, .int x0), (2, .int x1)] []
  refine jj_aload_n hC dX0_gains_0 rfl ?_
  refine jj_iload_n hC dX0_gains_1 rfl ?_
  cases hq2 : ts_in x0 (ts_n v) with
  | false => exact jj_callxv hC hH hV (xm_requireThimble _ _ a c1 c2 c3 v g h hl hI _) gX0_gains_X0_requireThimble rfl 1 (by decide +kernel) ⟨by decide, by decide, by decide, by decide⟩ 0 0 (by rfl) rfl rfl rfl rfl (Nat.le_of_ble_eq_true rfl) dX0_gains_2  (fun Ex hEx => hthr _ _ _ _ (by simpa [ts_req, hq2, ] using hEx)) (fun hEx => by simp [ts_req, hq2] at hEx)
  | true =>
    obtain ⟨j0, hj0, rfl⟩ := ts_in_of hq2 (by omega)
    refine jj_callv hC (xp_requireThimble _ _ a c1 c2 c3 v g h hI _ hq2) gX0_gains_X0_requireThimble rfl 1 (by decide +kernel) ⟨by decide, by decide, by decide, by decide⟩ 0 0 (by rfl) rfl rfl rfl rfl (Nat.le_of_ble_eq_true rfl) dX0_gains_2  (fun u hp => ?_)
    refine jj_aload_n hC dX0_gains_5 rfl ?_
    refine jj_iload_n hC dX0_gains_6 rfl ?_
    cases hq7 : ts_in x1 (ts_n v) with
    | false => exact jj_callxv hC hH hV (xm_requireThimble _ _ a c1 c2 c3 v g h hl hI _) gX0_gains_X0_requireThimble rfl 1 (by decide +kernel) ⟨by decide, by decide, by decide, by decide⟩ 0 0 (by rfl) rfl rfl rfl rfl (Nat.le_of_ble_eq_true rfl) dX0_gains_7  (fun Ex hEx => hthr _ _ _ _ (by simpa [ts_req, hq7, hq2] using hEx)) (fun hEx => by simp [ts_req, hq7] at hEx)
    | true =>
      obtain ⟨j1, hj1, rfl⟩ := ts_in_of hq7 (by omega)
      refine jj_callv hC (xp_requireThimble _ _ a c1 c2 c3 v g h hI _ hq7) gX0_gains_X0_requireThimble rfl 1 (by decide +kernel) ⟨by decide, by decide, by decide, by decide⟩ 0 0 (by rfl) rfl rfl rfl rfl (Nat.le_of_ble_eq_true rfl) dX0_gains_7  (fun u hp => ?_)
      have eNj0 : ts_N (nI j0) = j0 := ts_N_nI (by omega)
      have eNj1 : ts_N (nI j1) = j1 := ts_N_nI (by omega)
      refine jj_aload_n hC dX0_gains_10 rfl ?_
      refine jj_iload_n hC dX0_gains_11 rfl ?_
      refine jj_iload_n hC dX0_gains_12 rfl ?_
      cases hq13 : decide (¬ ts_ow v j0 = ts_ow v j1) with
      | false => exact jj_callxv hC hH hV (xm_requireTwoOwners _ _ a c1 c2 c3 v g h hl hI j0 j1 hj0 hj1) gX0_gains_X0_requireTwoOwners rfl 2 (by decide +kernel) ⟨by decide, by decide, by decide, by decide⟩ 0 0 (by rfl) rfl rfl rfl rfl (Nat.le_of_ble_eq_true rfl) dX0_gains_13  (fun Ex hEx => hthr _ _ _ _ (by simpa [ts_req, eNj0, eNj1, hq13, hq2, hq7] using hEx)) (fun hEx => by simp [ts_req, hq13] at hEx)
      | true =>
        refine jj_callv hC (xp_requireTwoOwners _ _ a c1 c2 c3 v g h hI j0 j1 hj0 hj1 hq13) gX0_gains_X0_requireTwoOwners rfl 2 (by decide +kernel) ⟨by decide, by decide, by decide, by decide⟩ 0 0 (by rfl) rfl rfl rfl rfl (Nat.le_of_ble_eq_true rfl) dX0_gains_13  (fun u hp => ?_)
        refine jj_aload_n hC dX0_gains_16 rfl ?_
        refine jj_iload_n hC dX0_gains_17 rfl ?_
        refine jj_iload_n hC dX0_gains_18 rfl ?_
        refine jj_calli hC (xm_gainOfOwner _ _ a c1 c2 c3 v g h hI j0 j1 hj0 hj1) gX0_gains_X0_gainOfOwner rfl 2 (by decide +kernel) ⟨by decide, by decide, by decide, by decide⟩ 0 0 (by rfl) rfl rfl rfl rfl (Nat.le_of_ble_eq_true rfl) dX0_gains_19 (fun r u hp => ?_)
        obtain rfl := hp
        refine jj_widen (k' := 1) (n' := 6) (by decide) (by decide) ?_
        exact hret _ _ _ u (by simp [ts_req, eNj0, eNj1, hq2, hq7, hq13]) dX0_gains_22 (by rfl) (by rw [eNj0, eNj1])
theorem lkX0_swap_22 : Cond.fieldLink RX0 22 RX0 (TX0 9).2.1 (TX0 9).2.2.1 ∈ wsX0_swap := by decide +kernel
theorem lkX0_swap_128 : Cond.fieldLink RX0 128 RX0 (TX0 4).2.1 (TX0 4).2.2.1 ∈ wsX0_swap := by decide +kernel
theorem hinX0_swap : ∀ w ∈ wsX00, w ∈ wsX0_swap := by decide +kernel
set_option maxRecDepth 100000 in
set_option maxHeartbeats 4000000 in
theorem xm_swap (l : Launch) (D : va_G) (a : Nat → Nat) (c1 c2 c3 : ClassId) (v : ts_V) (g : Nat → Int32) (h : Int32) (hl : l.stackTraces = false) (hI : ts_I v) (x0 x1 : Int32) : jj_Mx l D (ts_T c1 c2 c3) yX0_swap wsX0_swap rX0_swap [.ref (a 0), .int x0, .int x1] (wx a c1 c2 v g h) (((((ts_req (ts_in x0 (ts_n v)) jj_IO).or (ts_req (ts_in x1 (ts_n v)) jj_IO)).or (ts_req (decide (¬ ts_ow v (ts_N x0) = ts_ow v (ts_N x1))) jj_IA)).or (ts_req (!(ts_lt v (ts_N x0))) jj_IS)).or (ts_req (!(ts_lt v (ts_N x1))) jj_IS)) ((Nat → Int32) × Int32) (fun x _ => x = (ts_rs v (ts_N x0) (ts_N x1)).1) (fun u => wx a c1 c2 (ts_rs v (ts_N x0) (ts_N x1)).2 u.1 u.2) := by
  obtain ⟨hn, hk, hth, hwk, hli, hgr⟩ := id hI
  refine jj_metx (cc := cX0_swap) (nL := 7) hl rfl (by decide) rfl (Nat.le_of_ble_eq_true rfl) (fun E Q hC hEl hED hD0 hH hV hret hthr hnew => ?_)
  subst hEl
  show jj_J E 0 0 Q (wx a c1 c2 v g h) 0 [(0, .ref (a 0)), (1, .int x0), (2, .int x1)] []
  refine jj_aload_n hC dX0_swap_0 rfl ?_
  refine jj_iload_n hC dX0_swap_1 rfl ?_
  cases hq2 : ts_in x0 (ts_n v) with
  | false => exact jj_callxv hC hH hV (xm_requireThimble _ _ a c1 c2 c3 v g h hl hI _) gX0_swap_X0_requireThimble rfl 1 (by decide +kernel) ⟨by decide, by decide, by decide, by decide⟩ 0 0 (by rfl) rfl rfl rfl rfl (Nat.le_of_ble_eq_true rfl) dX0_swap_2  (fun Ex hEx => hthr _ _ _ _ (by simpa [ts_req, hq2, ] using hEx)) (fun hEx => by simp [ts_req, hq2] at hEx)
  | true =>
    obtain ⟨j0, hj0, rfl⟩ := ts_in_of hq2 (by omega)
    refine jj_callv hC (xp_requireThimble _ _ a c1 c2 c3 v g h hI _ hq2) gX0_swap_X0_requireThimble rfl 1 (by decide +kernel) ⟨by decide, by decide, by decide, by decide⟩ 0 0 (by rfl) rfl rfl rfl rfl (Nat.le_of_ble_eq_true rfl) dX0_swap_2  (fun u hp => ?_)
    refine jj_aload_n hC dX0_swap_5 rfl ?_
    refine jj_iload_n hC dX0_swap_6 rfl ?_
    cases hq7 : ts_in x1 (ts_n v) with
    | false => exact jj_callxv hC hH hV (xm_requireThimble _ _ a c1 c2 c3 v g h hl hI _) gX0_swap_X0_requireThimble rfl 1 (by decide +kernel) ⟨by decide, by decide, by decide, by decide⟩ 0 0 (by rfl) rfl rfl rfl rfl (Nat.le_of_ble_eq_true rfl) dX0_swap_7  (fun Ex hEx => hthr _ _ _ _ (by simpa [ts_req, hq7, hq2] using hEx)) (fun hEx => by simp [ts_req, hq7] at hEx)
    | true =>
      obtain ⟨j1, hj1, rfl⟩ := ts_in_of hq7 (by omega)
      refine jj_callv hC (xp_requireThimble _ _ a c1 c2 c3 v g h hI _ hq7) gX0_swap_X0_requireThimble rfl 1 (by decide +kernel) ⟨by decide, by decide, by decide, by decide⟩ 0 0 (by rfl) rfl rfl rfl rfl (Nat.le_of_ble_eq_true rfl) dX0_swap_7  (fun u hp => ?_)
      have eNj0 : ts_N (nI j0) = j0 := ts_N_nI (by omega)
      have eNj1 : ts_N (nI j1) = j1 := ts_N_nI (by omega)
      refine jj_aload_n hC dX0_swap_10 rfl ?_
      refine jj_iload_n hC dX0_swap_11 rfl ?_
      refine jj_iload_n hC dX0_swap_12 rfl ?_
      cases hq13 : decide (¬ ts_ow v j0 = ts_ow v j1) with
      | false => exact jj_callxv hC hH hV (xm_requireTwoOwners _ _ a c1 c2 c3 v g h hl hI j0 j1 hj0 hj1) gX0_swap_X0_requireTwoOwners rfl 2 (by decide +kernel) ⟨by decide, by decide, by decide, by decide⟩ 0 0 (by rfl) rfl rfl rfl rfl (Nat.le_of_ble_eq_true rfl) dX0_swap_13  (fun Ex hEx => hthr _ _ _ _ (by simpa [ts_req, eNj0, eNj1, hq13, hq2, hq7] using hEx)) (fun hEx => by simp [ts_req, hq13] at hEx)
      | true =>
        refine jj_callv hC (xp_requireTwoOwners _ _ a c1 c2 c3 v g h hI j0 j1 hj0 hj1 hq13) gX0_swap_X0_requireTwoOwners rfl 2 (by decide +kernel) ⟨by decide, by decide, by decide, by decide⟩ 0 0 (by rfl) rfl rfl rfl rfl (Nat.le_of_ble_eq_true rfl) dX0_swap_13  (fun u hp => ?_)
        refine jj_aload_n hC dX0_swap_16 rfl ?_
        refine jj_iload_n hC dX0_swap_17 rfl ?_
        cases hq18 : !(ts_lt v j0) with
        | false => exact jj_callxv hC hH hV (xm_requireAtHome _ _ a c1 c2 c3 v g h hl j0 (by omega)) gX0_swap_X0_requireAtHome rfl 1 (by decide +kernel) ⟨by decide, by decide, by decide, by decide⟩ 0 0 (by rfl) rfl rfl rfl rfl (Nat.le_of_ble_eq_true rfl) dX0_swap_18  (fun Ex hEx => hthr _ _ _ _ (by simpa [ts_req, eNj0, eNj1, hq18, hq2, hq7, hq13] using hEx)) (fun hEx => by simp [ts_req, hq18] at hEx)
        | true =>
          refine jj_callv hC (xp_requireAtHome _ _ a c1 c2 c3 v g h j0 (by omega) hq18) gX0_swap_X0_requireAtHome rfl 1 (by decide +kernel) ⟨by decide, by decide, by decide, by decide⟩ 0 0 (by rfl) rfl rfl rfl rfl (Nat.le_of_ble_eq_true rfl) dX0_swap_18  (fun u hp => ?_)
          refine jj_aload_n hC dX0_swap_21 rfl ?_
          refine jj_iload_n hC dX0_swap_22 rfl ?_
          cases hq23 : !(ts_lt v j1) with
          | false => exact jj_callxv hC hH hV (xm_requireAtHome _ _ a c1 c2 c3 v g h hl j1 (by omega)) gX0_swap_X0_requireAtHome rfl 1 (by decide +kernel) ⟨by decide, by decide, by decide, by decide⟩ 0 0 (by rfl) rfl rfl rfl rfl (Nat.le_of_ble_eq_true rfl) dX0_swap_23  (fun Ex hEx => hthr _ _ _ _ (by simpa [ts_req, eNj0, eNj1, hq23, hq2, hq7, hq13, hq18] using hEx)) (fun hEx => by simp [ts_req, hq23] at hEx)
          | true =>
            refine jj_callv hC (xp_requireAtHome _ _ a c1 c2 c3 v g h j1 (by omega) hq23) gX0_swap_X0_requireAtHome rfl 1 (by decide +kernel) ⟨by decide, by decide, by decide, by decide⟩ 0 0 (by rfl) rfl rfl rfl rfl (Nat.le_of_ble_eq_true rfl) dX0_swap_23  (fun u hp => ?_)
            have hb0 := hth j0 hj0
            have hb1 := hth j1 hj1
            refine jj_aload_n hC dX0_swap_26 rfl ?_
            refine jj_get hC 0 9 dX0_swap_27 (by rfl) rfl (by decide) lkX0_swap_22 rfl hinX0_swap (by rfl) ?_
            refine jj_iload_n hC dX0_swap_30 rfl ?_
            refine jj_iald hC 5 0 dX0_swap_31 (wx_g5 ..) rfl (by omega) (by decide) ?_
            refine jj_istore_n hC dX0_swap_32 (by decide) [1, 2, 3, 0] (lv' := [(0, _), (1, _), (2, _), (3, .int _)]) rfl ?_
            refine jj_aload_n hC dX0_swap_33 rfl ?_
            refine jj_get hC 0 9 dX0_swap_34 (by rfl) rfl (by decide) lkX0_swap_22 rfl hinX0_swap (by rfl) ?_
            refine jj_iload_n hC dX0_swap_37 rfl ?_
            refine jj_iald hC 5 0 dX0_swap_38 (wx_g5 ..) rfl (by omega) (by decide) ?_
            refine jj_istore hC dX0_swap_39 (by decide) [1, 2, 3, 4, 0] (lv' := [(0, _), (1, _), (2, _), (3, _), (4, .int _)]) rfl ?_
            refine jj_aload_n hC dX0_swap_41 rfl ?_
            refine jj_aload_n hC dX0_swap_42 rfl ?_
            refine jj_iload_n hC dX0_swap_43 rfl ?_
            refine jj_iload_n hC dX0_swap_44 rfl ?_
            refine jj_calli hC (xm_gainOfOwner _ _ a c1 c2 c3 v g h hI j0 j1 hj0 hj1) gX0_swap_X0_gainOfOwner rfl 2 (by decide +kernel) ⟨by decide, by decide, by decide, by decide⟩ 0 0 (by rfl) rfl rfl rfl rfl (Nat.le_of_ble_eq_true rfl) dX0_swap_45 (fun r u hp => ?_)
            obtain rfl := hp
            obtain ⟨g2, h2⟩ := u
            refine jj_iload_n hC dX0_swap_48 rfl ?_
            refine jj_iload hC dX0_swap_49 rfl ?_
            refine jj_calli hC (xm_isEnough _ _ a c1 c2 c3 v g2 h2 (ts_gain v j0 j1) (ts_ow v j0) (ts_ow v j1) (by omega) (by omega)) gX0_swap_X0_isEnough rfl 3 (by decide +kernel) ⟨by decide, by decide, by decide, by decide⟩ 0 0 (by rfl) rfl rfl rfl rfl (Nat.le_of_ble_eq_true rfl) dX0_swap_51 (fun r u hp => ?_)
            obtain rfl := hp
            refine jj_istore hC dX0_swap_54 (by decide) [1, 2, 3, 4, 5, 0] (lv' := [(0, _), (1, _), (2, _), (3, _), (4, _), (5, .int _)]) rfl ?_
            refine jj_aload_n hC dX0_swap_56 rfl ?_
            refine jj_aload_n hC dX0_swap_57 rfl ?_
            refine jj_iload_n hC dX0_swap_58 rfl ?_
            refine jj_iload_n hC dX0_swap_59 rfl ?_
            refine jj_calli hC (xm_gainOfOwner _ _ a c1 c2 c3 v g2 h2 hI j1 j0 hj1 hj0) gX0_swap_X0_gainOfOwner rfl 2 (by decide +kernel) ⟨by decide, by decide, by decide, by decide⟩ 0 0 (by rfl) rfl rfl rfl rfl (Nat.le_of_ble_eq_true rfl) dX0_swap_60 (fun r u hp => ?_)
            obtain rfl := hp
            obtain ⟨g3, h3⟩ := u
            refine jj_iload hC dX0_swap_63 rfl ?_
            refine jj_iload_n hC dX0_swap_65 rfl ?_
            refine jj_calli hC (xm_isEnough _ _ a c1 c2 c3 v g3 h3 (ts_gain v j1 j0) (ts_ow v j1) (ts_ow v j0) (by omega) (by omega)) gX0_swap_X0_isEnough rfl 3 (by decide +kernel) ⟨by decide, by decide, by decide, by decide⟩ 0 0 (by rfl) rfl rfl rfl rfl (Nat.le_of_ble_eq_true rfl) dX0_swap_66 (fun r u hp => ?_)
            obtain rfl := hp
            refine jj_istore hC dX0_swap_69 (by decide) [1, 2, 3, 4, 5, 6, 0] (lv' := [(0, _), (1, _), (2, _), (3, _), (4, _), (5, _), (6, .int _)]) rfl ?_
            refine jj_iload hC dX0_swap_71 rfl ?_
            refine jj_if_eqB hC dX0_swap_73 (tgt := 89) (by decide) (fun c73 => ?_) (fun c73 => ?_)
            · refine jj_aload_n hC dX0_swap_89 rfl ?_
              refine jj_dup hC dX0_swap_90 rfl ?_
              refine jj_get hC 0 4 dX0_swap_91 (by rfl) rfl (by decide) lkX0_swap_128 rfl hinX0_swap (by rfl) ?_
              refine jj_iconst hC dX0_swap_94 (v := nI 1) (by decide) ?_
              first | refine jj_iaddN hC dX0_swap_95 ?_ | refine jj_iadd hC dX0_swap_95 ?_
              refine jj_put hC 0 4 dX0_swap_96 (by rfl) rfl (by decide) lkX0_swap_128 rfl hinX0_swap tyX0_ok nmX0 rfl rfl rfl rfl (Nat.le_of_ble_eq_true rfl) (wx_p4 ..) ?_
              refine jj_iload hC dX0_swap_99 rfl ?_
              refine jj_if_eqB hC dX0_swap_101 (tgt := 113) (by decide) (fun c101 => ?_) (fun c101 => ?_)
              · refine jj_iload hC dX0_swap_113 rfl ?_
                refine jj_if_eqB hC dX0_swap_115 (tgt := 127) (by decide) (fun c115 => ?_) (fun c115 => ?_)
                · refine jj_iconst hC dX0_swap_127 (v := nI 3) (by decide) ?_
                  first
                    | (exact absurd (c73.symm.trans c101) (by decide))
                    | (refine jj_widen (k' := 1) (n' := 6) (by decide) (by decide) ?_
                       have eR : ts_rs v (ts_N (nI j0)) (ts_N (nI j1)) = (nI 3, ts_rf' v (ts_rf v + 1)) := by
                         rw [eNj0, eNj1]
                         simp [ts_rs, c73, c101, c115]
                       refine jj_ws (ws' := wx a c1 c2 (ts_rs v (ts_N (nI j0)) (ts_N (nI j1))).2 g3 h3) (by first | (rw [eR]; done) | (rw [eR]; rfl)) (hret _ _ _ (g3, h3) (by simp [ts_req, eNj0, eNj1, hq2, hq7, hq13, hq18, hq23]) dX0_swap_128 (by rfl) (by rw [eR])))
                · refine jj_aload_n hC dX0_swap_118 rfl ?_
                  refine jj_iload hC dX0_swap_119 rfl ?_
                  refine jj_iload_n hC dX0_swap_121 rfl ?_
                  refine jj_callv hC (xm_resent _ _ a c1 c2 c3 (ts_rf' v (ts_rf v + 1)) g3 h3 (ts_ow v j1) (ts_ow v j0) (by omega) (by omega) (hgr _ _).1) gX0_swap_X0_resent rfl 2 (by decide +kernel) ⟨by decide, by decide, by decide, by decide⟩ 0 0 (by rfl) rfl rfl rfl rfl (Nat.le_of_ble_eq_true rfl) dX0_swap_122 (fun u hp => ?_)
                  refine jj_iconst hC dX0_swap_125 (v := nI 1) (by decide) ?_
                  first
                    | (exact absurd (c73.symm.trans c101) (by decide))
                    | (refine jj_widen (k' := 1) (n' := 6) (by decide) (by decide) ?_
                       have eR : ts_rs v (ts_N (nI j0)) (ts_N (nI j1)) = (nI 1, ts_gr' (ts_rf' v (ts_rf v + 1)) (ts_rese (ts_gr v) (ts_ow v j1) (ts_ow v j0))) := by
                         rw [eNj0, eNj1]
                         simp [ts_rs, c73, c101, c115]
                       refine jj_ws (ws' := wx a c1 c2 (ts_rs v (ts_N (nI j0)) (ts_N (nI j1))).2 g3 h3) (by first | (rw [eR]; done) | (rw [eR]; rfl)) (hret _ _ _ (g3, h3) (by simp [ts_req, eNj0, eNj1, hq2, hq7, hq13, hq18, hq23]) dX0_swap_126 (by rfl) (by rw [eR])))
              · refine jj_aload_n hC dX0_swap_104 rfl ?_
                refine jj_iload_n hC dX0_swap_105 rfl ?_
                refine jj_iload hC dX0_swap_106 rfl ?_
                refine jj_callv hC (xm_resent _ _ a c1 c2 c3 (ts_rf' v (ts_rf v + 1)) g3 h3 (ts_ow v j0) (ts_ow v j1) (by omega) (by omega) (hgr _ _).1) gX0_swap_X0_resent rfl 2 (by decide +kernel) ⟨by decide, by decide, by decide, by decide⟩ 0 0 (by rfl) rfl rfl rfl rfl (Nat.le_of_ble_eq_true rfl) dX0_swap_108 (fun u hp => ?_)
                refine jj_iconst hC dX0_swap_111 (v := nI 2) (by decide) ?_
                first
                  | (exact absurd (c73.symm.trans c101) (by decide))
                  | (refine jj_widen (k' := 1) (n' := 6) (by decide) (by decide) ?_
                     have eR : ts_rs v (ts_N (nI j0)) (ts_N (nI j1)) = (nI 2, ts_gr' (ts_rf' v (ts_rf v + 1)) (ts_rese (ts_gr v) (ts_ow v j0) (ts_ow v j1))) := by
                       rw [eNj0, eNj1]
                       simp [ts_rs, c73, c101]
                     refine jj_ws (ws' := wx a c1 c2 (ts_rs v (ts_N (nI j0)) (ts_N (nI j1))).2 g3 h3) (by first | (rw [eR]; done) | (rw [eR]; rfl)) (hret _ _ _ (g3, h3) (by simp [ts_req, eNj0, eNj1, hq2, hq7, hq13, hq18, hq23]) dX0_swap_112 (by rfl) (by rw [eR])))
            · refine jj_iload hC dX0_swap_76 rfl ?_
              refine jj_if_eqB hC dX0_swap_78 (tgt := 89) (by decide) (fun c78 => ?_) (fun c78 => ?_)
              · refine jj_aload_n hC dX0_swap_89 rfl ?_
                refine jj_dup hC dX0_swap_90 rfl ?_
                refine jj_get hC 0 4 dX0_swap_91 (by rfl) rfl (by decide) lkX0_swap_128 rfl hinX0_swap (by rfl) ?_
                refine jj_iconst hC dX0_swap_94 (v := nI 1) (by decide) ?_
                first | refine jj_iaddN hC dX0_swap_95 ?_ | refine jj_iadd hC dX0_swap_95 ?_
                refine jj_put hC 0 4 dX0_swap_96 (by rfl) rfl (by decide) lkX0_swap_128 rfl hinX0_swap tyX0_ok nmX0 rfl rfl rfl rfl (Nat.le_of_ble_eq_true rfl) (wx_p4 ..) ?_
                refine jj_iload hC dX0_swap_99 rfl ?_
                refine jj_if_eqB hC dX0_swap_101 (tgt := 113) (by decide) (fun c101 => ?_) (fun c101 => ?_)
                · refine jj_iload hC dX0_swap_113 rfl ?_
                  refine jj_if_eqB hC dX0_swap_115 (tgt := 127) (by decide) (fun c115 => ?_) (fun c115 => ?_)
                  · refine jj_iconst hC dX0_swap_127 (v := nI 3) (by decide) ?_
                    first
                      | (exact absurd (c73.symm.trans c101) (by decide))
                      | (exact absurd (c78.symm.trans c115) (by decide))
                      | (refine jj_widen (k' := 1) (n' := 6) (by decide) (by decide) ?_
                         have eR : ts_rs v (ts_N (nI j0)) (ts_N (nI j1)) = (nI 3, ts_rf' v (ts_rf v + 1)) := by
                           rw [eNj0, eNj1]
                           simp [ts_rs, c73, c78, c101, c115]
                         refine jj_ws (ws' := wx a c1 c2 (ts_rs v (ts_N (nI j0)) (ts_N (nI j1))).2 g3 h3) (by first | (rw [eR]; done) | (rw [eR]; rfl)) (hret _ _ _ (g3, h3) (by simp [ts_req, eNj0, eNj1, hq2, hq7, hq13, hq18, hq23]) dX0_swap_128 (by rfl) (by rw [eR])))
                  · refine jj_aload_n hC dX0_swap_118 rfl ?_
                    refine jj_iload hC dX0_swap_119 rfl ?_
                    refine jj_iload_n hC dX0_swap_121 rfl ?_
                    refine jj_callv hC (xm_resent _ _ a c1 c2 c3 (ts_rf' v (ts_rf v + 1)) g3 h3 (ts_ow v j1) (ts_ow v j0) (by omega) (by omega) (hgr _ _).1) gX0_swap_X0_resent rfl 2 (by decide +kernel) ⟨by decide, by decide, by decide, by decide⟩ 0 0 (by rfl) rfl rfl rfl rfl (Nat.le_of_ble_eq_true rfl) dX0_swap_122 (fun u hp => ?_)
                    refine jj_iconst hC dX0_swap_125 (v := nI 1) (by decide) ?_
                    first
                      | (exact absurd (c73.symm.trans c101) (by decide))
                      | (exact absurd (c78.symm.trans c115) (by decide))
                      | (refine jj_widen (k' := 1) (n' := 6) (by decide) (by decide) ?_
                         have eR : ts_rs v (ts_N (nI j0)) (ts_N (nI j1)) = (nI 1, ts_gr' (ts_rf' v (ts_rf v + 1)) (ts_rese (ts_gr v) (ts_ow v j1) (ts_ow v j0))) := by
                           rw [eNj0, eNj1]
                           simp [ts_rs, c73, c78, c101, c115]
                         refine jj_ws (ws' := wx a c1 c2 (ts_rs v (ts_N (nI j0)) (ts_N (nI j1))).2 g3 h3) (by first | (rw [eR]; done) | (rw [eR]; rfl)) (hret _ _ _ (g3, h3) (by simp [ts_req, eNj0, eNj1, hq2, hq7, hq13, hq18, hq23]) dX0_swap_126 (by rfl) (by rw [eR])))
                · refine jj_aload_n hC dX0_swap_104 rfl ?_
                  refine jj_iload_n hC dX0_swap_105 rfl ?_
                  refine jj_iload hC dX0_swap_106 rfl ?_
                  refine jj_callv hC (xm_resent _ _ a c1 c2 c3 (ts_rf' v (ts_rf v + 1)) g3 h3 (ts_ow v j0) (ts_ow v j1) (by omega) (by omega) (hgr _ _).1) gX0_swap_X0_resent rfl 2 (by decide +kernel) ⟨by decide, by decide, by decide, by decide⟩ 0 0 (by rfl) rfl rfl rfl rfl (Nat.le_of_ble_eq_true rfl) dX0_swap_108 (fun u hp => ?_)
                  refine jj_iconst hC dX0_swap_111 (v := nI 2) (by decide) ?_
                  first
                    | (exact absurd (c73.symm.trans c101) (by decide))
                    | (refine jj_widen (k' := 1) (n' := 6) (by decide) (by decide) ?_
                       have eR : ts_rs v (ts_N (nI j0)) (ts_N (nI j1)) = (nI 2, ts_gr' (ts_rf' v (ts_rf v + 1)) (ts_rese (ts_gr v) (ts_ow v j0) (ts_ow v j1))) := by
                         rw [eNj0, eNj1]
                         simp [ts_rs, c73, c78, c101]
                       refine jj_ws (ws' := wx a c1 c2 (ts_rs v (ts_N (nI j0)) (ts_N (nI j1))).2 g3 h3) (by first | (rw [eR]; done) | (rw [eR]; rfl)) (hret _ _ _ (g3, h3) (by simp [ts_req, eNj0, eNj1, hq2, hq7, hq13, hq18, hq23]) dX0_swap_112 (by rfl) (by rw [eR])))
              · refine jj_aload_n hC dX0_swap_81 rfl ?_
                refine jj_iload_n hC dX0_swap_82 rfl ?_
                refine jj_iload_n hC dX0_swap_83 rfl ?_
                refine jj_callv hC (xm_changeHands _ _ a c1 c2 c3 v g3 h3 hI j0 j1 hj0 hj1) gX0_swap_X0_changeHands rfl 2 (by decide +kernel) ⟨by decide, by decide, by decide, by decide⟩ 0 0 (by rfl) rfl rfl rfl rfl (Nat.le_of_ble_eq_true rfl) dX0_swap_84 (fun u hp => ?_)
                refine jj_iconst hC dX0_swap_87 (v := nI 0) (by decide) ?_
                refine jj_widen (k' := 1) (n' := 6) (by decide) (by decide) ?_
                have eR : ts_rs v (ts_N (nI j0)) (ts_N (nI j1)) = (nI 0, ts_swp v j0 j1) := by
                  rw [eNj0, eNj1]
                  simp [ts_rs, c73, c78]
                refine jj_ws (ws' := wx a c1 c2 (ts_rs v (ts_N (nI j0)) (ts_N (nI j1))).2 g3 h3) (by first | (rw [eR]; done) | (rw [eR]; rfl)) (hret _ _ _ (g3, h3) (by simp [ts_req, eNj0, eNj1, hq2, hq7, hq13, hq18, hq23]) dX0_swap_88 (by rfl) (by rw [eR]))
theorem xkX0_best_70 : Cond.classLink RX0 70 "java/lang/IllegalArgumentException" ∈ wsX0_best := by decide +kernel
theorem xiX0_best_IA : Cond.initialized "java/lang/IllegalArgumentException" ∈ wsX0_best := by decide +kernel
theorem xgX0_best_74 : ∀ w ∈ (vx_atS RX0 74 "java/lang/IllegalArgumentException" jj_nm).filter goodWord, w ∈ wsX0_best := by decide +kernel
set_option maxRecDepth 100000 in
set_option maxHeartbeats 4000000 in
theorem xm_best (l : Launch) (D : va_G) (a : Nat → Nat) (c1 c2 c3 : ClassId) (v : ts_V) (g : Nat → Int32) (h : Int32) (hl : l.stackTraces = false) (hI : ts_I v) (x0 x1 : Int32) : jj_Mx l D (ts_T c1 c2 c3) yX0_best wsX0_best rX0_best [.ref (a 0), .int x0, .int x1] (wx a c1 c2 v g h) (((ts_req (ts_in x0 (ts_k v)) jj_IO).or (ts_req (ts_in x1 (ts_k v)) jj_IO)).or (ts_req (decide (¬ x0 = x1)) jj_IA)) ((Nat → Int32) × Int32) (fun x _ => x = ts_best v (ts_N x0) (ts_N x1)) (fun u => wx a c1 c2 v u.1 u.2) := by
  obtain ⟨hn, hk, hth, hwk, hli, hgr⟩ := id hI
  refine jj_metx (cc := cX0_best) (nL := 3) hl rfl (by decide) rfl (Nat.le_of_ble_eq_true rfl) (fun E Q hC hEl hED hD0 hH hV hret hthr hnew => ?_)
  subst hEl
  show jj_J E 0 0 Q (wx a c1 c2 v g h) 0 [(0, .ref (a 0)), (1, .int x0), (2, .int x1)] []
  refine jj_aload_n hC dX0_best_0 rfl ?_
  refine jj_iload_n hC dX0_best_1 rfl ?_
  cases hq2 : ts_in x0 (ts_k v) with
  | false => exact jj_callxv hC hH hV (xm_requireCollector _ _ a c1 c2 c3 v g h hl hI _) gX0_best_X0_requireCollector rfl 1 (by decide +kernel) ⟨by decide, by decide, by decide, by decide⟩ 0 0 (by rfl) rfl rfl rfl rfl (Nat.le_of_ble_eq_true rfl) dX0_best_2  (fun Ex hEx => hthr _ _ _ _ (by simpa [ts_req, hq2, ] using hEx)) (fun hEx => by simp [ts_req, hq2] at hEx)
  | true =>
    obtain ⟨j0, hj0, rfl⟩ := ts_in_of hq2 (by omega)
    refine jj_callv hC (xp_requireCollector _ _ a c1 c2 c3 v g h hI _ hq2) gX0_best_X0_requireCollector rfl 1 (by decide +kernel) ⟨by decide, by decide, by decide, by decide⟩ 0 0 (by rfl) rfl rfl rfl rfl (Nat.le_of_ble_eq_true rfl) dX0_best_2  (fun u hp => ?_)
    refine jj_aload_n hC dX0_best_5 rfl ?_
    refine jj_iload_n hC dX0_best_6 rfl ?_
    cases hq7 : ts_in x1 (ts_k v) with
    | false => exact jj_callxv hC hH hV (xm_requireCollector _ _ a c1 c2 c3 v g h hl hI _) gX0_best_X0_requireCollector rfl 1 (by decide +kernel) ⟨by decide, by decide, by decide, by decide⟩ 0 0 (by rfl) rfl rfl rfl rfl (Nat.le_of_ble_eq_true rfl) dX0_best_7  (fun Ex hEx => hthr _ _ _ _ (by simpa [ts_req, hq7, hq2] using hEx)) (fun hEx => by simp [ts_req, hq7] at hEx)
    | true =>
      obtain ⟨j1, hj1, rfl⟩ := ts_in_of hq7 (by omega)
      refine jj_callv hC (xp_requireCollector _ _ a c1 c2 c3 v g h hI _ hq7) gX0_best_X0_requireCollector rfl 1 (by decide +kernel) ⟨by decide, by decide, by decide, by decide⟩ 0 0 (by rfl) rfl rfl rfl rfl (Nat.le_of_ble_eq_true rfl) dX0_best_7  (fun u hp => ?_)
      refine jj_iload_n hC dX0_best_10 rfl ?_
      refine jj_iload_n hC dX0_best_11 rfl ?_
      refine jj_icmp_ne hC dX0_best_12 (tgt := 25) (by decide) (fun c12 => ?_) (fun c12 => ?_)
      · refine jj_aload_n hC dX0_best_25 rfl ?_
        refine jj_iload_n hC dX0_best_26 rfl ?_
        refine jj_iload_n hC dX0_best_27 rfl ?_
        refine jj_calli hC (xm_bestSwapOf _ _ a c1 c2 c3 v g h hI j0 j1 hj0 hj1) gX0_best_X0_bestSwapOf rfl 2 (by decide +kernel) ⟨by decide, by decide, by decide, by decide⟩ 0 0 (by rfl) rfl rfl rfl rfl (Nat.le_of_ble_eq_true rfl) dX0_best_28 (fun r u hp => ?_)
        obtain rfl := hp
        refine jj_widen (k' := 1) (n' := 6) (by decide) (by decide) ?_
        exact hret _ _ _ u (by simp [ts_req, hq2, hq7, c12]) dX0_best_31 (by rfl) (by rw [ts_N_nI (by omega), ts_N_nI (by omega)])
      · exact hnew _ _ 15 70 134 74 "java/lang/IllegalArgumentException" "a collector does not swap alone" _ _ (by simp [ts_req, hq2, hq7, c12]) (by decide) (by decide) (by decide +kernel) (Or.inr (Or.inl rfl)) xkX0_best_70 xiX0_best_IA xgX0_best_74 xbad_IA xot_IA_70 dX0_best_15 dX0_best_18 dX0_best_19 dX0_best_21 dX0_best_24 (by decide) (Nat.le_of_ble_eq_true rfl)
set_option maxRecDepth 100000 in
set_option maxHeartbeats 4000000 in
theorem xm_ring (l : Launch) (D : va_G) (a : Nat → Nat) (c1 c2 c3 : ClassId) (v : ts_V) (g : Nat → Int32) (h : Int32) (hl : l.stackTraces = false) (hI : ts_I v) (x0 x1 x2 : Int32) : jj_Mx l D (ts_T c1 c2 c3) yX0_ring wsX0_ring rX0_ring [.ref (a 0), .int x0, .int x1, .int x2] (wx a c1 c2 v g h) ((((((ts_req (ts_in x0 (ts_n v)) jj_IO).or (ts_req (ts_in x1 (ts_n v)) jj_IO)).or (ts_req (ts_in x2 (ts_n v)) jj_IO)).or (ts_req (decide (¬ ts_ow v (ts_N x0) = ts_ow v (ts_N x1))) jj_IA)).or (ts_req (decide (¬ ts_ow v (ts_N x1) = ts_ow v (ts_N x2))) jj_IA)).or (ts_req (decide (¬ ts_ow v (ts_N x2) = ts_ow v (ts_N x0))) jj_IA)) ((Nat → Int32) × Int32) (fun x _ => x = nI (ts_one (ts_gain v (ts_N x0) (ts_N x1)) + ts_one (ts_gain v (ts_N x1) (ts_N x2)) + ts_one (ts_gain v (ts_N x2) (ts_N x0)))) (fun u => wx a c1 c2 v u.1 u.2) := by
  obtain ⟨hn, hk, hth, hwk, hli, hgr⟩ := id hI
  refine jj_metx (cc := cX0_ring) (nL := 4) hl rfl (by decide) rfl (Nat.le_of_ble_eq_true rfl) (fun E Q hC hEl hED hD0 hH hV hret hthr hnew => ?_)
  subst hEl
  show jj_J E 0 0 Q (wx a c1 c2 v g h) 0 [(0, .ref (a 0)), (1, .int x0), (2, .int x1), (3, .int x2)] []
  refine jj_aload_n hC dX0_ring_0 rfl ?_
  refine jj_iload_n hC dX0_ring_1 rfl ?_
  cases hq2 : ts_in x0 (ts_n v) with
  | false => exact jj_callxv hC hH hV (xm_requireThimble _ _ a c1 c2 c3 v g h hl hI _) gX0_ring_X0_requireThimble rfl 1 (by decide +kernel) ⟨by decide, by decide, by decide, by decide⟩ 0 0 (by rfl) rfl rfl rfl rfl (Nat.le_of_ble_eq_true rfl) dX0_ring_2  (fun Ex hEx => hthr _ _ _ _ (by simpa [ts_req, hq2, ] using hEx)) (fun hEx => by simp [ts_req, hq2] at hEx)
  | true =>
    obtain ⟨j0, hj0, rfl⟩ := ts_in_of hq2 (by omega)
    refine jj_callv hC (xp_requireThimble _ _ a c1 c2 c3 v g h hI _ hq2) gX0_ring_X0_requireThimble rfl 1 (by decide +kernel) ⟨by decide, by decide, by decide, by decide⟩ 0 0 (by rfl) rfl rfl rfl rfl (Nat.le_of_ble_eq_true rfl) dX0_ring_2  (fun u hp => ?_)
    refine jj_aload_n hC dX0_ring_5 rfl ?_
    refine jj_iload_n hC dX0_ring_6 rfl ?_
    cases hq7 : ts_in x1 (ts_n v) with
    | false => exact jj_callxv hC hH hV (xm_requireThimble _ _ a c1 c2 c3 v g h hl hI _) gX0_ring_X0_requireThimble rfl 1 (by decide +kernel) ⟨by decide, by decide, by decide, by decide⟩ 0 0 (by rfl) rfl rfl rfl rfl (Nat.le_of_ble_eq_true rfl) dX0_ring_7  (fun Ex hEx => hthr _ _ _ _ (by simpa [ts_req, hq7, hq2] using hEx)) (fun hEx => by simp [ts_req, hq7] at hEx)
    | true =>
      obtain ⟨j1, hj1, rfl⟩ := ts_in_of hq7 (by omega)
      refine jj_callv hC (xp_requireThimble _ _ a c1 c2 c3 v g h hI _ hq7) gX0_ring_X0_requireThimble rfl 1 (by decide +kernel) ⟨by decide, by decide, by decide, by decide⟩ 0 0 (by rfl) rfl rfl rfl rfl (Nat.le_of_ble_eq_true rfl) dX0_ring_7  (fun u hp => ?_)
      refine jj_aload_n hC dX0_ring_10 rfl ?_
      refine jj_iload_n hC dX0_ring_11 rfl ?_
      cases hq12 : ts_in x2 (ts_n v) with
      | false => exact jj_callxv hC hH hV (xm_requireThimble _ _ a c1 c2 c3 v g h hl hI _) gX0_ring_X0_requireThimble rfl 1 (by decide +kernel) ⟨by decide, by decide, by decide, by decide⟩ 0 0 (by rfl) rfl rfl rfl rfl (Nat.le_of_ble_eq_true rfl) dX0_ring_12  (fun Ex hEx => hthr _ _ _ _ (by simpa [ts_req, hq12, hq2, hq7] using hEx)) (fun hEx => by simp [ts_req, hq12] at hEx)
      | true =>
        obtain ⟨j2, hj2, rfl⟩ := ts_in_of hq12 (by omega)
        refine jj_callv hC (xp_requireThimble _ _ a c1 c2 c3 v g h hI _ hq12) gX0_ring_X0_requireThimble rfl 1 (by decide +kernel) ⟨by decide, by decide, by decide, by decide⟩ 0 0 (by rfl) rfl rfl rfl rfl (Nat.le_of_ble_eq_true rfl) dX0_ring_12  (fun u hp => ?_)
        have eNj0 : ts_N (nI j0) = j0 := ts_N_nI (by omega)
        have eNj1 : ts_N (nI j1) = j1 := ts_N_nI (by omega)
        have eNj2 : ts_N (nI j2) = j2 := ts_N_nI (by omega)
        refine jj_aload_n hC dX0_ring_15 rfl ?_
        refine jj_iload_n hC dX0_ring_16 rfl ?_
        refine jj_iload_n hC dX0_ring_17 rfl ?_
        cases hq18 : decide (¬ ts_ow v j0 = ts_ow v j1) with
        | false => exact jj_callxv hC hH hV (xm_requireTwoOwners _ _ a c1 c2 c3 v g h hl hI j0 j1 hj0 hj1) gX0_ring_X0_requireTwoOwners rfl 2 (by decide +kernel) ⟨by decide, by decide, by decide, by decide⟩ 0 0 (by rfl) rfl rfl rfl rfl (Nat.le_of_ble_eq_true rfl) dX0_ring_18  (fun Ex hEx => hthr _ _ _ _ (by simpa [ts_req, eNj0, eNj1, eNj2, hq18, hq2, hq7, hq12] using hEx)) (fun hEx => by simp [ts_req, hq18] at hEx)
        | true =>
          refine jj_callv hC (xp_requireTwoOwners _ _ a c1 c2 c3 v g h hI j0 j1 hj0 hj1 hq18) gX0_ring_X0_requireTwoOwners rfl 2 (by decide +kernel) ⟨by decide, by decide, by decide, by decide⟩ 0 0 (by rfl) rfl rfl rfl rfl (Nat.le_of_ble_eq_true rfl) dX0_ring_18  (fun u hp => ?_)
          refine jj_aload_n hC dX0_ring_21 rfl ?_
          refine jj_iload_n hC dX0_ring_22 rfl ?_
          refine jj_iload_n hC dX0_ring_23 rfl ?_
          cases hq24 : decide (¬ ts_ow v j1 = ts_ow v j2) with
          | false => exact jj_callxv hC hH hV (xm_requireTwoOwners _ _ a c1 c2 c3 v g h hl hI j1 j2 hj1 hj2) gX0_ring_X0_requireTwoOwners rfl 2 (by decide +kernel) ⟨by decide, by decide, by decide, by decide⟩ 0 0 (by rfl) rfl rfl rfl rfl (Nat.le_of_ble_eq_true rfl) dX0_ring_24  (fun Ex hEx => hthr _ _ _ _ (by simpa [ts_req, eNj0, eNj1, eNj2, hq24, hq2, hq7, hq12, hq18] using hEx)) (fun hEx => by simp [ts_req, hq24] at hEx)
          | true =>
            refine jj_callv hC (xp_requireTwoOwners _ _ a c1 c2 c3 v g h hI j1 j2 hj1 hj2 hq24) gX0_ring_X0_requireTwoOwners rfl 2 (by decide +kernel) ⟨by decide, by decide, by decide, by decide⟩ 0 0 (by rfl) rfl rfl rfl rfl (Nat.le_of_ble_eq_true rfl) dX0_ring_24  (fun u hp => ?_)
            refine jj_aload_n hC dX0_ring_27 rfl ?_
            refine jj_iload_n hC dX0_ring_28 rfl ?_
            refine jj_iload_n hC dX0_ring_29 rfl ?_
            cases hq30 : decide (¬ ts_ow v j2 = ts_ow v j0) with
            | false => exact jj_callxv hC hH hV (xm_requireTwoOwners _ _ a c1 c2 c3 v g h hl hI j2 j0 hj2 hj0) gX0_ring_X0_requireTwoOwners rfl 2 (by decide +kernel) ⟨by decide, by decide, by decide, by decide⟩ 0 0 (by rfl) rfl rfl rfl rfl (Nat.le_of_ble_eq_true rfl) dX0_ring_30  (fun Ex hEx => hthr _ _ _ _ (by simpa [ts_req, eNj0, eNj1, eNj2, hq30, hq2, hq7, hq12, hq18, hq24] using hEx)) (fun hEx => by simp [ts_req, hq30] at hEx)
            | true =>
              refine jj_callv hC (xp_requireTwoOwners _ _ a c1 c2 c3 v g h hI j2 j0 hj2 hj0 hq30) gX0_ring_X0_requireTwoOwners rfl 2 (by decide +kernel) ⟨by decide, by decide, by decide, by decide⟩ 0 0 (by rfl) rfl rfl rfl rfl (Nat.le_of_ble_eq_true rfl) dX0_ring_30  (fun u hp => ?_)
              refine jj_aload_n hC dX0_ring_33 rfl ?_
              refine jj_iload_n hC dX0_ring_34 rfl ?_
              refine jj_iload_n hC dX0_ring_35 rfl ?_
              refine jj_calli hC (xm_gainOfOwner _ _ a c1 c2 c3 v g h hI j0 j1 hj0 hj1) gX0_ring_X0_gainOfOwner rfl 2 (by decide +kernel) ⟨by decide, by decide, by decide, by decide⟩ 0 0 (by rfl) rfl rfl rfl rfl (Nat.le_of_ble_eq_true rfl) dX0_ring_36 (fun r u hp => ?_)
              obtain rfl := hp
              obtain ⟨g2, h2⟩ := u
              refine jj_scalliN hC (xm_oneIfAbove0 _ _ c1 c2 c3 _) gX0_ring_X0_oneIfAbove0 rfl 1 (by decide +kernel) ⟨by decide, by decide, by decide, by decide⟩ rfl rfl rfl (Nat.le_of_ble_eq_true rfl) dX0_ring_39 (fun r u hp => ?_)
              obtain rfl := hp
              refine jj_aload_n hC dX0_ring_42 rfl ?_
              refine jj_iload_n hC dX0_ring_43 rfl ?_
              refine jj_iload_n hC dX0_ring_44 rfl ?_
              refine jj_calli hC (xm_gainOfOwner _ _ a c1 c2 c3 v g2 h2 hI j1 j2 hj1 hj2) gX0_ring_X0_gainOfOwner rfl 2 (by decide +kernel) ⟨by decide, by decide, by decide, by decide⟩ 0 0 (by rfl) rfl rfl rfl rfl (Nat.le_of_ble_eq_true rfl) dX0_ring_45 (fun r u hp => ?_)
              obtain rfl := hp
              obtain ⟨g3, h3⟩ := u
              refine jj_scalliN hC (xm_oneIfAbove0 _ _ c1 c2 c3 _) gX0_ring_X0_oneIfAbove0 rfl 1 (by decide +kernel) ⟨by decide, by decide, by decide, by decide⟩ rfl rfl rfl (Nat.le_of_ble_eq_true rfl) dX0_ring_48 (fun r u hp => ?_)
              obtain rfl := hp
              first | refine jj_iaddN hC dX0_ring_51 ?_ | refine jj_iadd hC dX0_ring_51 ?_
              refine jj_aload_n hC dX0_ring_52 rfl ?_
              refine jj_iload_n hC dX0_ring_53 rfl ?_
              refine jj_iload_n hC dX0_ring_54 rfl ?_
              refine jj_calli hC (xm_gainOfOwner _ _ a c1 c2 c3 v g3 h3 hI j2 j0 hj2 hj0) gX0_ring_X0_gainOfOwner rfl 2 (by decide +kernel) ⟨by decide, by decide, by decide, by decide⟩ 0 0 (by rfl) rfl rfl rfl rfl (Nat.le_of_ble_eq_true rfl) dX0_ring_55 (fun r u hp => ?_)
              obtain rfl := hp
              obtain ⟨g4, h4⟩ := u
              refine jj_scalliN hC (xm_oneIfAbove0 _ _ c1 c2 c3 _) gX0_ring_X0_oneIfAbove0 rfl 1 (by decide +kernel) ⟨by decide, by decide, by decide, by decide⟩ rfl rfl rfl (Nat.le_of_ble_eq_true rfl) dX0_ring_58 (fun r u hp => ?_)
              obtain rfl := hp
              first | refine jj_iaddN hC dX0_ring_61 ?_ | refine jj_iadd hC dX0_ring_61 ?_
              refine jj_widen (k' := 1) (n' := 6) (by decide) (by decide) ?_
              exact hret _ _ _ (g4, h4) (by simp [ts_req, eNj0, eNj1, eNj2, hq2, hq7, hq12, hq18, hq24, hq30]) dX0_ring_62 (by rfl) (by rw [eNj0, eNj1, eNj2])
theorem xkX0_fair_70 : Cond.classLink RX0 70 "java/lang/IllegalArgumentException" ∈ wsX0_fair := by decide +kernel
theorem xiX0_fair_IA : Cond.initialized "java/lang/IllegalArgumentException" ∈ wsX0_fair := by decide +kernel
theorem xgX0_fair_74 : ∀ w ∈ (vx_atS RX0 74 "java/lang/IllegalArgumentException" jj_nm).filter goodWord, w ∈ wsX0_fair := by decide +kernel
set_option maxRecDepth 100000 in
set_option maxHeartbeats 4000000 in
theorem xm_fair (l : Launch) (D : va_G) (a : Nat → Nat) (c1 c2 c3 : ClassId) (v : ts_V) (g : Nat → Int32) (h : Int32) (hl : l.stackTraces = false) (hI : ts_I v) (x0 : Int32) : jj_Mx l D (ts_T c1 c2 c3) yX0_fair wsX0_fair rX0_fair [.ref (a 0), .int x0] (wx a c1 c2 v g h) (ts_req (ts_rg x0 1 10) jj_IA) ((Nat → Int32) × Int32) (fun x _ => x = nI (ts_fr v (ts_N x0) 0).2) (fun u => wx a c1 c2 (ts_fr v (ts_N x0) 0).1 u.1 u.2) := by
  refine jj_metx (cc := cX0_fair) (nL := 4) hl rfl (by decide) rfl (Nat.le_of_ble_eq_true rfl) (fun E Q hC hEl hED hD0 hH hV hret hthr hnew => ?_)
  subst hEl
  show jj_J E 0 0 Q (wx a c1 c2 v g h) 0 [(0, .ref (a 0)), (1, .int x0)] []
  refine jj_iload_n hC dX0_fair_0 rfl ?_
  refine jj_iconst hC dX0_fair_1 (v := nI 1) (by decide) ?_
  refine jj_icmp_lt hC dX0_fair_2 (tgt := 11) (by decide) (fun cc2 => ?_) (fun cc2 => ?_)
  · exact hnew _ _ 11 70 142 74 "java/lang/IllegalArgumentException" "swaps are 1 to 10" _ _ (by rw [show ts_rg x0 1 10 = false from ts_rg_lo (by decide) cc2]; simp [ts_req, ]) (by decide) (by decide) (by decide +kernel) (Or.inr (Or.inl rfl)) xkX0_fair_70 xiX0_fair_IA xgX0_fair_74 xbad_IA xot_IA_70 dX0_fair_11 dX0_fair_14 dX0_fair_15 dX0_fair_17 dX0_fair_20 (by decide) (Nat.le_of_ble_eq_true rfl)
  · refine jj_iload_n hC dX0_fair_5 rfl ?_
    refine jj_bipush hC dX0_fair_6 (v := nI 10) (by decide) ?_
    refine jj_icmp_le hC dX0_fair_8 (tgt := 21) (by decide) (fun c8 => ?_) (fun c8 => ?_)
    · have hr : ts_rg x0 1 10 = true := ts_rg_yes (by decide) (by decide) cc2 (ts_i32_nlt c8)
      obtain ⟨j, hj1, hj2, rfl⟩ := ts_rg_of hr (by decide)
      refine jj_iconst hC dX0_fair_21 (v := nI 0) (by decide) ?_
      refine jj_istore_n hC dX0_fair_22 (by decide) [1, 2, 0] (lv' := [(0, _), (1, _), (2, .int _)]) rfl ?_
      refine jj_for (P := fun i => ∀ (w : ts_V) (g1 : Nat → Int32) (h1 : Int32), ts_I w → ts_fr v j 0 = ts_fr w (j - i) i → jj_J E 0 0 Q (wx a c1 c2 w g1 h1) 23 [(0, .ref (a 0)), (1, .int (nI j)), (2, .int (nI i))] []) (N := j) ?_ ?_ 0 (Nat.zero_le _) v g h hI rfl
      · intro w g1 h1 hW hF
        refine jj_iload_n hC dX0_fair_23 rfl ?_
        refine jj_iload_n hC dX0_fair_24 rfl ?_
        refine jj_icmp_geT hC dX0_fair_25 (tgt := 58) (by decide) (nI_le (Nat.le_refl _) (by omega)) ?_
        refine jj_iload_n hC dX0_fair_58 rfl ?_
        refine jj_widen (k' := 1) (n' := 6) (by decide) (by decide) ?_
        have eN : ts_N (nI j) = j := ts_N_nI (by omega)
        have eF : ts_fr v j 0 = (w, j) := by rw [hF, Nat.sub_self]; rfl
        refine jj_ws (ws' := wx a c1 c2 (ts_fr v (ts_N (nI j)) 0).1 g1 h1) (by rw [eN, eF]) (hret _ _ _ (g1, h1) (by simp [ts_req, hr]) dX0_fair_59 (by rfl) (by rw [eN, eF]))
      · intro i hi ih w g1 h1 hW hF
        refine jj_iload_n hC dX0_fair_23 rfl ?_
        refine jj_iload_n hC dX0_fair_24 rfl ?_
        refine jj_icmp_geF hC dX0_fair_25 (tgt := 58) (by decide) (nI_ge hi (by omega)) ?_
        refine jj_aload_n hC dX0_fair_28 rfl ?_
        refine jj_calli hC (xm_bestSwapOfFirstPair _ _ a c1 c2 c3 w g1 h1 hW) gX0_fair_X0_bestSwapOfFirstPair rfl 0 (by decide +kernel) ⟨by decide, by decide, by decide, by decide⟩ 0 0 (by rfl) rfl rfl rfl rfl (Nat.le_of_ble_eq_true rfl) dX0_fair_29 (fun r u hp => ?_)
        obtain rfl := hp
        obtain ⟨g2, h2⟩ := u
        refine jj_istore_n hC dX0_fair_32 (by decide) [1, 2, 3, 0] (lv' := [(0, _), (1, _), (2, _), (3, .int _)]) rfl ?_
        refine jj_iload_n hC dX0_fair_33 rfl ?_
        refine jj_iconst hC dX0_fair_34 (v := -1) (by decide) ?_
        refine jj_icmp_ne hC dX0_fair_35 (tgt := 40) (by decide) (fun c35 => ?_) (fun c35 => ?_)
        · obtain ⟨c, o, x, y, -, -, hg, e1, e2, e3⟩ := ts_first_xy hW c35
          have hl := ts_bgood_lt hW hg
          have hF2 : ts_fr v j 0 = ts_fr (ts_swp w x y) (j - (i + 1)) (i + 1) := by rw [hF, show j - i = (j - (i + 1)) + 1 by omega, ts_fr, if_neg c35, e2, e3]
          rw [e1]
          refine jj_aload_n hC dX0_fair_40 rfl ?_
          refine jj_iload_n hC dX0_fair_41 rfl ?_
          refine jj_bipush hC dX0_fair_42 (v := nI 36) (by decide) ?_
          refine jj_idivN hC dX0_fair_44 (by omega) (by omega) (by omega) ?_
          rw [hl.2.1]
          refine jj_iload_n hC dX0_fair_45 rfl ?_
          refine jj_bipush hC dX0_fair_46 (v := nI 36) (by decide) ?_
          refine jj_iremN hC dX0_fair_48 (by omega) (by omega) (by omega) ?_
          rw [hl.2.2]
          refine jj_callv hC (xm_changeHands _ _ a c1 c2 c3 w g2 h2 hW x y hg.1 hg.2.1) gX0_fair_X0_changeHands rfl 2 (by decide +kernel) ⟨by decide, by decide, by decide, by decide⟩ 0 0 (by rfl) rfl rfl rfl rfl (Nat.le_of_ble_eq_true rfl) dX0_fair_49 (fun u hp => ?_)
          refine jj_iincN hC dX0_fair_52 rfl (d9 := 1) (by decide) (by decide) [1, 2, 0, 3] (lv' := [(0, _), (1, _), (2, .int _), (3, _)]) rfl ?_
          refine jj_goto hC dX0_fair_55 (tgt := 23) (by decide) ?_
          refine jj_sub [0, 1, 2] (lv' := [(0, _), (1, _), (2, _)]) rfl ?_
          exact ih _ _ _ (ts_I_swp hW x y hg.1 hg.2.1) hF2
        · refine jj_iload_n hC dX0_fair_38 rfl ?_
          refine jj_widen (k' := 1) (n' := 6) (by decide) (by decide) ?_
          have eN : ts_N (nI j) = j := ts_N_nI (by omega)
          have eF : ts_fr v j 0 = (w, i) := by rw [hF, show j - i = (j - (i + 1)) + 1 by omega, ts_fr, if_pos c35]
          refine jj_ws (ws' := wx a c1 c2 (ts_fr v (ts_N (nI j)) 0).1 g2 h2) (by rw [eN, eF]) (hret _ _ _ (g2, h2) (by simp [ts_req, hr]) dX0_fair_39 (by rfl) (by rw [eN, eF]))
    · exact hnew _ _ 11 70 142 74 "java/lang/IllegalArgumentException" "swaps are 1 to 10" _ _ (by rw [show ts_rg x0 1 10 = false from ts_rg_hi (by decide) (ts_i32_nle c8)]; simp [ts_req, ]) (by decide) (by decide) (by decide +kernel) (Or.inr (Or.inl rfl)) xkX0_fair_70 xiX0_fair_IA xgX0_fair_74 xbad_IA xot_IA_70 dX0_fair_11 dX0_fair_14 dX0_fair_15 dX0_fair_17 dX0_fair_20 (by decide) (Nat.le_of_ble_eq_true rfl)
theorem xkX0_lend_70 : Cond.classLink RX0 70 "java/lang/IllegalArgumentException" ∈ wsX0_lend := by decide +kernel
theorem xiX0_lend_IA : Cond.initialized "java/lang/IllegalArgumentException" ∈ wsX0_lend := by decide +kernel
theorem xgX0_lend_74 : ∀ w ∈ (vx_atS RX0 74 "java/lang/IllegalArgumentException" jj_nm).filter goodWord, w ∈ wsX0_lend := by decide +kernel
theorem lkX0_lend_25 : Cond.fieldLink RX0 25 RX0 (TX0 10).2.1 (TX0 10).2.2.1 ∈ wsX0_lend := by decide +kernel
theorem lkX0_lend_150 : Cond.fieldLink RX0 150 RX0 (TX0 0).2.1 (TX0 0).2.2.1 ∈ wsX0_lend := by decide +kernel
theorem lkX0_lend_28 : Cond.fieldLink RX0 28 RX0 (TX0 11).2.1 (TX0 11).2.2.1 ∈ wsX0_lend := by decide +kernel
theorem hinX0_lend : ∀ w ∈ wsX00, w ∈ wsX0_lend := by decide +kernel
set_option maxRecDepth 100000 in
set_option maxHeartbeats 4000000 in
theorem xm_lend (l : Launch) (D : va_G) (a : Nat → Nat) (c1 c2 c3 : ClassId) (v : ts_V) (g : Nat → Int32) (h : Int32) (hl : l.stackTraces = false) (hI : ts_I v) (x0 x1 : Int32) : jj_Mx l D (ts_T c1 c2 c3) yX0_lend wsX0_lend rX0_lend [.ref (a 0), .int x0, .int x1] (wx a c1 c2 v g h) (((ts_req (ts_in x0 (ts_n v)) jj_IO).or (ts_req (ts_rg x1 1 30) jj_IA)).or (ts_req (!(ts_lt v (ts_N x0))) jj_IS)) Unit (fun x _ => x = ts_w v + x1) (fun _ => wx a c1 c2 (ts_wk' (ts_ti' v (va_up (ts_ti v) (ts_N x0) (ts_w v + x1))) (va_up (ts_wk v) (ts_N x0) x1)) g h) := by
  obtain ⟨hn, hk, hth, hwk, hli, hgr⟩ := id hI
  refine jj_metx (cc := cX0_lend) (nL := 3) hl rfl (by decide) rfl (Nat.le_of_ble_eq_true rfl) (fun E Q hC hEl hED hD0 hH hV hret hthr hnew => ?_)
  subst hEl
  show jj_J E 0 0 Q (wx a c1 c2 v g h) 0 [(0, .ref (a 0)), (1, .int x0), (2, .int x1)] []
  refine jj_aload_n hC dX0_lend_0 rfl ?_
  refine jj_iload_n hC dX0_lend_1 rfl ?_
  cases hq2 : ts_in x0 (ts_n v) with
  | false => exact jj_callxv hC hH hV (xm_requireThimble _ _ a c1 c2 c3 v g h hl hI _) gX0_lend_X0_requireThimble rfl 1 (by decide +kernel) ⟨by decide, by decide, by decide, by decide⟩ 0 0 (by rfl) rfl rfl rfl rfl (Nat.le_of_ble_eq_true rfl) dX0_lend_2  (fun Ex hEx => hthr _ _ _ _ (by simpa [ts_req, hq2, ] using hEx)) (fun hEx => by simp [ts_req, hq2] at hEx)
  | true =>
    obtain ⟨j0, hj0, rfl⟩ := ts_in_of hq2 (by omega)
    refine jj_callv hC (xp_requireThimble _ _ a c1 c2 c3 v g h hI _ hq2) gX0_lend_X0_requireThimble rfl 1 (by decide +kernel) ⟨by decide, by decide, by decide, by decide⟩ 0 0 (by rfl) rfl rfl rfl rfl (Nat.le_of_ble_eq_true rfl) dX0_lend_2  (fun u hp => ?_)
    refine jj_iload_n hC dX0_lend_5 rfl ?_
    refine jj_iconst hC dX0_lend_6 (v := nI 1) (by decide) ?_
    refine jj_icmp_lt hC dX0_lend_7 (tgt := 16) (by decide) (fun c7 => ?_) (fun c7 => ?_)
    · exact hnew _ _ 16 70 148 74 "java/lang/IllegalArgumentException" "weeks are 1 to 30" _ _ (by rw [show ts_rg x1 1 30 = false from ts_rg_lo (by decide) c7]; simp [ts_req, hq2]) (by decide) (by decide) (by decide +kernel) (Or.inr (Or.inl rfl)) xkX0_lend_70 xiX0_lend_IA xgX0_lend_74 xbad_IA xot_IA_70 dX0_lend_16 dX0_lend_19 dX0_lend_20 dX0_lend_22 dX0_lend_25 (by decide) (Nat.le_of_ble_eq_true rfl)
    · refine jj_iload_n hC dX0_lend_10 rfl ?_
      refine jj_bipush hC dX0_lend_11 (v := nI 30) (by decide) ?_
      refine jj_icmp_le hC dX0_lend_13 (tgt := 26) (by decide) (fun c13 => ?_) (fun c13 => ?_)
      · have hr : ts_rg x1 1 30 = true := ts_rg_yes (by decide) (by decide) c7 (ts_i32_nlt c13)
        obtain ⟨j1, hj11, hj12, rfl⟩ := ts_rg_of hr (by decide)
        have eNj0 : ts_N (nI j0) = j0 := ts_N_nI (by omega)
        refine jj_aload_n hC dX0_lend_26 rfl ?_
        refine jj_iload_n hC dX0_lend_27 rfl ?_
        cases hq28 : !(ts_lt v j0) with
        | false => exact jj_callxv hC hH hV (xm_requireAtHome _ _ a c1 c2 c3 v g h hl j0 (by omega)) gX0_lend_X0_requireAtHome rfl 1 (by decide +kernel) ⟨by decide, by decide, by decide, by decide⟩ 0 0 (by rfl) rfl rfl rfl rfl (Nat.le_of_ble_eq_true rfl) dX0_lend_28  (fun Ex hEx => hthr _ _ _ _ (by simpa [ts_req, eNj0, hr, hq28, hq2] using hEx)) (fun hEx => by simp [ts_req, hq28] at hEx)
        | true =>
          refine jj_callv hC (xp_requireAtHome _ _ a c1 c2 c3 v g h j0 (by omega) hq28) gX0_lend_X0_requireAtHome rfl 1 (by decide +kernel) ⟨by decide, by decide, by decide, by decide⟩ 0 0 (by rfl) rfl rfl rfl rfl (Nat.le_of_ble_eq_true rfl) dX0_lend_28  (fun u hp => ?_)
          refine jj_aload_n hC dX0_lend_31 rfl ?_
          refine jj_get hC 0 10 dX0_lend_32 (by rfl) rfl (by decide) lkX0_lend_25 rfl hinX0_lend (by rfl) ?_
          refine jj_iload_n hC dX0_lend_35 rfl ?_
          refine jj_aload_n hC dX0_lend_36 rfl ?_
          refine jj_get hC 0 0 dX0_lend_37 (by rfl) rfl (by decide) lkX0_lend_150 rfl hinX0_lend (by rfl) ?_
          refine jj_iload_n hC dX0_lend_40 rfl ?_
          first | refine jj_iaddN hC dX0_lend_41 ?_ | refine jj_iadd hC dX0_lend_41 ?_
          refine jj_iast hC 6 0 dX0_lend_42 (wx_g6 ..) rfl (by omega) (by decide) (wx_s6 ..) ?_
          refine jj_aload_n hC dX0_lend_43 rfl ?_
          refine jj_get hC 0 11 dX0_lend_44 (by rfl) rfl (by decide) lkX0_lend_28 rfl hinX0_lend (by rfl) ?_
          refine jj_iload_n hC dX0_lend_47 rfl ?_
          refine jj_iload_n hC dX0_lend_48 rfl ?_
          refine jj_iast hC 7 0 dX0_lend_49 (wx_g7 ..) rfl (by omega) (by decide) (wx_s7 ..) ?_
          refine jj_aload_n hC dX0_lend_50 rfl ?_
          refine jj_get hC 0 10 dX0_lend_51 (by rfl) rfl (by decide) lkX0_lend_25 rfl hinX0_lend (by rfl) ?_
          refine jj_iload_n hC dX0_lend_54 rfl ?_
          refine jj_iald hC 6 0 dX0_lend_55 (wx_g6 ..) rfl (by omega) (by decide) ?_
          refine jj_widen (k' := 1) (n' := 6) (by decide) (by decide) ?_
          refine jj_ws (ws' := wx a c1 c2 (ts_wk' (ts_ti' v (va_up (ts_ti v) (ts_N (nI j0)) (ts_w v + nI j1))) (va_up (ts_wk v) (ts_N (nI j0)) (nI j1))) g h) (by rw [eNj0]) (hret _ _ _ () (by simp [ts_req, eNj0, hr, hq2, hq28]) dX0_lend_56 (by rfl) (va_up_self ..))
      · exact hnew _ _ 16 70 148 74 "java/lang/IllegalArgumentException" "weeks are 1 to 30" _ _ (by rw [show ts_rg x1 1 30 = false from ts_rg_hi (by decide) (ts_i32_nle c13)]; simp [ts_req, hq2]) (by decide) (by decide) (by decide +kernel) (Or.inr (Or.inl rfl)) xkX0_lend_70 xiX0_lend_IA xgX0_lend_74 xbad_IA xot_IA_70 dX0_lend_16 dX0_lend_19 dX0_lend_20 dX0_lend_22 dX0_lend_25 (by decide) (Nat.le_of_ble_eq_true rfl)
set_option maxRecDepth 100000 in
set_option maxHeartbeats 4000000 in
theorem xm_shows (l : Launch) (D : va_G) (a : Nat → Nat) (c1 c2 c3 : ClassId) (v : ts_V) (g : Nat → Int32) (h : Int32) (hl : l.stackTraces = false) (hI : ts_I v) (x0 : Int32) : jj_Mx l D (ts_T c1 c2 c3) yX0_shows wsX0_shows rX0_shows [.ref (a 0), .int x0] (wx a c1 c2 v g h) (ts_req (ts_in x0 8) jj_IO) Unit (fun x _ => x = nI (ts_bcN (ts_or (fun t => ts_se v t == ts_N x0 && ts_lt v t) (ts_nu v) (ts_n v)))) (fun _ => wx a c1 c2 v g h) := by
  obtain ⟨hn, hk, hth, hwk, hli, hgr⟩ := id hI
  refine jj_metx (cc := cX0_shows) (nL := 2) hl rfl (by decide) rfl (Nat.le_of_ble_eq_true rfl) (fun E Q hC hEl hED hD0 hH hV hret hthr hnew => ?_)
  subst hEl
  show jj_J E 0 0 Q (wx a c1 c2 v g h) 0 [(0, .ref (a 0)), (1, .int x0)] []
  refine jj_iload_n hC dX0_shows_0 rfl ?_
  cases hq1 : ts_in x0 8 with
  | false => exact jj_scallxvN hC hH hV (xm_requireSet _ _ c1 c2 c3 hl _) gX0_shows_X0_requireSet rfl 1 (by decide +kernel) ⟨by decide, by decide, by decide, by decide⟩ rfl rfl rfl (Nat.le_of_ble_eq_true rfl) dX0_shows_1  (fun Ex hEx => hthr _ _ _ _ (by simpa [ts_req, hq1, ] using hEx)) (fun hEx => by simp [ts_req, hq1] at hEx)
  | true =>
    obtain ⟨j0, hj0, rfl⟩ := ts_in_of hq1 (by decide)
    refine jj_scallvL (ws := []) hC (xp_requireSet _ _ c1 c2 c3 _ hq1) gX0_shows_X0_requireSet rfl 1 (by decide +kernel) ⟨by decide, by decide, by decide, by decide⟩ rfl rfl rfl (Nat.le_of_ble_eq_true rfl) dX0_shows_1  (fun u hp => ?_)
    show jj_J E _ _ Q _ _ _ _
    refine jj_aload_n hC dX0_shows_4 rfl ?_
    refine jj_iload_n hC dX0_shows_5 rfl ?_
    refine jj_calli hC (xm_numbersShown _ _ a c1 c2 c3 v g h hI j0 hj0) gX0_shows_X0_numbersShown rfl 1 (by decide +kernel) ⟨by decide, by decide, by decide, by decide⟩ 0 0 (by rfl) rfl rfl rfl rfl (Nat.le_of_ble_eq_true rfl) dX0_shows_6 (fun r u hp => ?_)
    obtain rfl := hp
    refine jj_scalliN hC (xm_bitCount _ _ c1 c2 c3 _) gX0_shows_J6_bitCount_0f7a4 rfl 1 (by decide +kernel) ⟨by decide, by decide, by decide, by decide⟩ rfl rfl rfl (Nat.le_of_ble_eq_true rfl) dX0_shows_9 (fun r u hp => ?_)
    obtain rfl := hp
    refine jj_widen (k' := 1) (n' := 6) (by decide) (by decide) ?_
    exact hret _ _ _ () (by simp [ts_req, hq1]) dX0_shows_12 (by rfl) (by rw [ts_N_nI (by omega)]; exact (ts_bc_eq _).1)
set_option maxRecDepth 100000 in
set_option maxHeartbeats 4000000 in
theorem xm_lacks (l : Launch) (D : va_G) (a : Nat → Nat) (c1 c2 c3 : ClassId) (v : ts_V) (g : Nat → Int32) (h : Int32) (hl : l.stackTraces = false) (hI : ts_I v) (x0 : Int32) : jj_Mx l D (ts_T c1 c2 c3) yX0_lacks wsX0_lacks rX0_lacks [.ref (a 0), .int x0] (wx a c1 c2 v g h) (ts_req (ts_in x0 8) jj_IO) Unit (fun x _ => x = if ts_bcN (ts_or (fun t => ts_se v t == ts_N x0) (ts_nu v) (ts_n v)) < 6 then -1 else nI 6 - nI (ts_bcN (ts_or (fun t => ts_se v t == ts_N x0 && ts_lt v t) (ts_nu v) (ts_n v)))) (fun _ => wx a c1 c2 v g h) := by
  obtain ⟨hn, hk, hth, hwk, hli, hgr⟩ := id hI
  refine jj_metx (cc := cX0_lacks) (nL := 2) hl rfl (by decide) rfl (Nat.le_of_ble_eq_true rfl) (fun E Q hC hEl hED hD0 hH hV hret hthr hnew => ?_)
  subst hEl
  show jj_J E 0 0 Q (wx a c1 c2 v g h) 0 [(0, .ref (a 0)), (1, .int x0)] []
  refine jj_iload_n hC dX0_lacks_0 rfl ?_
  cases hq1 : ts_in x0 8 with
  | false => exact jj_scallxvN hC hH hV (xm_requireSet _ _ c1 c2 c3 hl _) gX0_lacks_X0_requireSet rfl 1 (by decide +kernel) ⟨by decide, by decide, by decide, by decide⟩ rfl rfl rfl (Nat.le_of_ble_eq_true rfl) dX0_lacks_1  (fun Ex hEx => hthr _ _ _ _ (by simpa [ts_req, hq1, ] using hEx)) (fun hEx => by simp [ts_req, hq1] at hEx)
  | true =>
    obtain ⟨j0, hj0, rfl⟩ := ts_in_of hq1 (by decide)
    refine jj_scallvL (ws := []) hC (xp_requireSet _ _ c1 c2 c3 _ hq1) gX0_lacks_X0_requireSet rfl 1 (by decide +kernel) ⟨by decide, by decide, by decide, by decide⟩ rfl rfl rfl (Nat.le_of_ble_eq_true rfl) dX0_lacks_1  (fun u hp => ?_)
    show jj_J E _ _ Q _ _ _ _
    refine jj_aload_n hC dX0_lacks_4 rfl ?_
    refine jj_iload_n hC dX0_lacks_5 rfl ?_
    refine jj_calli hC (xm_numbersFound _ _ a c1 c2 c3 v g h hI j0 hj0) gX0_lacks_X0_numbersFound rfl 1 (by decide +kernel) ⟨by decide, by decide, by decide, by decide⟩ 0 0 (by rfl) rfl rfl rfl rfl (Nat.le_of_ble_eq_true rfl) dX0_lacks_6 (fun r u hp => ?_)
    obtain rfl := hp
    refine jj_scalliN hC (xm_bitCount _ _ c1 c2 c3 _) gX0_lacks_J6_bitCount_0f7a4 rfl 1 (by decide +kernel) ⟨by decide, by decide, by decide, by decide⟩ rfl rfl rfl (Nat.le_of_ble_eq_true rfl) dX0_lacks_9 (fun r u hp => ?_)
    obtain rfl := hp
    rw [(ts_bc_eq _).1]
    refine jj_bipush hC dX0_lacks_12 (v := nI 6) (by decide) ?_
    have h64 := (ts_bc_eq (ts_or (fun t => ts_se v t == j0) (ts_nu v) (ts_n v))).2
    first | refine jj_icmp_geN hC dX0_lacks_14 (tgt := 19) (by decide) (by omega) (by omega) (fun c14 => ?_) (fun c14 => ?_) | refine jj_icmp_ge hC dX0_lacks_14 (tgt := 19) (by decide) (fun c14 => ?_) (fun c14 => ?_)
    · refine jj_bipush hC dX0_lacks_19 (v := nI 6) (by decide) ?_
      refine jj_aload_n hC dX0_lacks_21 rfl ?_
      refine jj_iload_n hC dX0_lacks_22 rfl ?_
      refine jj_calli hC (xm_numbersShown _ _ a c1 c2 c3 v g h hI j0 hj0) gX0_lacks_X0_numbersShown rfl 1 (by decide +kernel) ⟨by decide, by decide, by decide, by decide⟩ 0 0 (by rfl) rfl rfl rfl rfl (Nat.le_of_ble_eq_true rfl) dX0_lacks_23 (fun r u hp => ?_)
      obtain rfl := hp
      refine jj_scalliN hC (xm_bitCount _ _ c1 c2 c3 _) gX0_lacks_J6_bitCount_0f7a4 rfl 1 (by decide +kernel) ⟨by decide, by decide, by decide, by decide⟩ rfl rfl rfl (Nat.le_of_ble_eq_true rfl) dX0_lacks_26 (fun r u hp => ?_)
      obtain rfl := hp
      rw [(ts_bc_eq _).1]
      refine jj_isub hC dX0_lacks_29 ?_
      refine jj_widen (k' := 1) (n' := 6) (by decide) (by decide) ?_
      exact hret _ _ _ () (by simp [ts_req, hq1]) dX0_lacks_30 (by rfl) (by rw [ts_N_nI (by omega)]; first | rw [if_pos c14] | rw [if_neg (Nat.not_lt.mpr c14)])
    · refine jj_iconst hC dX0_lacks_17 (v := -1) (by decide) ?_
      refine jj_widen (k' := 1) (n' := 6) (by decide) (by decide) ?_
      exact hret _ _ _ () (by simp [ts_req, hq1]) dX0_lacks_18 (by rfl) (by rw [ts_N_nI (by omega)]; first | rw [if_pos c14] | rw [if_neg (Nat.not_lt.mpr c14)])
theorem ts_stts_le {v : ts_V} (hI : ts_I v) (p : Nat → Bool) (s : Nat) : ts_stts v p s ≤ 54 := ts_sum_le (c := 9) (fun k _ => by have : ts_g v p s k ≤ 10 := ts_gs_le (fun t ht => (hI.2.2.1 t ht).2.2.2.1); omega)
theorem ts_fi_le {v : ts_V} (hI : ts_I v) (s : Nat) : ∀ c, (ts_fi v s c).2.1 ≤ 6 ∧ (ts_fi v s c).2.2 ≤ 54
  | 0 => ⟨Nat.zero_le _, Nat.zero_le _⟩
  | c + 1 => by
    rw [ts_fi]
    split
    · exact ⟨ts_cnt_le _ 6, ts_stts_le hI _ _⟩
    · exact ts_fi_le hI s c
theorem lkX0_finest_45 : Cond.fieldLink RX0 45 RX0 (TX0 1).2.1 (TX0 1).2.2.1 ∈ wsX0_finest := by decide +kernel
theorem hinX0_finest : ∀ w ∈ wsX00, w ∈ wsX0_finest := by decide +kernel
set_option maxRecDepth 100000 in
set_option maxHeartbeats 4000000 in
theorem xm_finest (l : Launch) (D : va_G) (a : Nat → Nat) (c1 c2 c3 : ClassId) (v : ts_V) (g : Nat → Int32) (h : Int32) (hl : l.stackTraces = false) (hI : ts_I v) (x0 : Int32) : jj_Mx l D (ts_T c1 c2 c3) yX0_finest wsX0_finest rX0_finest [.ref (a 0), .int x0] (wx a c1 c2 v g h) (ts_req (ts_in x0 8) jj_IO) ((Nat → Int32) × Int32) (fun x _ => x = (ts_fi v (ts_N x0) (ts_k v)).1) (fun u => wx a c1 c2 v u.1 u.2) := by
  obtain ⟨hn, hk, hth, hwk, hli, hgr⟩ := id hI
  refine jj_metx (cc := cX0_finest) (nL := 8) hl rfl (by decide) rfl (Nat.le_of_ble_eq_true rfl) (fun E Q hC hEl hED hD0 hH hV hret hthr hnew => ?_)
  subst hEl
  show jj_J E 0 0 Q (wx a c1 c2 v g h) 0 [(0, .ref (a 0)), (1, .int x0)] []
  refine jj_iload_n hC dX0_finest_0 rfl ?_
  cases hq1 : ts_in x0 8 with
  | false => exact jj_scallxvN hC hH hV (xm_requireSet _ _ c1 c2 c3 hl _) gX0_finest_X0_requireSet rfl 1 (by decide +kernel) ⟨by decide, by decide, by decide, by decide⟩ rfl rfl rfl (Nat.le_of_ble_eq_true rfl) dX0_finest_1  (fun Ex hEx => hthr _ _ _ _ (by simpa [ts_req, hq1, ] using hEx)) (fun hEx => by simp [ts_req, hq1] at hEx)
  | true =>
    obtain ⟨s, hs, rfl⟩ := ts_in_of hq1 (by decide)
    refine jj_scallvL (ws := []) hC (xp_requireSet _ _ c1 c2 c3 _ hq1) gX0_finest_X0_requireSet rfl 1 (by decide +kernel) ⟨by decide, by decide, by decide, by decide⟩ rfl rfl rfl (Nat.le_of_ble_eq_true rfl) dX0_finest_1  (fun u hp => ?_)
    show jj_J E _ _ Q _ _ _ _
    refine jj_iconst hC dX0_finest_4 (v := -1) (by decide) ?_
    refine jj_istore_n hC dX0_finest_5 (by decide) [1, 2, 0] (lv' := [(0, _), (1, _), (2, .int _)]) rfl ?_
    refine jj_iconst hC dX0_finest_6 (v := nI 0) (by decide) ?_
    refine jj_istore_n hC dX0_finest_7 (by decide) [1, 2, 3, 0] (lv' := [(0, _), (1, _), (2, _), (3, .int _)]) rfl ?_
    refine jj_iconst hC dX0_finest_8 (v := nI 0) (by decide) ?_
    refine jj_istore hC dX0_finest_9 (by decide) [1, 2, 3, 4, 0] (lv' := [(0, _), (1, _), (2, _), (3, _), (4, .int _)]) rfl ?_
    refine jj_iconst hC dX0_finest_11 (v := nI 0) (by decide) ?_
    refine jj_istore hC dX0_finest_12 (by decide) [1, 2, 3, 4, 5, 0] (lv' := [(0, _), (1, _), (2, _), (3, _), (4, _), (5, .int _)]) rfl ?_
    refine jj_for (P := fun i => ∀ (g1 : Nat → Int32) (h1 : Int32), jj_J E 0 0 Q (wx a c1 c2 v g1 h1) 14 [(0, .ref (a 0)), (1, .int (nI s)), (2, .int (ts_fi v s i).1), (3, .int (nI (ts_fi v s i).2.1)), (4, .int (nI (ts_fi v s i).2.2)), (5, .int (nI i))] []) (N := ts_k v) ?_ ?_ 0 (Nat.zero_le _) _ _
    · intro g1 h1
      refine jj_iload hC dX0_finest_14 rfl ?_
      refine jj_aload_n hC dX0_finest_16 rfl ?_
      refine jj_get hC 0 1 dX0_finest_17 (by rfl) rfl (by decide) lkX0_finest_45 rfl hinX0_finest (by rfl) ?_
      refine jj_icmp_geT hC dX0_finest_20 (tgt := 78) (by decide) (nI_le (Nat.le_refl _) (by omega)) ?_
      refine jj_iload_n hC dX0_finest_78 rfl ?_
      refine jj_widen (k' := 1) (n' := 6) (by decide) (by decide) ?_
      exact hret _ _ _ (g1, h1) (by simp [ts_req, hq1]) dX0_finest_79 (by rfl) (by rw [ts_N_nI (by omega)])
    · intro i hi ih g1 h1
      have hfl := ts_fi_le hI s i
      have hn6 : ts_nums v (ts_of v i) s ≤ 6 := ts_cnt_le _ 6
      have hs54 := ts_stts_le hI (ts_of v i) s
      refine jj_iload hC dX0_finest_14 rfl ?_
      refine jj_aload_n hC dX0_finest_16 rfl ?_
      refine jj_get hC 0 1 dX0_finest_17 (by rfl) rfl (by decide) lkX0_finest_45 rfl hinX0_finest (by rfl) ?_
      refine jj_icmp_geF hC dX0_finest_20 (tgt := 78) (by decide) (nI_ge hi (by omega)) ?_
      refine jj_aload_n hC dX0_finest_23 rfl ?_
      refine jj_iload hC dX0_finest_24 rfl ?_
      refine jj_callv hC (xm_layOutOwn _ _ a c1 c2 c3 v g1 h1 hI i (by omega)) gX0_finest_X0_layOutOwn rfl 1 (by decide +kernel) ⟨by decide, by decide, by decide, by decide⟩ 0 0 (by rfl) rfl rfl rfl rfl (Nat.le_of_ble_eq_true rfl) dX0_finest_26 (fun u hp => ?_)
      obtain ⟨g2, hg2⟩ : ∃ g2, g2 = u := ⟨u, rfl⟩
      rw [← hg2] at hp ⊢
      clear hg2
      have hg2 := hp
      refine jj_aload_n hC dX0_finest_29 rfl ?_
      refine jj_iload_n hC dX0_finest_30 rfl ?_
      refine jj_calli hC (xm_numbersLaidOut _ _ a c1 c2 c3 v g2 _ (ts_lay v (ts_of v i)) (ts_lay_le hI _) hg2 s hs) gX0_finest_X0_numbersLaidOut rfl 1 (by decide +kernel) ⟨by decide, by decide, by decide, by decide⟩ 0 0 (by rfl) rfl rfl rfl rfl (Nat.le_of_ble_eq_true rfl) dX0_finest_31 (fun r u hp => ?_)
      obtain rfl := hp
      rw [ts_numG_lay]
      refine jj_istore hC dX0_finest_34 (by decide) [1, 2, 3, 4, 5, 6, 0] (lv' := [(0, _), (1, _), (2, _), (3, _), (4, _), (5, _), (6, .int _)]) rfl ?_
      refine jj_aload_n hC dX0_finest_36 rfl ?_
      refine jj_iload_n hC dX0_finest_37 rfl ?_
      refine jj_calli hC (xm_statesLaidOut _ _ a c1 c2 c3 v g2 _ (ts_lay v (ts_of v i)) (ts_lay_le hI _) hg2 s hs) gX0_finest_X0_statesLaidOut rfl 1 (by decide +kernel) ⟨by decide, by decide, by decide, by decide⟩ 0 0 (by rfl) rfl rfl rfl rfl (Nat.le_of_ble_eq_true rfl) dX0_finest_38 (fun r u hp => ?_)
      obtain rfl := hp
      rw [ts_sttG_lay]
      refine jj_istore hC dX0_finest_41 (by decide) [1, 2, 3, 4, 5, 6, 7, 0] (lv' := [(0, _), (1, _), (2, _), (3, _), (4, _), (5, _), (6, _), (7, .int _)]) rfl ?_
      refine jj_iload hC dX0_finest_43 rfl ?_
      refine jj_iload_n hC dX0_finest_45 rfl ?_
      first | refine jj_icmp_gtN hC dX0_finest_46 (tgt := 62) (by decide) (by omega) (by omega) (fun c46 => ?_) (fun c46 => ?_) | refine jj_icmp_gt hC dX0_finest_46 (tgt := 62) (by decide) (fun c46 => ?_) (fun c46 => ?_)
      · refine jj_iload hC dX0_finest_62 rfl ?_
        refine jj_istore_n hC dX0_finest_64 (by decide) [1, 2, 0, 3, 4, 5, 6, 7] (lv' := [(0, _), (1, _), (2, .int _), (3, _), (4, _), (5, _), (6, _), (7, _)]) rfl ?_
        refine jj_iload hC dX0_finest_65 rfl ?_
        refine jj_istore_n hC dX0_finest_67 (by decide) [1, 2, 3, 0, 4, 5, 6, 7] (lv' := [(0, _), (1, _), (2, _), (3, .int _), (4, _), (5, _), (6, _), (7, _)]) rfl ?_
        refine jj_iload hC dX0_finest_68 rfl ?_
        refine jj_istore hC dX0_finest_70 (by decide) [1, 2, 3, 4, 0, 5, 6, 7] (lv' := [(0, _), (1, _), (2, _), (3, _), (4, .int _), (5, _), (6, _), (7, _)]) rfl ?_
        refine jj_iincN hC dX0_finest_72 rfl (d9 := 1) (by decide) (by decide) [1, 2, 3, 4, 5, 0, 6, 7] (lv' := [(0, _), (1, _), (2, _), (3, _), (4, _), (5, .int _), (6, _), (7, _)]) rfl ?_
        refine jj_goto hC dX0_finest_75 (tgt := 14) (by decide) ?_
        refine jj_sub [0, 1, 2, 3, 4, 5] (lv' := [(0, _), (1, _), (2, _), (3, _), (4, _), (5, _)]) rfl ?_
        first
          | (rw [show ts_fi v s (i + 1) = (nI i, ts_nums v (ts_of v i) s, ts_stts v (ts_of v i) s) from if_pos (by omega)] at ih; exact ih _ _)
          | (rw [show ts_fi v s (i + 1) = ts_fi v s i from if_neg (by omega)] at ih; exact ih _ _)
      · refine jj_iload hC dX0_finest_49 rfl ?_
        refine jj_iload_n hC dX0_finest_51 rfl ?_
        first | refine jj_icmp_neN hC dX0_finest_52 (tgt := 72) (by decide) (by omega) (by omega) (fun c52 => ?_) (fun c52 => ?_) | refine jj_icmp_ne hC dX0_finest_52 (tgt := 72) (by decide) (fun c52 => ?_) (fun c52 => ?_)
        · refine jj_iincN hC dX0_finest_72 rfl (d9 := 1) (by decide) (by decide) [1, 2, 3, 4, 5, 0, 6, 7] (lv' := [(0, _), (1, _), (2, _), (3, _), (4, _), (5, .int _), (6, _), (7, _)]) rfl ?_
          refine jj_goto hC dX0_finest_75 (tgt := 14) (by decide) ?_
          refine jj_sub [0, 1, 2, 3, 4, 5] (lv' := [(0, _), (1, _), (2, _), (3, _), (4, _), (5, _)]) rfl ?_
          first
            | (rw [show ts_fi v s (i + 1) = (nI i, ts_nums v (ts_of v i) s, ts_stts v (ts_of v i) s) from if_pos (by omega)] at ih; exact ih _ _)
            | (rw [show ts_fi v s (i + 1) = ts_fi v s i from if_neg (by omega)] at ih; exact ih _ _)
        · refine jj_iload hC dX0_finest_55 rfl ?_
          refine jj_iload hC dX0_finest_57 rfl ?_
          first | refine jj_icmp_leN hC dX0_finest_59 (tgt := 72) (by decide) (by omega) (by omega) (fun c59 => ?_) (fun c59 => ?_) | refine jj_icmp_le hC dX0_finest_59 (tgt := 72) (by decide) (fun c59 => ?_) (fun c59 => ?_)
          · refine jj_iincN hC dX0_finest_72 rfl (d9 := 1) (by decide) (by decide) [1, 2, 3, 4, 5, 0, 6, 7] (lv' := [(0, _), (1, _), (2, _), (3, _), (4, _), (5, .int _), (6, _), (7, _)]) rfl ?_
            refine jj_goto hC dX0_finest_75 (tgt := 14) (by decide) ?_
            refine jj_sub [0, 1, 2, 3, 4, 5] (lv' := [(0, _), (1, _), (2, _), (3, _), (4, _), (5, _)]) rfl ?_
            first
              | (rw [show ts_fi v s (i + 1) = (nI i, ts_nums v (ts_of v i) s, ts_stts v (ts_of v i) s) from if_pos (by omega)] at ih; exact ih _ _)
              | (rw [show ts_fi v s (i + 1) = ts_fi v s i from if_neg (by omega)] at ih; exact ih _ _)
          · refine jj_iload hC dX0_finest_62 rfl ?_
            refine jj_istore_n hC dX0_finest_64 (by decide) [1, 2, 0, 3, 4, 5, 6, 7] (lv' := [(0, _), (1, _), (2, .int _), (3, _), (4, _), (5, _), (6, _), (7, _)]) rfl ?_
            refine jj_iload hC dX0_finest_65 rfl ?_
            refine jj_istore_n hC dX0_finest_67 (by decide) [1, 2, 3, 0, 4, 5, 6, 7] (lv' := [(0, _), (1, _), (2, _), (3, .int _), (4, _), (5, _), (6, _), (7, _)]) rfl ?_
            refine jj_iload hC dX0_finest_68 rfl ?_
            refine jj_istore hC dX0_finest_70 (by decide) [1, 2, 3, 4, 0, 5, 6, 7] (lv' := [(0, _), (1, _), (2, _), (3, _), (4, .int _), (5, _), (6, _), (7, _)]) rfl ?_
            refine jj_iincN hC dX0_finest_72 rfl (d9 := 1) (by decide) (by decide) [1, 2, 3, 4, 5, 0, 6, 7] (lv' := [(0, _), (1, _), (2, _), (3, _), (4, _), (5, .int _), (6, _), (7, _)]) rfl ?_
            refine jj_goto hC dX0_finest_75 (tgt := 14) (by decide) ?_
            refine jj_sub [0, 1, 2, 3, 4, 5] (lv' := [(0, _), (1, _), (2, _), (3, _), (4, _), (5, _)]) rfl ?_
            first
              | (rw [show ts_fi v s (i + 1) = (nI i, ts_nums v (ts_of v i) s, ts_stts v (ts_of v i) s) from if_pos (by omega)] at ih; exact ih _ _)
              | (rw [show ts_fi v s (i + 1) = ts_fi v s i from if_neg (by omega)] at ih; exact ih _ _)
theorem xkX0_pass_70 : Cond.classLink RX0 70 "java/lang/IllegalArgumentException" ∈ wsX0_pass := by decide +kernel
theorem xiX0_pass_IA : Cond.initialized "java/lang/IllegalArgumentException" ∈ wsX0_pass := by decide +kernel
theorem xgX0_pass_74 : ∀ w ∈ (vx_atS RX0 74 "java/lang/IllegalArgumentException" jj_nm).filter goodWord, w ∈ wsX0_pass := by decide +kernel
set_option maxRecDepth 100000 in
set_option maxHeartbeats 4000000 in
theorem xm_pass (l : Launch) (D : va_G) (a : Nat → Nat) (c1 c2 c3 : ClassId) (v : ts_V) (g : Nat → Int32) (h : Int32) (hl : l.stackTraces = false) (hI : ts_I v) (x0 : Int32) : jj_Mx l D (ts_T c1 c2 c3) yX0_pass wsX0_pass rX0_pass [.ref (a 0), .int x0] (wx a c1 c2 v g h) (ts_req (ts_rg x0 1 60) jj_IA) Unit (fun x _ => x = nI (ts_pa v (ts_N x0)).2) (fun _ => wx a c1 c2 (ts_pa v (ts_N x0)).1 g h) := by
  refine jj_metx (cc := cX0_pass) (nL := 4) hl rfl (by decide) rfl (Nat.le_of_ble_eq_true rfl) (fun E Q hC hEl hED hD0 hH hV hret hthr hnew => ?_)
  subst hEl
  show jj_J E 0 0 Q (wx a c1 c2 v g h) 0 [(0, .ref (a 0)), (1, .int x0)] []
  refine jj_iload_n hC dX0_pass_0 rfl ?_
  refine jj_iconst hC dX0_pass_1 (v := nI 1) (by decide) ?_
  refine jj_icmp_lt hC dX0_pass_2 (tgt := 11) (by decide) (fun cc2 => ?_) (fun cc2 => ?_)
  · exact hnew _ _ 11 70 173 74 "java/lang/IllegalArgumentException" "weeks are 1 to 60" _ _ (by rw [show ts_rg x0 1 60 = false from ts_rg_lo (by decide) cc2]; simp [ts_req, ]) (by decide) (by decide) (by decide +kernel) (Or.inr (Or.inl rfl)) xkX0_pass_70 xiX0_pass_IA xgX0_pass_74 xbad_IA xot_IA_70 dX0_pass_11 dX0_pass_14 dX0_pass_15 dX0_pass_17 dX0_pass_20 (by decide) (Nat.le_of_ble_eq_true rfl)
  · refine jj_iload_n hC dX0_pass_5 rfl ?_
    refine jj_bipush hC dX0_pass_6 (v := nI 60) (by decide) ?_
    refine jj_icmp_le hC dX0_pass_8 (tgt := 21) (by decide) (fun c8 => ?_) (fun c8 => ?_)
    · have hr : ts_rg x0 1 60 = true := ts_rg_yes (by decide) (by decide) cc2 (ts_i32_nlt c8)
      obtain ⟨j, hj1, hj2, rfl⟩ := ts_rg_of hr (by decide)
      refine jj_iconst hC dX0_pass_21 (v := nI 0) (by decide) ?_
      refine jj_istore_n hC dX0_pass_22 (by decide) [1, 2, 0] (lv' := [(0, _), (1, _), (2, .int _)]) rfl ?_
      refine jj_iconst hC dX0_pass_23 (v := nI 0) (by decide) ?_
      refine jj_istore_n hC dX0_pass_24 (by decide) [1, 2, 3, 0] (lv' := [(0, _), (1, _), (2, _), (3, .int _)]) rfl ?_
      refine jj_for (P := fun i => jj_J E 0 0 Q (wx a c1 c2 (ts_pa v i).1 g h) 25 [(0, .ref (a 0)), (1, .int (nI j)), (2, .int (nI (ts_pa v i).2)), (3, .int (nI i))] []) (N := j) ?_ ?_ 0 (Nat.zero_le _)
      · refine jj_iload_n hC dX0_pass_25 rfl ?_
        refine jj_iload_n hC dX0_pass_26 rfl ?_
        refine jj_icmp_geT hC dX0_pass_27 (tgt := 43) (by decide) (nI_le (Nat.le_refl _) (by omega)) ?_
        refine jj_iload_n hC dX0_pass_43 rfl ?_
        refine jj_widen (k' := 1) (n' := 6) (by decide) (by decide) ?_
        refine jj_ws (ws' := wx a c1 c2 (ts_pa v (ts_N (nI j))).1 g h) (by rw [ts_N_nI (by omega)]) (hret _ _ _ () (by simp [ts_req, hr]) dX0_pass_44 (by rfl) (by rw [ts_N_nI (by omega)]))
      · intro i hi ih
        refine jj_iload_n hC dX0_pass_25 rfl ?_
        refine jj_iload_n hC dX0_pass_26 rfl ?_
        refine jj_icmp_geF hC dX0_pass_27 (tgt := 43) (by decide) (nI_ge hi (by omega)) ?_
        refine jj_iload_n hC dX0_pass_30 rfl ?_
        refine jj_aload_n hC dX0_pass_31 rfl ?_
        refine jj_calli hC (xm_endWeek _ _ a c1 c2 c3 (ts_pa v i).1 g h (ts_I_pa hI i)) gX0_pass_X0_endWeek rfl 0 (by decide +kernel) ⟨by decide, by decide, by decide, by decide⟩ 0 0 (by rfl) rfl rfl rfl rfl (Nat.le_of_ble_eq_true rfl) dX0_pass_32 (fun r u hp => ?_)
        obtain rfl := hp
        first | refine jj_iaddN hC dX0_pass_35 ?_ | refine jj_iadd hC dX0_pass_35 ?_
        refine jj_istore_n hC dX0_pass_36 (by decide) [1, 2, 0, 3] (lv' := [(0, _), (1, _), (2, .int _), (3, _)]) rfl ?_
        refine jj_iincN hC dX0_pass_37 rfl (d9 := 1) (by decide) (by decide) [1, 2, 3, 0] (lv' := [(0, _), (1, _), (2, _), (3, .int _)]) rfl ?_
        refine jj_goto hC dX0_pass_40 (tgt := 25) (by decide) ?_
        exact ih
    · exact hnew _ _ 11 70 173 74 "java/lang/IllegalArgumentException" "weeks are 1 to 60" _ _ (by rw [show ts_rg x0 1 60 = false from ts_rg_hi (by decide) (ts_i32_nle c8)]; simp [ts_req, ]) (by decide) (by decide) (by decide +kernel) (Or.inr (Or.inl rfl)) xkX0_pass_70 xiX0_pass_IA xgX0_pass_74 xbad_IA xot_IA_70 dX0_pass_11 dX0_pass_14 dX0_pass_15 dX0_pass_17 dX0_pass_20 (by decide) (Nat.le_of_ble_eq_true rfl)
theorem lkX0_count_150 : Cond.fieldLink RX0 150 RX0 (TX0 0).2.1 (TX0 0).2.2.1 ∈ wsX0_count := by decide +kernel
theorem lkX0_count_45 : Cond.fieldLink RX0 45 RX0 (TX0 1).2.1 (TX0 1).2.2.1 ∈ wsX0_count := by decide +kernel
theorem lkX0_count_75 : Cond.fieldLink RX0 75 RX0 (TX0 2).2.1 (TX0 2).2.2.1 ∈ wsX0_count := by decide +kernel
theorem lkX0_count_181 : Cond.fieldLink RX0 181 RX0 (TX0 3).2.1 (TX0 3).2.2.1 ∈ wsX0_count := by decide +kernel
theorem lkX0_count_128 : Cond.fieldLink RX0 128 RX0 (TX0 4).2.1 (TX0 4).2.2.1 ∈ wsX0_count := by decide +kernel
theorem hinX0_count : ∀ w ∈ wsX00, w ∈ wsX0_count := by decide +kernel
set_option maxRecDepth 100000 in
set_option maxHeartbeats 4000000 in
theorem xm_count (l : Launch) (D : va_G) (a : Nat → Nat) (c1 c2 c3 : ClassId) (v : ts_V) (g : Nat → Int32) (h : Int32) (hl : l.stackTraces = false) (hI : ts_I v) (x0 : Int32) : jj_Mx l D (ts_T c1 c2 c3) yX0_count wsX0_count rX0_count [.ref (a 0), .int x0] (wx a c1 c2 v g h) (ts_req (ts_in x0 7) jj_IO) ((Nat → Int32) × Int32) (fun x _ => x = ts_cn v (ts_N x0)) (fun u => wx a c1 c2 v u.1 u.2) := by
  obtain ⟨hn, hk, hth, hwk, hli, hgr⟩ := id hI
  refine jj_metx (cc := cX0_count) (nL := 2) hl rfl (by decide) rfl (Nat.le_of_ble_eq_true rfl) (fun E Q hC hEl hED hD0 hH hV hret hthr hnew => ?_)
  subst hEl
  show jj_J E 0 0 Q (wx a c1 c2 v g h) 0 [(0, .ref (a 0)), (1, .int x0)] []
  refine jj_iload_n hC dX0_count_0 rfl ?_
  refine jj_bipush hC dX0_count_1 (v := nI 7) (by decide) ?_
  cases hq3 : ts_in x0 7 with
  | false => exact jj_scallxvN hC hH hV (xm_requireRow _ _ c1 c2 c3 hl _ 7 (by decide)) gX0_count_X0_requireRow rfl 2 (by decide +kernel) ⟨by decide, by decide, by decide, by decide⟩ rfl rfl rfl (Nat.le_of_ble_eq_true rfl) dX0_count_3  (fun Ex hEx => hthr _ _ _ _ (by simpa [ts_req, hq3, ] using hEx)) (fun hEx => by simp [ts_req, hq3] at hEx)
  | true =>
    obtain ⟨j0, hj0, rfl⟩ := ts_in_of hq3 (by decide)
    refine jj_scallvL (ws := []) hC (xp_requireRow _ _ c1 c2 c3 _ 7 (by decide) hq3) gX0_count_X0_requireRow rfl 2 (by decide +kernel) ⟨by decide, by decide, by decide, by decide⟩ rfl rfl rfl (Nat.le_of_ble_eq_true rfl) dX0_count_3  (fun u hp => ?_)
    show jj_J E _ _ Q _ _ _ _
    refine jj_iload_n hC dX0_count_6 rfl ?_
    rcases (show j0 = 0 ∨ j0 = 1 ∨ j0 = 2 ∨ j0 = 3 ∨ j0 = 4 ∨ j0 = 5 ∨ j0 = 6 by omega) with rfl | rfl | rfl | rfl | rfl | rfl | rfl
    · refine jj_tableIn hC dX0_count_7 (by decide) (by decide) (off := 37) (by decide) (tgt := 44) (by decide) ?_
      refine jj_aload_n hC dX0_count_44 rfl ?_
      refine jj_get hC 0 0 dX0_count_45 (by rfl) rfl (by decide) lkX0_count_150 rfl hinX0_count (by rfl) ?_
      refine jj_widen (k' := 1) (n' := 6) (by decide) (by decide) ?_
      exact hret _ _ _ (g, h) (by simp [ts_req, hq3]) dX0_count_48 (by rfl) (by rw [ts_N_nI (by omega)]; rfl)
    · refine jj_tableIn hC dX0_count_7 (by decide) (by decide) (off := 42) (by decide) (tgt := 49) (by decide) ?_
      refine jj_aload_n hC dX0_count_49 rfl ?_
      refine jj_get hC 0 1 dX0_count_50 (by rfl) rfl (by decide) lkX0_count_45 rfl hinX0_count (by rfl) ?_
      refine jj_widen (k' := 1) (n' := 6) (by decide) (by decide) ?_
      exact hret _ _ _ (g, h) (by simp [ts_req, hq3]) dX0_count_53 (by rfl) (by rw [ts_N_nI (by omega)]; rfl)
    · refine jj_tableIn hC dX0_count_7 (by decide) (by decide) (off := 47) (by decide) (tgt := 54) (by decide) ?_
      refine jj_aload_n hC dX0_count_54 rfl ?_
      refine jj_get hC 0 2 dX0_count_55 (by rfl) rfl (by decide) lkX0_count_75 rfl hinX0_count (by rfl) ?_
      refine jj_widen (k' := 1) (n' := 6) (by decide) (by decide) ?_
      exact hret _ _ _ (g, h) (by simp [ts_req, hq3]) dX0_count_58 (by rfl) (by rw [ts_N_nI (by omega)]; rfl)
    · refine jj_tableIn hC dX0_count_7 (by decide) (by decide) (off := 52) (by decide) (tgt := 59) (by decide) ?_
      refine jj_aload_n hC dX0_count_59 rfl ?_
      refine jj_calli hC (xm_thimblesLent _ _ a c1 c2 c3 v g h hI) gX0_count_X0_thimblesLent rfl 0 (by decide +kernel) ⟨by decide, by decide, by decide, by decide⟩ 0 0 (by rfl) rfl rfl rfl rfl (Nat.le_of_ble_eq_true rfl) dX0_count_60 (fun r u hp => ?_)
      obtain rfl := hp
      refine jj_widen (k' := 1) (n' := 6) (by decide) (by decide) ?_
      exact hret _ _ _ (g, h) (by simp [ts_req, hq3]) dX0_count_63 (by rfl) (by rw [ts_N_nI (by omega)]; rfl)
    · refine jj_tableIn hC dX0_count_7 (by decide) (by decide) (off := 57) (by decide) (tgt := 64) (by decide) ?_
      refine jj_aload_n hC dX0_count_64 rfl ?_
      refine jj_get hC 0 3 dX0_count_65 (by rfl) rfl (by decide) lkX0_count_181 rfl hinX0_count (by rfl) ?_
      refine jj_widen (k' := 1) (n' := 6) (by decide) (by decide) ?_
      exact hret _ _ _ (g, h) (by simp [ts_req, hq3]) dX0_count_68 (by rfl) (by rw [ts_N_nI (by omega)]; rfl)
    · refine jj_tableIn hC dX0_count_7 (by decide) (by decide) (off := 62) (by decide) (tgt := 69) (by decide) ?_
      refine jj_aload_n hC dX0_count_69 rfl ?_
      refine jj_get hC 0 4 dX0_count_70 (by rfl) rfl (by decide) lkX0_count_128 rfl hinX0_count (by rfl) ?_
      refine jj_widen (k' := 1) (n' := 6) (by decide) (by decide) ?_
      exact hret _ _ _ (g, h) (by simp [ts_req, hq3]) dX0_count_73 (by rfl) (by rw [ts_N_nI (by omega)]; rfl)
    · refine jj_tableOut hC dX0_count_7 (Or.inr (by decide)) (tgt := 74) (by decide) ?_
      refine jj_aload_n hC dX0_count_74 rfl ?_
      refine jj_calli hC (xm_worthOfAll _ _ a c1 c2 c3 v g h hI) gX0_count_X0_worthOfAll rfl 0 (by decide +kernel) ⟨by decide, by decide, by decide, by decide⟩ 0 0 (by rfl) rfl rfl rfl rfl (Nat.le_of_ble_eq_true rfl) dX0_count_75 (fun r u hp => ?_)
      obtain rfl := hp
      refine jj_widen (k' := 1) (n' := 6) (by decide) (by decide) ?_
      exact hret _ _ _ u (by simp [ts_req, hq3]) dX0_count_78 (by rfl) (by rw [ts_N_nI (by omega)]; rfl)
set_option maxRecDepth 100000 in
set_option maxHeartbeats 4000000 in
theorem xp_count (l : Launch) (D : va_G) (a : Nat → Nat) (c1 c2 c3 : ClassId) (v : ts_V) (g : Nat → Int32) (h : Int32) (hI : ts_I v) (j0 : Nat) (hj0 : j0 < 7) : jj_M l D (ts_T c1 c2 c3) yX0_count wsX0_count pX0_count [.ref (a 0), .int (nI j0)] (wx a c1 c2 v g h) ((Nat → Int32) × Int32) (fun x _ => x = ts_cn v j0) (fun u => wx a c1 c2 v u.1 u.2) := by
  obtain ⟨hn, hk, hth, hwk, hli, hgr⟩ := id hI
  have hq3 : ts_in (nI j0) 7 = true := by rw [ts_in_nI (by omega)]; exact decide_eq_true hj0
  refine jj_met (cc := cX0_count) (nL := 2) (by decide) rfl (Nat.le_of_ble_eq_true rfl) (fun E Q hC hEl hED hD0 hret => ?_)
  show jj_J E 0 0 Q (wx a c1 c2 v g h) 0 [(0, .ref (a 0)), (1, .int (nI j0))] []
  refine jj_iload_n hC dX0_count_0 rfl ?_
  refine jj_bipush hC dX0_count_1 (v := nI 7) (by decide) ?_
  refine jj_scallvL (ws := []) hC (xp_requireRow _ _ c1 c2 c3 _ 7 (by decide) hq3) gX0_count_X0_requireRow rfl 2 (by decide +kernel) ⟨by decide, by decide, by decide, by decide⟩ rfl rfl rfl (Nat.le_of_ble_eq_true rfl) dX0_count_3  (fun u hp => ?_)
  show jj_J E _ _ Q _ _ _ _
  refine jj_iload_n hC dX0_count_6 rfl ?_
  rcases (show j0 = 0 ∨ j0 = 1 ∨ j0 = 2 ∨ j0 = 3 ∨ j0 = 4 ∨ j0 = 5 ∨ j0 = 6 by omega) with rfl | rfl | rfl | rfl | rfl | rfl | rfl
  · refine jj_tableIn hC dX0_count_7 (by decide) (by decide) (off := 37) (by decide) (tgt := 44) (by decide) ?_
    refine jj_aload_n hC dX0_count_44 rfl ?_
    refine jj_get hC 0 0 dX0_count_45 (by rfl) rfl (by decide) lkX0_count_150 rfl hinX0_count (by rfl) ?_
    exact hret _ _ _ (g, h) dX0_count_48 (by rfl) rfl
  · refine jj_tableIn hC dX0_count_7 (by decide) (by decide) (off := 42) (by decide) (tgt := 49) (by decide) ?_
    refine jj_aload_n hC dX0_count_49 rfl ?_
    refine jj_get hC 0 1 dX0_count_50 (by rfl) rfl (by decide) lkX0_count_45 rfl hinX0_count (by rfl) ?_
    exact hret _ _ _ (g, h) dX0_count_53 (by rfl) rfl
  · refine jj_tableIn hC dX0_count_7 (by decide) (by decide) (off := 47) (by decide) (tgt := 54) (by decide) ?_
    refine jj_aload_n hC dX0_count_54 rfl ?_
    refine jj_get hC 0 2 dX0_count_55 (by rfl) rfl (by decide) lkX0_count_75 rfl hinX0_count (by rfl) ?_
    exact hret _ _ _ (g, h) dX0_count_58 (by rfl) rfl
  · refine jj_tableIn hC dX0_count_7 (by decide) (by decide) (off := 52) (by decide) (tgt := 59) (by decide) ?_
    refine jj_aload_n hC dX0_count_59 rfl ?_
    refine jj_calli hC (xm_thimblesLent _ _ a c1 c2 c3 v g h hI) gX0_count_X0_thimblesLent rfl 0 (by decide +kernel) ⟨by decide, by decide, by decide, by decide⟩ 0 0 (by rfl) rfl rfl rfl rfl (Nat.le_of_ble_eq_true rfl) dX0_count_60 (fun r u hp => ?_)
    obtain rfl := hp
    exact hret _ _ _ (g, h) dX0_count_63 (by rfl) rfl
  · refine jj_tableIn hC dX0_count_7 (by decide) (by decide) (off := 57) (by decide) (tgt := 64) (by decide) ?_
    refine jj_aload_n hC dX0_count_64 rfl ?_
    refine jj_get hC 0 3 dX0_count_65 (by rfl) rfl (by decide) lkX0_count_181 rfl hinX0_count (by rfl) ?_
    exact hret _ _ _ (g, h) dX0_count_68 (by rfl) rfl
  · refine jj_tableIn hC dX0_count_7 (by decide) (by decide) (off := 62) (by decide) (tgt := 69) (by decide) ?_
    refine jj_aload_n hC dX0_count_69 rfl ?_
    refine jj_get hC 0 4 dX0_count_70 (by rfl) rfl (by decide) lkX0_count_128 rfl hinX0_count (by rfl) ?_
    exact hret _ _ _ (g, h) dX0_count_73 (by rfl) rfl
  · refine jj_tableOut hC dX0_count_7 (Or.inr (by decide)) (tgt := 74) (by decide) ?_
    refine jj_aload_n hC dX0_count_74 rfl ?_
    refine jj_calli hC (xm_worthOfAll _ _ a c1 c2 c3 v g h hI) gX0_count_X0_worthOfAll rfl 0 (by decide +kernel) ⟨by decide, by decide, by decide, by decide⟩ 0 0 (by rfl) rfl rfl rfl rfl (Nat.le_of_ble_eq_true rfl) dX0_count_75 (fun r u hp => ?_)
    obtain rfl := hp
    exact hret _ _ _ u dX0_count_78 (by rfl) rfl
