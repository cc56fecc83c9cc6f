abbrev ts_T (c1 c2 c3 : ClassId) : List (ClassId × FieldType) := [(c1, .int), (c2, .array .int), (c3, .long)]
abbrev rX0_init : Room := { frames := 1, cells := 25, slots := 426, locals := 30 }
abbrev rX0_join : Room := { frames := 6, cells := 1, slots := 6, locals := 92 }
abbrev pX0_join : Room := { frames := 6, cells := 0, slots := 0, locals := 92 }
abbrev rX0_find : Room := { frames := 7, cells := 1, slots := 6, locals := 113 }
abbrev pX0_find : Room := { frames := 7, cells := 0, slots := 0, locals := 113 }
abbrev rX0_like : Room := { frames := 7, cells := 1, slots := 6, locals := 113 }
abbrev pX0_like : Room := { frames := 7, cells := 0, slots := 0, locals := 113 }
abbrev rX0_collector : Room := { frames := 7, cells := 1, slots := 6, locals := 113 }
abbrev pX0_collector : Room := { frames := 7, cells := 0, slots := 0, locals := 113 }
abbrev rX0_grudge : Room := { frames := 7, cells := 1, slots := 6, locals := 113 }
abbrev pX0_grudge : Room := { frames := 7, cells := 0, slots := 0, locals := 113 }
abbrev rX0_thimble : Room := { frames := 7, cells := 1, slots := 6, locals := 113 }
abbrev pX0_thimble : Room := { frames := 7, cells := 0, slots := 0, locals := 113 }
abbrev rX0_gains : Room := { frames := 7, cells := 1, slots := 6, locals := 115 }
abbrev pX0_gains : Room := { frames := 7, cells := 0, slots := 0, locals := 115 }
abbrev rX0_swap : Room := { frames := 7, cells := 1, slots := 6, locals := 115 }
abbrev pX0_swap : Room := { frames := 7, cells := 0, slots := 0, locals := 115 }
abbrev rX0_best : Room := { frames := 7, cells := 1, slots := 6, locals := 122 }
abbrev pX0_best : Room := { frames := 7, cells := 0, slots := 0, locals := 122 }
abbrev rX0_ring : Room := { frames := 7, cells := 1, slots := 6, locals := 115 }
abbrev pX0_ring : Room := { frames := 7, cells := 0, slots := 0, locals := 115 }
abbrev rX0_fair : Room := { frames := 6, cells := 1, slots := 6, locals := 145 }
abbrev pX0_fair : Room := { frames := 6, cells := 0, slots := 0, locals := 145 }
abbrev rX0_lend : Room := { frames := 7, cells := 1, slots := 6, locals := 113 }
abbrev pX0_lend : Room := { frames := 7, cells := 0, slots := 0, locals := 113 }
abbrev rX0_shows : Room := { frames := 7, cells := 1, slots := 6, locals := 112 }
abbrev pX0_shows : Room := { frames := 7, cells := 0, slots := 0, locals := 112 }
abbrev rX0_lacks : Room := { frames := 7, cells := 1, slots := 6, locals := 112 }
abbrev pX0_lacks : Room := { frames := 7, cells := 0, slots := 0, locals := 112 }
abbrev rX0_finest : Room := { frames := 7, cells := 1, slots := 6, locals := 112 }
abbrev pX0_finest : Room := { frames := 7, cells := 0, slots := 0, locals := 112 }
abbrev rX0_pass : Room := { frames := 6, cells := 1, slots := 6, locals := 92 }
abbrev pX0_pass : Room := { frames := 6, cells := 0, slots := 0, locals := 92 }
abbrev rX0_count : Room := { frames := 7, cells := 1, slots := 6, locals := 113 }
abbrev pX0_count : Room := { frames := 7, cells := 0, slots := 0, locals := 113 }
abbrev rX0_mean : Room := { frames := 5, cells := 0, slots := 0, locals := 112 }
abbrev rX0_digest : Room := { frames := 9, cells := 1, slots := 6, locals := 161 }
abbrev pX0_digest : Room := { frames := 9, cells := 0, slots := 0, locals := 161 }
abbrev rX0_digestWithCollector : Room := { frames := 8, cells := 1, slots := 6, locals := 135 }
abbrev pX0_digestWithCollector : Room := { frames := 8, cells := 0, slots := 0, locals := 135 }
abbrev rX0_digestWithThimble : Room := { frames := 8, cells := 1, slots := 6, locals := 135 }
abbrev pX0_digestWithThimble : Room := { frames := 8, cells := 0, slots := 0, locals := 135 }
abbrev rX0_isBelow : Room := { frames := 0, cells := 0, slots := 0, locals := 0 }
abbrev rX0_requireCollector : Room := { frames := 6, cells := 1, slots := 6, locals := 92 }
abbrev pX0_requireCollector : Room := { frames := 6, cells := 0, slots := 0, locals := 92 }
abbrev rX0_requireThimble : Room := { frames := 6, cells := 1, slots := 6, locals := 92 }
abbrev pX0_requireThimble : Room := { frames := 6, cells := 0, slots := 0, locals := 92 }
abbrev rX0_requireSet : Room := { frames := 6, cells := 1, slots := 6, locals := 92 }
abbrev pX0_requireSet : Room := { frames := 6, cells := 0, slots := 0, locals := 92 }
abbrev rX0_requireRow : Room := { frames := 6, cells := 1, slots := 6, locals := 92 }
abbrev pX0_requireRow : Room := { frames := 6, cells := 0, slots := 0, locals := 92 }
abbrev rX0_requireTwoOwners : Room := { frames := 6, cells := 1, slots := 6, locals := 92 }
abbrev pX0_requireTwoOwners : Room := { frames := 6, cells := 0, slots := 0, locals := 92 }
abbrev rX0_requireAtHome : Room := { frames := 6, cells := 1, slots := 6, locals := 92 }
abbrev pX0_requireAtHome : Room := { frames := 6, cells := 0, slots := 0, locals := 92 }
abbrev rX0_layOutOwn : Room := { frames := 2, cells := 0, slots := 0, locals := 48 }
abbrev rX0_layOut : Room := { frames := 1, cells := 0, slots := 0, locals := 23 }
abbrev rX0_numbersLaidOut : Room := { frames := 0, cells := 0, slots := 0, locals := 0 }
abbrev rX0_statesLaidOut : Room := { frames := 1, cells := 0, slots := 0, locals := 22 }
abbrev rX0_worthLaidOut : Room := { frames := 2, cells := 0, slots := 0, locals := 45 }
abbrev rX0_worthNow : Room := { frames := 3, cells := 0, slots := 0, locals := 69 }
abbrev rX0_worthAfter : Room := { frames := 3, cells := 0, slots := 0, locals := 69 }
abbrev rX0_worthOfAll : Room := { frames := 4, cells := 0, slots := 0, locals := 90 }
abbrev rX0_differentHallmarks : Room := { frames := 3, cells := 0, slots := 0, locals := 69 }
abbrev rX0_wholeSets : Room := { frames := 3, cells := 0, slots := 0, locals := 69 }
abbrev rX0_gainOfOwner : Room := { frames := 4, cells := 0, slots := 0, locals := 92 }
abbrev rX0_isEnough : Room := { frames := 0, cells := 0, slots := 0, locals := 0 }
abbrev rX0_oneIfAbove0 : Room := { frames := 0, cells := 0, slots := 0, locals := 0 }
abbrev rX0_bestSwapOf : Room := { frames := 4, cells := 0, slots := 0, locals := 92 }
abbrev rX0_bestSwapOfFirstPair : Room := { frames := 5, cells := 0, slots := 0, locals := 122 }
abbrev rX0_changeHands : Room := { frames := 2, cells := 0, slots := 0, locals := 44 }
abbrev rX0_soften : Room := { frames := 1, cells := 0, slots := 0, locals := 22 }
abbrev rX0_resent : Room := { frames := 1, cells := 0, slots := 0, locals := 22 }
abbrev rX0_allGrudgesOf : Room := { frames := 0, cells := 0, slots := 0, locals := 0 }
abbrev rX0_isLent : Room := { frames := 0, cells := 0, slots := 0, locals := 0 }
abbrev rX0_isAtHomeWith : Room := { frames := 1, cells := 0, slots := 0, locals := 21 }
abbrev rX0_thimblesOf : Room := { frames := 0, cells := 0, slots := 0, locals := 0 }
abbrev rX0_thimblesLentBy : Room := { frames := 1, cells := 0, slots := 0, locals := 21 }
abbrev rX0_thimblesLent : Room := { frames := 1, cells := 0, slots := 0, locals := 21 }
abbrev rX0_numbersFound : Room := { frames := 0, cells := 0, slots := 0, locals := 0 }
abbrev rX0_numbersShown : Room := { frames := 1, cells := 0, slots := 0, locals := 21 }
abbrev rX0_endWeek : Room := { frames := 3, cells := 0, slots := 0, locals := 66 }
abbrev rX0_bringHome : Room := { frames := 1, cells := 0, slots := 0, locals := 22 }
abbrev rX0_softenAll : Room := { frames := 2, cells := 0, slots := 0, locals := 44 }
abbrev rX1_init : Room := { frames := 1, cells := 6, slots := 373, locals := 30 }
abbrev rX1_thrown : Room := { frames := 0, cells := 0, slots := 0, locals := 0 }
abbrev rX1_fail : Room := { frames := 0, cells := 0, slots := 0, locals := 0 }
abbrev rX1_isIn : Room := { frames := 0, cells := 0, slots := 0, locals := 0 }
abbrev rX1_isCollector : Room := { frames := 1, cells := 0, slots := 0, locals := 22 }
abbrev rX1_isThimble : Room := { frames := 1, cells := 0, slots := 0, locals := 22 }
abbrev rX1_isSet : Room := { frames := 1, cells := 0, slots := 0, locals := 22 }
abbrev rX1_th : Room := { frames := 0, cells := 0, slots := 0, locals := 0 }
abbrev rX1_set : Room := { frames := 0, cells := 0, slots := 0, locals := 0 }
abbrev rX1_isLent : Room := { frames := 1, cells := 0, slots := 0, locals := 22 }
abbrev rX1_join : Room := { frames := 1, cells := 0, slots := 0, locals := 21 }
abbrev rX1_find : Room := { frames := 2, cells := 1, slots := 7, locals := 60 }
abbrev rX1_like : Room := { frames := 2, cells := 0, slots := 0, locals := 43 }
abbrev rX1_gather : Room := { frames := 1, cells := 0, slots := 0, locals := 22 }
abbrev rX1_states : Room := { frames := 1, cells := 0, slots := 0, locals := 22 }
abbrev rX1_hallmarks : Room := { frames := 1, cells := 0, slots := 0, locals := 22 }
abbrev rX1_worth : Room := { frames := 2, cells := 0, slots := 0, locals := 47 }
abbrev rX1_collectorTold : Room := { frames := 3, cells := 0, slots := 0, locals := 71 }
abbrev rX1_collector : Room := { frames := 4, cells := 0, slots := 0, locals := 95 }
abbrev rX1_grudge : Room := { frames := 2, cells := 0, slots := 0, locals := 43 }
abbrev rX1_thimble : Room := { frames := 2, cells := 0, slots := 0, locals := 43 }
abbrev rX1_exchange : Room := { frames := 1, cells := 0, slots := 0, locals := 23 }
abbrev rX1_gain : Room := { frames := 3, cells := 0, slots := 0, locals := 71 }
abbrev rX1_gains : Room := { frames := 4, cells := 0, slots := 0, locals := 96 }
abbrev rX1_isEnough : Room := { frames := 4, cells := 0, slots := 0, locals := 96 }
abbrev rX1_weigh : Room := { frames := 1, cells := 0, slots := 0, locals := 22 }
abbrev rX1_swapped : Room := { frames := 5, cells := 0, slots := 0, locals := 118 }
abbrev rX1_swap : Room := { frames := 6, cells := 0, slots := 0, locals := 144 }
abbrev rX1_bestOf : Room := { frames := 5, cells := 0, slots := 0, locals := 118 }
abbrev rX1_best : Room := { frames := 6, cells := 0, slots := 0, locals := 145 }
abbrev rX1_ring : Room := { frames := 4, cells := 1, slots := 3, locals := 96 }
abbrev rX1_swapsOnce : Room := { frames := 6, cells := 0, slots := 0, locals := 145 }
abbrev rX1_fair : Room := { frames := 7, cells := 0, slots := 0, locals := 168 }
abbrev rX1_lend : Room := { frames := 2, cells := 0, slots := 0, locals := 43 }
abbrev rX1_bits : Room := { frames := 2, cells := 0, slots := 0, locals := 43 }
abbrev rX1_shows : Room := { frames := 3, cells := 0, slots := 0, locals := 67 }
abbrev rX1_lacks : Room := { frames := 3, cells := 0, slots := 0, locals := 67 }
abbrev rX1_finest : Room := { frames := 2, cells := 0, slots := 0, locals := 47 }
abbrev rX1_weekOn : Room := { frames := 2, cells := 0, slots := 0, locals := 43 }
abbrev rX1_pass : Room := { frames := 3, cells := 0, slots := 0, locals := 65 }
abbrev rX1_allWorth : Room := { frames := 3, cells := 0, slots := 0, locals := 71 }
abbrev rX1_counted : Room := { frames := 4, cells := 0, slots := 0, locals := 93 }
abbrev rX1_count : Room := { frames := 5, cells := 0, slots := 0, locals := 116 }
abbrev rX1_mean : Room := { frames := 4, cells := 0, slots := 0, locals := 93 }
abbrev rX1_digest : Room := { frames := 5, cells := 0, slots := 0, locals := 116 }
abbrev rL_join : Room := { frames := 7, cells := 1, slots := 6, locals := 113 }
abbrev pL_join : Room := { frames := 7, cells := 0, slots := 0, locals := 113 }
abbrev rL_find : Room := { frames := 8, cells := 1, slots := 6, locals := 139 }
abbrev pL_find : Room := { frames := 8, cells := 0, slots := 0, locals := 139 }
abbrev rL_like : Room := { frames := 8, cells := 1, slots := 6, locals := 137 }
abbrev pL_like : Room := { frames := 8, cells := 0, slots := 0, locals := 137 }
abbrev rL_collector : Room := { frames := 8, cells := 1, slots := 6, locals := 135 }
abbrev pL_collector : Room := { frames := 8, cells := 0, slots := 0, locals := 135 }
abbrev rL_grudge : Room := { frames := 8, cells := 1, slots := 6, locals := 135 }
abbrev pL_grudge : Room := { frames := 8, cells := 0, slots := 0, locals := 135 }
abbrev rL_thimble : Room := { frames := 8, cells := 1, slots := 6, locals := 135 }
abbrev pL_thimble : Room := { frames := 8, cells := 0, slots := 0, locals := 135 }
abbrev rL_gains : Room := { frames := 8, cells := 1, slots := 6, locals := 137 }
abbrev pL_gains : Room := { frames := 8, cells := 0, slots := 0, locals := 137 }
abbrev rL_swap : Room := { frames := 8, cells := 1, slots := 6, locals := 141 }
abbrev pL_swap : Room := { frames := 8, cells := 0, slots := 0, locals := 141 }
abbrev rL_best : Room := { frames := 8, cells := 1, slots := 6, locals := 144 }
abbrev pL_best : Room := { frames := 8, cells := 0, slots := 0, locals := 144 }
abbrev rL_ring : Room := { frames := 8, cells := 1, slots := 6, locals := 138 }
abbrev pL_ring : Room := { frames := 8, cells := 0, slots := 0, locals := 138 }
abbrev rL_fair : Room := { frames := 7, cells := 1, slots := 6, locals := 168 }
abbrev pL_fair : Room := { frames := 7, cells := 0, slots := 0, locals := 168 }
abbrev rL_lend : Room := { frames := 8, cells := 1, slots := 6, locals := 135 }
abbrev pL_lend : Room := { frames := 8, cells := 0, slots := 0, locals := 135 }
abbrev rL_shows : Room := { frames := 8, cells := 1, slots := 6, locals := 133 }
abbrev pL_shows : Room := { frames := 8, cells := 0, slots := 0, locals := 133 }
abbrev rL_lacks : Room := { frames := 8, cells := 1, slots := 6, locals := 133 }
abbrev pL_lacks : Room := { frames := 8, cells := 0, slots := 0, locals := 133 }
abbrev rL_finest : Room := { frames := 8, cells := 1, slots := 6, locals := 139 }
abbrev pL_finest : Room := { frames := 8, cells := 0, slots := 0, locals := 139 }
abbrev rL_pass : Room := { frames := 7, cells := 1, slots := 6, locals := 115 }
abbrev pL_pass : Room := { frames := 7, cells := 0, slots := 0, locals := 115 }
abbrev rL_count : Room := { frames := 8, cells := 1, slots := 6, locals := 134 }
abbrev pL_count : Room := { frames := 8, cells := 0, slots := 0, locals := 134 }
theorem lkX0_isLent_25 : Cond.fieldLink RX0 25 RX0 (TX0 10).2.1 (TX0 10).2.2.1 ∈ wsX0_isLent := by decide +kernel
theorem hinX0_isLent : ∀ w ∈ wsX00, w ∈ wsX0_isLent := by decide +kernel
set_option maxRecDepth 100000 in
set_option maxHeartbeats 4000000 in
theorem xm_isLent (l : Launch) (D : va_G) (a : Nat → Nat) (c1 c2 c3 : ClassId) (v : ts_V) (g : Nat → Int32) (h : Int32) (t : Nat) (ht : t < 36) : jj_M l D (ts_T c1 c2 c3) yX0_isLent wsX0_isLent rX0_isLent [.ref (a 0), .int (nI t)] (wx a c1 c2 v g h) Unit (fun x _ => x = ts_b (ts_lt v t)) (fun _ => wx a c1 c2 v g h) := by
  refine jj_met (cc := cX0_isLent) (nL := 2) (by decide) rfl (Nat.le_of_ble_eq_true rfl) (fun E Q hC hEl hED hD0 hret => ?_)
  show jj_J E 0 0 Q (wx a c1 c2 v g h) 0 [(0, .ref (a 0)), (1, .int (nI t))] []
  refine jj_aload_n hC dX0_isLent_0 rfl ?_
  refine jj_get hC 0 10 dX0_isLent_1 (by rfl) rfl (by decide) lkX0_isLent_25 rfl hinX0_isLent (by rfl) ?_
  refine jj_iload_n hC dX0_isLent_4 rfl ?_
  refine jj_iald hC 6 0 dX0_isLent_5 (wx_g6 ..) rfl (by omega) (by decide) ?_
  refine jj_iconst hC dX0_isLent_6 (v := -1) (by decide) ?_
  refine jj_icmp_eq hC dX0_isLent_7 (tgt := 14) (by decide) (fun c7 => ?_) (fun c7 => ?_)
  · refine jj_iconst hC dX0_isLent_14 (v := nI 0) (by decide) ?_
    exact hret _ _ _ () dX0_isLent_15 (by rfl) (by simp [ts_b, ts_lt, c7]; try rfl)
  · refine jj_iconst hC dX0_isLent_10 (v := nI 1) (by decide) ?_
    refine jj_goto hC dX0_isLent_11 (tgt := 15) (by decide) ?_
    exact hret _ _ _ () dX0_isLent_15 (by rfl) (by simp [ts_b, ts_lt, c7]; try rfl)
theorem lkX0_isAtHomeWith_22 : Cond.fieldLink RX0 22 RX0 (TX0 9).2.1 (TX0 9).2.2.1 ∈ wsX0_isAtHomeWith := by decide +kernel
theorem hinX0_isAtHomeWith : ∀ w ∈ wsX00, w ∈ wsX0_isAtHomeWith := by decide +kernel
set_option maxRecDepth 100000 in
set_option maxHeartbeats 4000000 in
theorem xm_isAtHomeWith (l : Launch) (D : va_G) (a : Nat → Nat) (c1 c2 c3 : ClassId) (v : ts_V) (g : Nat → Int32) (h : Int32) (hI : ts_I v) (t c : Nat) (ht : t < ts_n v) (hc : c < 36) : jj_M l D (ts_T c1 c2 c3) yX0_isAtHomeWith wsX0_isAtHomeWith rX0_isAtHomeWith [.ref (a 0), .int (nI t), .int (nI c)] (wx a c1 c2 v g h) Unit (fun x _ => x = ts_b (ts_home v t c)) (fun _ => wx a c1 c2 v g h) := by
  obtain ⟨hn, hk, hth, hwk, hli, hgr⟩ := id hI
  have hb := hth t ht
  refine jj_met (cc := cX0_isAtHomeWith) (nL := 3) (by decide) rfl (Nat.le_of_ble_eq_true rfl) (fun E Q hC hEl hED hD0 hret => ?_)
  show jj_J E 0 0 Q (wx a c1 c2 v g h) 0 [(0, .ref (a 0)), (1, .int (nI t)), (2, .int (nI c))] []
  refine jj_aload_n hC dX0_isAtHomeWith_0 rfl ?_
  refine jj_get hC 0 9 dX0_isAtHomeWith_1 (by rfl) rfl (by decide) lkX0_isAtHomeWith_22 rfl hinX0_isAtHomeWith (by rfl) ?_
  refine jj_iload_n hC dX0_isAtHomeWith_4 rfl ?_
  refine jj_iald hC 5 0 dX0_isAtHomeWith_5 (wx_g5 ..) rfl (by omega) (by decide) ?_
  refine jj_iload_n hC dX0_isAtHomeWith_6 rfl ?_
  first | refine jj_icmp_neN hC dX0_isAtHomeWith_7 (tgt := 22) (by decide) (by omega) (by omega) (fun c7 => ?_) (fun c7 => ?_) | refine jj_icmp_ne hC dX0_isAtHomeWith_7 (tgt := 22) (by decide) (fun c7 => ?_) (fun c7 => ?_)
  · refine jj_iconst hC dX0_isAtHomeWith_22 (v := nI 0) (by decide) ?_
    exact hret _ _ _ () dX0_isAtHomeWith_23 (by rfl) (by simp [ts_b, ts_home, c7]; try rfl)
  · refine jj_aload_n hC dX0_isAtHomeWith_10 rfl ?_
    refine jj_iload_n hC dX0_isAtHomeWith_11 rfl ?_
    refine jj_calli hC (xm_isLent _ _ a c1 c2 c3 v g h t (by omega)) gX0_isAtHomeWith_X0_isLent rfl 1 (by decide +kernel) ⟨by decide, by decide, by decide, by decide⟩ 0 0 (by rfl) rfl rfl rfl rfl (Nat.le_of_ble_eq_true rfl) dX0_isAtHomeWith_12 (fun r u hp => ?_)
    obtain rfl := hp
    refine jj_if_neB hC dX0_isAtHomeWith_15 (tgt := 22) (by decide) (fun c15 => ?_) (fun c15 => ?_)
    · refine jj_iconst hC dX0_isAtHomeWith_22 (v := nI 0) (by decide) ?_
      exact hret _ _ _ () dX0_isAtHomeWith_23 (by rfl) (by simp [ts_b, ts_home, c7, c15]; try rfl)
    · refine jj_iconst hC dX0_isAtHomeWith_18 (v := nI 1) (by decide) ?_
      refine jj_goto hC dX0_isAtHomeWith_19 (tgt := 23) (by decide) ?_
      exact hret _ _ _ () dX0_isAtHomeWith_23 (by rfl) (by simp [ts_b, ts_home, c7, c15]; try rfl)
