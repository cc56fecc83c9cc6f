theorem lkX1_gather_25 : Cond.fieldLink RX1 25 RX1 (TX1 8).2.1 (TX1 8).2.2.1 ∈ wsX1_gather := by decide +kernel
theorem lkX1_gather_39 : Cond.fieldLink RX1 39 RX1 (TX1 2).2.1 (TX1 2).2.2.1 ∈ wsX1_gather := by decide +kernel
theorem mkX1_gather_63 : Cond.methodLink RX1 63 Lib.Math.max.name ∈ wsX1_gather := by decide +kernel
theorem msX1_gather_max : Cond.static Lib.Math.max.name ∈ wsX1_gather := by decide +kernel
theorem miX1_gather : Cond.initialized "java/lang/Math" ∈ wsX1_gather := by decide +kernel
theorem mcX1_gather_max : Cond.code Lib.Math.max.name Lib.Math.max.code 2 (some .int) ∈ wsX1_gather := by decide +kernel
theorem hinX1_gather : ∀ w ∈ wsX10, w ∈ wsX1_gather := by decide +kernel
set_option maxRecDepth 100000 in
set_option maxHeartbeats 4000000 in
theorem mm_gather (l : Launch) (D : va_G) (b : Nat → Nat) (c1 c2 c3 : ClassId) (v : ts_V) (th : Int32) (z : Nat → Int32) (hI : ts_I v) (c s : Nat) (hc : c < 36) (hs : s < 8) : jj_M l D (ts_T c1 c2 c3) yX1_gather wsX1_gather rX1_gather [.ref (b 0), .int (nI c), .int (nI s)] (wm b c1 v th z) (Nat → Int32) (fun x (u : Nat → Int32) => x = nI (ts_nums v (ts_of v c) s) ∧ ∀ k, k < 6 → u k = nI (ts_g v (ts_of v c) s k)) (fun u => wm b c1 v th u) := by
  obtain ⟨hn, hk, hth, hwk, hli, hgr⟩ := id hI
  refine jj_met (cc := cX1_gather) (nL := 5) (by decide) rfl (Nat.le_of_ble_eq_true rfl) (fun E Q hC hEl hED hD0 hret => ?_)
  show jj_J E 0 0 Q (wm b c1 v th z) 0 [(0, .ref (b 0)), (1, .int (nI c)), (2, .int (nI s))] []
  refine jj_iconst hC dX1_gather_0 (v := nI 0) (by decide) ?_
  refine jj_istore_n hC dX1_gather_1 (by decide) [1, 2, 3, 0] (lv' := [(0, _), (1, _), (2, _), (3, .int _)]) rfl ?_
  refine jj_iconst hC dX1_gather_2 (v := nI 0) (by decide) ?_
  refine jj_istore hC dX1_gather_3 (by decide) [1, 2, 3, 4, 0] (lv' := [(0, _), (1, _), (2, _), (3, _), (4, .int _)]) rfl ?_
  refine jj_for (P := fun i => ∀ z1 : Nat → Int32, (∀ k, k < i → z1 k = nI 0) → jj_J E 0 0 Q (wm b c1 v th z1) 5 [(0, .ref (b 0)), (1, .int (nI c)), (2, .int (nI s)), (3, .int (nI 0)), (4, .int (nI i))] []) (N := 6) ?_ ?_ 0 (Nat.zero_le _) z (fun k hk => absurd hk (Nat.not_lt_zero k))
  · intro z1 hz
    refine jj_iload hC dX1_gather_5 rfl ?_
    refine jj_bipush hC dX1_gather_7 (v := nI 6) (by decide) ?_
    refine jj_icmp_geT hC dX1_gather_9 (tgt := 26) (by decide) (nI_le (Nat.le_refl _) (by omega)) ?_
    refine jj_iconst hC dX1_gather_26 (v := nI 0) (by decide) ?_
    refine jj_istore hC dX1_gather_27 (by decide) [1, 2, 3, 4, 0] (lv' := [(0, _), (1, _), (2, _), (3, _), (4, .int _)]) rfl ?_
    refine jj_for (P := fun i => ∀ z1 : Nat → Int32, (∀ k, k < 6 → z1 k = nI (ts_gs (ts_of v c) (ts_se v) (ts_nu v) (ts_st v) s k i)) → jj_J E 0 0 Q (wm b c1 v th z1) 29 [(0, .ref (b 0)), (1, .int (nI c)), (2, .int (nI s)), (3, .int (nI 0)), (4, .int (nI i))] []) (N := ts_n v) ?_ ?_ 0 (Nat.zero_le _) z1 (fun k hk => by rw [hz k hk]; rfl)
    · intro z1 hz
      refine jj_iload hC dX1_gather_29 rfl ?_
      refine jj_aload_n hC dX1_gather_31 rfl ?_
      refine jj_get hC 0 2 dX1_gather_32 (by rfl) rfl (by decide) lkX1_gather_39 rfl hinX1_gather (by rfl) ?_
      refine jj_icmp_geT hC dX1_gather_35 (tgt := 102) (by decide) (nI_le (Nat.le_refl _) (by omega)) ?_
      refine jj_iconst hC dX1_gather_102 (v := nI 0) (by decide) ?_
      refine jj_istore hC dX1_gather_103 (by decide) [1, 2, 3, 4, 0] (lv' := [(0, _), (1, _), (2, _), (3, _), (4, .int _)]) rfl ?_
      refine jj_for (P := fun i => jj_J E 0 0 Q (wm b c1 v th z1) 105 [(0, .ref (b 0)), (1, .int (nI c)), (2, .int (nI s)), (3, .int (nI (ts_cnt (fun k => decide (0 < ts_g v (ts_of v c) s k)) i))), (4, .int (nI i))] []) (N := 6) ?_ ?_ 0 (Nat.zero_le _)
      · refine jj_iload hC dX1_gather_105 rfl ?_
        refine jj_bipush hC dX1_gather_107 (v := nI 6) (by decide) ?_
        refine jj_icmp_geT hC dX1_gather_109 (tgt := 136) (by decide) (nI_le (Nat.le_refl _) (by omega)) ?_
        refine jj_iload_n hC dX1_gather_136 rfl ?_
        exact hret _ _ _ z1 dX1_gather_137 (by rfl) ⟨rfl, hz⟩
      · intro i hi ih
        refine jj_iload hC dX1_gather_105 rfl ?_
        refine jj_bipush hC dX1_gather_107 (v := nI 6) (by decide) ?_
        refine jj_icmp_geF hC dX1_gather_109 (tgt := 136) (by decide) (nI_ge hi (by omega)) ?_
        refine jj_iload_n hC dX1_gather_112 rfl ?_
        refine jj_aload_n hC dX1_gather_113 rfl ?_
        refine jj_get hC 0 8 dX1_gather_114 (by rfl) rfl (by decide) lkX1_gather_25 rfl hinX1_gather (by rfl) ?_
        refine jj_iload hC dX1_gather_117 rfl ?_
        refine jj_iald hC 6 0 dX1_gather_119 (wm_g6 ..) rfl (by omega) (by decide) ?_
        rw [hz _ hi]
        refine jj_if_le hC dX1_gather_120 (tgt := 127) (by decide) (fun c120 => ?_) (fun c120 => ?_)
        · refine jj_iconst hC dX1_gather_127 (v := nI 0) (by decide) ?_
          first | refine jj_iaddN hC dX1_gather_128 ?_ | refine jj_iadd hC dX1_gather_128 ?_
          refine jj_istore_n hC dX1_gather_129 (by decide) [1, 2, 3, 0, 4] (lv' := [(0, _), (1, _), (2, _), (3, .int _), (4, _)]) rfl ?_
          refine jj_iincN hC dX1_gather_130 rfl (d9 := 1) (by decide) (by decide) [1, 2, 3, 4, 0] (lv' := [(0, _), (1, _), (2, _), (3, _), (4, .int _)]) rfl ?_
          refine jj_goto hC dX1_gather_133 (tgt := 105) (by decide) ?_
          have c120n := c120
          first
            | (rw [show nI (ts_g v (ts_of v c) s i) ≤ 0 ↔ ts_g v (ts_of v c) s i ≤ 0 from nI_leI (b := 0) (by have : ts_g v (ts_of v c) s i ≤ 10 := ts_gs_le (fun t ht => (hth t ht).2.2.2.1); omega) (by decide)] at c120n)
          exact jj_lv ih (by first | simp [ts_cnt, show ¬ 0 < ts_g v (ts_of v c) s i by omega] | simp [ts_cnt, show 0 < ts_g v (ts_of v c) s i by omega])
        · refine jj_iconst hC dX1_gather_123 (v := nI 1) (by decide) ?_
          refine jj_goto hC dX1_gather_124 (tgt := 128) (by decide) ?_
          first | refine jj_iaddN hC dX1_gather_128 ?_ | refine jj_iadd hC dX1_gather_128 ?_
          refine jj_istore_n hC dX1_gather_129 (by decide) [1, 2, 3, 0, 4] (lv' := [(0, _), (1, _), (2, _), (3, .int _), (4, _)]) rfl ?_
          refine jj_iincN hC dX1_gather_130 rfl (d9 := 1) (by decide) (by decide) [1, 2, 3, 4, 0] (lv' := [(0, _), (1, _), (2, _), (3, _), (4, .int _)]) rfl ?_
          refine jj_goto hC dX1_gather_133 (tgt := 105) (by decide) ?_
          have c120n := c120
          first
            | (rw [show nI (ts_g v (ts_of v c) s i) ≤ 0 ↔ ts_g v (ts_of v c) s i ≤ 0 from nI_leI (b := 0) (by have : ts_g v (ts_of v c) s i ≤ 10 := ts_gs_le (fun t ht => (hth t ht).2.2.2.1); omega) (by decide)] at c120n)
          exact jj_lv ih (by first | simp [ts_cnt, show ¬ 0 < ts_g v (ts_of v c) s i by omega] | simp [ts_cnt, show 0 < ts_g v (ts_of v c) s i by omega])
    · intro i hi ih z1 hz
      have hb := hth i hi
      refine jj_iload hC dX1_gather_29 rfl ?_
      refine jj_aload_n hC dX1_gather_31 rfl ?_
      refine jj_get hC 0 2 dX1_gather_32 (by rfl) rfl (by decide) lkX1_gather_39 rfl hinX1_gather (by rfl) ?_
      refine jj_icmp_geF hC dX1_gather_35 (tgt := 102) (by decide) (nI_ge hi (by omega)) ?_
      refine jj_aload_n hC dX1_gather_38 rfl ?_
      refine jj_iload hC dX1_gather_39 rfl ?_
      refine jj_iconst hC dX1_gather_41 (v := nI 4) (by decide) ?_
      refine jj_calli hC (mm_th4 _ _ b c1 c2 c3 v th z1 i (by omega)) gX1_gather_X1_th rfl 2 (by decide +kernel) ⟨by decide, by decide, by decide, by decide⟩ 0 1 (by rfl) rfl rfl rfl rfl (Nat.le_of_ble_eq_true rfl) dX1_gather_42 (fun r u hp => ?_)
      obtain rfl := hp
      refine jj_iload_n hC dX1_gather_45 rfl ?_
      first | refine jj_icmp_neN hC dX1_gather_46 (tgt := 96) (by decide) (by omega) (by omega) (fun c46 => ?_) (fun c46 => ?_) | refine jj_icmp_ne hC dX1_gather_46 (tgt := 96) (by decide) (fun c46 => ?_) (fun c46 => ?_)
      · refine jj_iincN hC dX1_gather_96 rfl (d9 := 1) (by decide) (by decide) [1, 2, 3, 4, 0] (lv' := [(0, _), (1, _), (2, _), (3, _), (4, .int _)]) rfl ?_
        refine jj_goto hC dX1_gather_99 (tgt := 29) (by decide) ?_
        first
          | (refine ih _ (fun k hk => ?_)
             unfold upd
             by_cases e : k = ts_nu v i
             · rw [if_pos e, ts_gs, if_pos (by simp [ts_of, e, c46]), e]
             · rw [if_neg e, ts_gs, if_neg (by simp only [Bool.and_eq_true, beq_iff_eq]; exact fun q => e q.2.2.symm)]; exact hz k hk)
          | (refine ih _ (fun k hk => ?_)
             rw [ts_gs, if_neg (by simp [ts_of, c46])]; exact hz k hk)
      · refine jj_aload_n hC dX1_gather_49 rfl ?_
        refine jj_iload hC dX1_gather_50 rfl ?_
        refine jj_iconst hC dX1_gather_52 (v := nI 0) (by decide) ?_
        refine jj_calli hC (mm_th0 _ _ b c1 c2 c3 v th z1 i (by omega)) gX1_gather_X1_th rfl 2 (by decide +kernel) ⟨by decide, by decide, by decide, by decide⟩ 0 1 (by rfl) rfl rfl rfl rfl (Nat.le_of_ble_eq_true rfl) dX1_gather_53 (fun r u hp => ?_)
        obtain rfl := hp
        refine jj_iload_n hC dX1_gather_56 rfl ?_
        first | refine jj_icmp_neN hC dX1_gather_57 (tgt := 96) (by decide) (by omega) (by omega) (fun c57 => ?_) (fun c57 => ?_) | refine jj_icmp_ne hC dX1_gather_57 (tgt := 96) (by decide) (fun c57 => ?_) (fun c57 => ?_)
        · refine jj_iincN hC dX1_gather_96 rfl (d9 := 1) (by decide) (by decide) [1, 2, 3, 4, 0] (lv' := [(0, _), (1, _), (2, _), (3, _), (4, .int _)]) rfl ?_
          refine jj_goto hC dX1_gather_99 (tgt := 29) (by decide) ?_
          first
            | (refine ih _ (fun k hk => ?_)
               unfold upd
               by_cases e : k = ts_nu v i
               · rw [if_pos e, ts_gs, if_pos (by simp [ts_of, e, c46, c57]), e]
               · rw [if_neg e, ts_gs, if_neg (by simp only [Bool.and_eq_true, beq_iff_eq]; exact fun q => e q.2.2.symm)]; exact hz k hk)
            | (refine ih _ (fun k hk => ?_)
               rw [ts_gs, if_neg (by simp [ts_of, c46, c57])]; exact hz k hk)
        · refine jj_aload_n hC dX1_gather_60 rfl ?_
          refine jj_get hC 0 8 dX1_gather_61 (by rfl) rfl (by decide) lkX1_gather_25 rfl hinX1_gather (by rfl) ?_
          refine jj_aload_n hC dX1_gather_64 rfl ?_
          refine jj_iload hC dX1_gather_65 rfl ?_
          refine jj_iconst hC dX1_gather_67 (v := nI 1) (by decide) ?_
          refine jj_calli hC (mm_th1 _ _ b c1 c2 c3 v th z1 i (by omega)) gX1_gather_X1_th rfl 2 (by decide +kernel) ⟨by decide, by decide, by decide, by decide⟩ 0 1 (by rfl) rfl rfl rfl rfl (Nat.le_of_ble_eq_true rfl) dX1_gather_68 (fun r u hp => ?_)
          obtain rfl := hp
          refine jj_aload_n hC dX1_gather_71 rfl ?_
          refine jj_get hC 0 8 dX1_gather_72 (by rfl) rfl (by decide) lkX1_gather_25 rfl hinX1_gather (by rfl) ?_
          refine jj_aload_n hC dX1_gather_75 rfl ?_
          refine jj_iload hC dX1_gather_76 rfl ?_
          refine jj_iconst hC dX1_gather_78 (v := nI 1) (by decide) ?_
          refine jj_calli hC (mm_th1 _ _ b c1 c2 c3 v th z1 i (by omega)) gX1_gather_X1_th rfl 2 (by decide +kernel) ⟨by decide, by decide, by decide, by decide⟩ 0 1 (by rfl) rfl rfl rfl rfl (Nat.le_of_ble_eq_true rfl) dX1_gather_79 (fun r u hp => ?_)
          obtain rfl := hp
          refine jj_iald hC 6 0 dX1_gather_82 (wm_g6 ..) rfl (by omega) (by decide) ?_
          have hG : (ts_gs (ts_of v c) (ts_se v) (ts_nu v) (ts_st v) s (ts_nu v i) i) ≤ 10 := ts_gs_le (fun t ht => (hth t (by omega)).2.2.2.1)
          rw [hz _ hb.2.1]
          refine jj_iconst hC dX1_gather_83 (v := nI 1) (by decide) ?_
          refine jj_aload_n hC dX1_gather_84 rfl ?_
          refine jj_iload hC dX1_gather_85 rfl ?_
          refine jj_iconst hC dX1_gather_87 (v := nI 3) (by decide) ?_
          refine jj_calli hC (mm_th3 _ _ b c1 c2 c3 v th z1 i (by omega)) gX1_gather_X1_th rfl 2 (by decide +kernel) ⟨by decide, by decide, by decide, by decide⟩ 0 1 (by rfl) rfl rfl rfl rfl (Nat.le_of_ble_eq_true rfl) dX1_gather_88 (fun r u hp => ?_)
          obtain rfl := hp
          first | refine jj_iaddN hC dX1_gather_91 ?_ | refine jj_iadd hC dX1_gather_91 ?_
          refine jj_mmax hC dX1_gather_92 mkX1_gather_63 msX1_gather_max miX1_gather mcX1_gather_max ⟨by decide, Nat.le_of_ble_eq_true rfl, by decide, by decide⟩ ?_
          first | refine jj_topi (jj_mmax_eq (by omega) (by omega)) ?_ | skip
          refine jj_iast hC 6 0 dX1_gather_95 (wm_g6 ..) rfl (by omega) (by decide) (wm_s6 ..) ?_
          refine jj_iincN hC dX1_gather_96 rfl (d9 := 1) (by decide) (by decide) [1, 2, 3, 4, 0] (lv' := [(0, _), (1, _), (2, _), (3, _), (4, .int _)]) rfl ?_
          refine jj_goto hC dX1_gather_99 (tgt := 29) (by decide) ?_
          first
            | (refine ih _ (fun k hk => ?_)
               unfold upd
               by_cases e : k = ts_nu v i
               · rw [if_pos e, ts_gs, if_pos (by simp [ts_of, e, c46, c57]), e]
               · rw [if_neg e, ts_gs, if_neg (by simp only [Bool.and_eq_true, beq_iff_eq]; exact fun q => e q.2.2.symm)]; exact hz k hk)
            | (refine ih _ (fun k hk => ?_)
               rw [ts_gs, if_neg (by simp [ts_of, c46, c57])]; exact hz k hk)
  · intro i hi ih z1 hz
    refine jj_iload hC dX1_gather_5 rfl ?_
    refine jj_bipush hC dX1_gather_7 (v := nI 6) (by decide) ?_
    refine jj_icmp_geF hC dX1_gather_9 (tgt := 26) (by decide) (nI_ge hi (by omega)) ?_
    refine jj_aload_n hC dX1_gather_12 rfl ?_
    refine jj_get hC 0 8 dX1_gather_13 (by rfl) rfl (by decide) lkX1_gather_25 rfl hinX1_gather (by rfl) ?_
    refine jj_iload hC dX1_gather_16 rfl ?_
    refine jj_iconst hC dX1_gather_18 (v := nI 0) (by decide) ?_
    refine jj_iast hC 6 0 dX1_gather_19 (wm_g6 ..) rfl (by omega) (by decide) (wm_s6 ..) ?_
    refine jj_iincN hC dX1_gather_20 rfl (d9 := 1) (by decide) (by decide) [1, 2, 3, 4, 0] (lv' := [(0, _), (1, _), (2, _), (3, _), (4, .int _)]) rfl ?_
    refine jj_goto hC dX1_gather_23 (tgt := 5) (by decide) ?_
    refine ih _ (fun k hk => ?_)
    unfold upd
    by_cases e : k = i
    · rw [if_pos e]
    · rw [if_neg e]; exact hz k (by omega)
theorem lkX1_states_25 : Cond.fieldLink RX1 25 RX1 (TX1 8).2.1 (TX1 8).2.2.1 ∈ wsX1_states := by decide +kernel
theorem mkX1_states_63 : Cond.methodLink RX1 63 Lib.Math.max.name ∈ wsX1_states := by decide +kernel
theorem msX1_states_max : Cond.static Lib.Math.max.name ∈ wsX1_states := by decide +kernel
theorem miX1_states : Cond.initialized "java/lang/Math" ∈ wsX1_states := by decide +kernel
theorem mcX1_states_max : Cond.code Lib.Math.max.name Lib.Math.max.code 2 (some .int) ∈ wsX1_states := by decide +kernel
theorem hinX1_states : ∀ w ∈ wsX10, w ∈ wsX1_states := by decide +kernel
set_option maxRecDepth 100000 in
set_option maxHeartbeats 4000000 in
theorem mm_states (l : Launch) (D : va_G) (b : Nat → Nat) (c1 c2 c3 : ClassId) (v : ts_V) (th : Int32) (z : Nat → Int32) (G : Nat → Nat) (hG : ∀ k, G k ≤ 10) (hz : ∀ k, k < 6 → z k = nI (G k)) : jj_M l D (ts_T c1 c2 c3) yX1_states wsX1_states rX1_states [.ref (b 0)] (wm b c1 v th z) Unit (fun x _ => x = nI (ts_sum (fun k => G k - 1) 6)) (fun _ => wm b c1 v th z) := by
  refine jj_met (cc := cX1_states) (nL := 6) (by decide) rfl (Nat.le_of_ble_eq_true rfl) (fun E Q hC hEl hED hD0 hret => ?_)
  show jj_J E 0 0 Q (wm b c1 v th z) 0 [(0, .ref (b 0))] []
  refine jj_iconst hC dX1_states_0 (v := nI 0) (by decide) ?_
  refine jj_istore_n hC dX1_states_1 (by decide) [1, 0] (lv' := [(0, _), (1, .int _)]) rfl ?_
  refine jj_aload_n hC dX1_states_2 rfl ?_
  refine jj_get hC 0 8 dX1_states_3 (by rfl) rfl (by decide) lkX1_states_25 rfl hinX1_states (by rfl) ?_
  refine jj_astore_n hC dX1_states_6 (by decide) [1, 2, 0] (lv' := [(0, _), (1, _), (2, .ref _)]) rfl ?_
  refine jj_aload_n hC dX1_states_7 rfl ?_
  refine jj_alen hC 6 0 dX1_states_8 (wm_g6 ..) rfl ?_
  refine jj_istore_n hC dX1_states_9 (by decide) [1, 2, 3, 0] (lv' := [(0, _), (1, _), (2, _), (3, .int _)]) rfl ?_
  refine jj_iconst hC dX1_states_10 (v := nI 0) (by decide) ?_
  refine jj_istore hC dX1_states_11 (by decide) [1, 2, 3, 4, 0] (lv' := [(0, _), (1, _), (2, _), (3, _), (4, .int _)]) rfl ?_
  refine jj_for (P := fun i => jj_J E 0 0 Q (wm b c1 v th z) 13 [(0, .ref (b 0)), (1, .int (nI (ts_sum (fun k => G k - 1) i))), (2, .ref (b 6)), (3, .int (nI 6)), (4, .int (nI i))] []) (N := 6) ?_ ?_ 0 (Nat.zero_le _)
  · refine jj_iload hC dX1_states_13 rfl ?_
    refine jj_iload_n hC dX1_states_15 rfl ?_
    refine jj_icmp_geT hC dX1_states_16 (tgt := 42) (by decide) (nI_le (Nat.le_refl _) (by omega)) ?_
    refine jj_iload_n hC dX1_states_42 rfl ?_
    exact hret _ _ _ () dX1_states_43 (by rfl) (rfl)
  · intro i hi ih
    refine jj_iload hC dX1_states_13 rfl ?_
    refine jj_iload_n hC dX1_states_15 rfl ?_
    refine jj_icmp_geF hC dX1_states_16 (tgt := 42) (by decide) (nI_ge hi (by omega)) ?_
    refine jj_aload_n hC dX1_states_19 rfl ?_
    refine jj_iload hC dX1_states_20 rfl ?_
    refine jj_iald hC 6 0 dX1_states_22 (wm_g6 ..) rfl (by omega) (by decide) ?_
    have hg := hG i
    rw [hz _ hi]
    refine jj_istore hC dX1_states_23 (by decide) [1, 2, 3, 4, 5, 0] (lv' := [(0, _), (1, _), (2, _), (3, _), (4, _), (5, .int _)]) rfl ?_
    refine jj_iload_n hC dX1_states_25 rfl ?_
    refine jj_iconst hC dX1_states_26 (v := nI 0) (by decide) ?_
    refine jj_iload hC dX1_states_27 rfl ?_
    refine jj_iconst hC dX1_states_29 (v := nI 1) (by decide) ?_
    refine jj_isub hC dX1_states_30 ?_
    refine jj_mmax hC dX1_states_31 mkX1_states_63 msX1_states_max miX1_states mcX1_states_max ⟨by decide, Nat.le_of_ble_eq_true rfl, by decide, by decide⟩ ?_
    refine jj_topi (ts_m1_max0' (x := G i) (by omega)) ?_
    first | refine jj_iaddN hC dX1_states_34 ?_ | refine jj_iadd hC dX1_states_34 ?_
    refine jj_istore_n hC dX1_states_35 (by decide) [1, 0, 2, 3, 4, 5] (lv' := [(0, _), (1, .int _), (2, _), (3, _), (4, _), (5, _)]) rfl ?_
    refine jj_iincN hC dX1_states_36 rfl (d9 := 1) (by decide) (by decide) [1, 2, 3, 4, 0, 5] (lv' := [(0, _), (1, _), (2, _), (3, _), (4, .int _), (5, _)]) rfl ?_
    refine jj_goto hC dX1_states_39 (tgt := 13) (by decide) ?_
    refine jj_sub [0, 1, 2, 3, 4] (lv' := [(0, _), (1, _), (2, _), (3, _), (4, _)]) rfl ih
theorem lkX1_hallmarks_39 : Cond.fieldLink RX1 39 RX1 (TX1 2).2.1 (TX1 2).2.2.1 ∈ wsX1_hallmarks := by decide +kernel
theorem hinX1_hallmarks : ∀ w ∈ wsX10, w ∈ wsX1_hallmarks := by decide +kernel
set_option maxRecDepth 100000 in
set_option maxHeartbeats 4000000 in
theorem mm_hallmarks (l : Launch) (D : va_G) (b : Nat → Nat) (c1 c2 c3 : ClassId) (v : ts_V) (th : Int32) (z : Nat → Int32) (hI : ts_I v) (c : Nat) (hc : c < 36) : jj_M l D (ts_T c1 c2 c3) yX1_hallmarks wsX1_hallmarks rX1_hallmarks [.ref (b 0), .int (nI c)] (wm b c1 v th z) Unit (fun x _ => x = nI (ts_hm v (ts_of v c))) (fun _ => wm b c1 v th z) := by
  obtain ⟨hn, hk, hth, hwk, hli, hgr⟩ := id hI
  refine jj_met (cc := cX1_hallmarks) (nL := 4) (by decide) rfl (Nat.le_of_ble_eq_true rfl) (fun E Q hC hEl hED hD0 hret => ?_)
  show jj_J E 0 0 Q (wm b c1 v th z) 0 [(0, .ref (b 0)), (1, .int (nI c))] []
  refine jj_iconst hC dX1_hallmarks_0 (v := nI 0) (by decide) ?_
  refine jj_istore_n hC dX1_hallmarks_1 (by decide) [1, 2, 0] (lv' := [(0, _), (1, _), (2, .int _)]) rfl ?_
  refine jj_iconst hC dX1_hallmarks_2 (v := nI 0) (by decide) ?_
  refine jj_istore_n hC dX1_hallmarks_3 (by decide) [1, 2, 3, 0] (lv' := [(0, _), (1, _), (2, _), (3, .int _)]) rfl ?_
  refine jj_for (P := fun i => jj_J E 0 0 Q (wm b c1 v th z) 4 [(0, .ref (b 0)), (1, .int (nI c)), (2, .int (ts_or (ts_of v c) (ts_ha v) i)), (3, .int (nI i))] []) (N := ts_n v) ?_ ?_ 0 (Nat.zero_le _)
  · refine jj_iload_n hC dX1_hallmarks_4 rfl ?_
    refine jj_aload_n hC dX1_hallmarks_5 rfl ?_
    refine jj_get hC 0 2 dX1_hallmarks_6 (by rfl) rfl (by decide) lkX1_hallmarks_39 rfl hinX1_hallmarks (by rfl) ?_
    refine jj_icmp_geT hC dX1_hallmarks_9 (tgt := 39) (by decide) (nI_le (Nat.le_refl _) (by omega)) ?_
    refine jj_iload_n hC dX1_hallmarks_39 rfl ?_
    refine jj_scalliN hC (xm_bitCount _ _ c1 c2 c3 _) gX1_hallmarks_J6_bitCount_0f7a4 rfl 1 (by decide +kernel) ⟨by decide, by decide, by decide, by decide⟩ rfl rfl rfl (Nat.le_of_ble_eq_true rfl) dX1_hallmarks_40 (fun r u hp => ?_)
    obtain rfl := hp
    exact hret _ _ _ () dX1_hallmarks_43 (by rfl) ((ts_bc_eq _).1)
  · intro i hi ih
    have hb := hth i hi
    refine jj_iload_n hC dX1_hallmarks_4 rfl ?_
    refine jj_aload_n hC dX1_hallmarks_5 rfl ?_
    refine jj_get hC 0 2 dX1_hallmarks_6 (by rfl) rfl (by decide) lkX1_hallmarks_39 rfl hinX1_hallmarks (by rfl) ?_
    refine jj_icmp_geF hC dX1_hallmarks_9 (tgt := 39) (by decide) (nI_ge hi (by omega)) ?_
    refine jj_aload_n hC dX1_hallmarks_12 rfl ?_
    refine jj_iload_n hC dX1_hallmarks_13 rfl ?_
    refine jj_iconst hC dX1_hallmarks_14 (v := nI 4) (by decide) ?_
    refine jj_calli hC (mm_th4 _ _ b c1 c2 c3 v th z i (by omega)) gX1_hallmarks_X1_th rfl 2 (by decide +kernel) ⟨by decide, by decide, by decide, by decide⟩ 0 1 (by rfl) rfl rfl rfl rfl (Nat.le_of_ble_eq_true rfl) dX1_hallmarks_15 (fun r u hp => ?_)
    obtain rfl := hp
    refine jj_iload_n hC dX1_hallmarks_18 rfl ?_
    first | refine jj_icmp_neN hC dX1_hallmarks_19 (tgt := 33) (by decide) (by omega) (by omega) (fun c19 => ?_) (fun c19 => ?_) | refine jj_icmp_ne hC dX1_hallmarks_19 (tgt := 33) (by decide) (fun c19 => ?_) (fun c19 => ?_)
    · refine jj_iincN hC dX1_hallmarks_33 rfl (d9 := 1) (by decide) (by decide) [1, 2, 3, 0] (lv' := [(0, _), (1, _), (2, _), (3, .int _)]) rfl ?_
      refine jj_goto hC dX1_hallmarks_36 (tgt := 4) (by decide) ?_
      first | (rw [show ts_or (ts_of v c) (ts_ha v) (i + 1) = ts_or (ts_of v c) (ts_ha v) i ||| ((1 : Int32) <<< (nI (ts_ha v i) &&& 31)) by simp [ts_or, ts_of, c19]] at ih; exact ih) | (rw [show ts_or (ts_of v c) (ts_ha v) (i + 1) = ts_or (ts_of v c) (ts_ha v) i by simp [ts_or, ts_of, c19]] at ih; exact ih)
    · refine jj_iload_n hC dX1_hallmarks_22 rfl ?_
      refine jj_iconst hC dX1_hallmarks_23 (v := nI 1) (by decide) ?_
      refine jj_aload_n hC dX1_hallmarks_24 rfl ?_
      refine jj_iload_n hC dX1_hallmarks_25 rfl ?_
      refine jj_iconst hC dX1_hallmarks_26 (v := nI 2) (by decide) ?_
      refine jj_calli hC (mm_th2 _ _ b c1 c2 c3 v th z i (by omega)) gX1_hallmarks_X1_th rfl 2 (by decide +kernel) ⟨by decide, by decide, by decide, by decide⟩ 0 1 (by rfl) rfl rfl rfl rfl (Nat.le_of_ble_eq_true rfl) dX1_hallmarks_27 (fun r u hp => ?_)
      obtain rfl := hp
      refine jj_ishl hC dX1_hallmarks_30 ?_
      refine jj_ior hC dX1_hallmarks_31 ?_
      refine jj_istore_n hC dX1_hallmarks_32 (by decide) [1, 2, 0, 3] (lv' := [(0, _), (1, _), (2, .int _), (3, _)]) rfl ?_
      refine jj_iincN hC dX1_hallmarks_33 rfl (d9 := 1) (by decide) (by decide) [1, 2, 3, 0] (lv' := [(0, _), (1, _), (2, _), (3, .int _)]) rfl ?_
      refine jj_goto hC dX1_hallmarks_36 (tgt := 4) (by decide) ?_
      first | (rw [show ts_or (ts_of v c) (ts_ha v) (i + 1) = ts_or (ts_of v c) (ts_ha v) i ||| ((1 : Int32) <<< (nI (ts_ha v i) &&& 31)) by simp [ts_or, ts_of, c19]] at ih; exact ih) | (rw [show ts_or (ts_of v c) (ts_ha v) (i + 1) = ts_or (ts_of v c) (ts_ha v) i by simp [ts_or, ts_of, c19]] at ih; exact ih)
theorem lkX1_worth_13 : Cond.fieldLink RX1 13 RX1 (TX1 4).2.1 (TX1 4).2.2.1 ∈ wsX1_worth := by decide +kernel
theorem hinX1_worth : ∀ w ∈ wsX10, w ∈ wsX1_worth := by decide +kernel
set_option maxRecDepth 100000 in
set_option maxHeartbeats 4000000 in
theorem mm_worth (l : Launch) (D : va_G) (b : Nat → Nat) (c1 c2 c3 : ClassId) (v : ts_V) (th : Int32) (z : Nat → Int32) (hI : ts_I v) (c : Nat) (hc : c < ts_k v) : jj_M l D (ts_T c1 c2 c3) yX1_worth wsX1_worth rX1_worth [.ref (b 0), .int (nI c)] (wm b c1 v th z) (Nat → Int32) (fun x _ => x = nI (ts_now v c)) (fun u => wm b c1 v th u) := by
  obtain ⟨hn, hk, hth, hwk, hli, hgr⟩ := id hI
  refine jj_met (cc := cX1_worth) (nL := 5) (by decide) rfl (Nat.le_of_ble_eq_true rfl) (fun E Q hC hEl hED hD0 hret => ?_)
  show jj_J E 0 0 Q (wm b c1 v th z) 0 [(0, .ref (b 0)), (1, .int (nI c))] []
  refine jj_iconst hC dX1_worth_0 (v := nI 3) (by decide) ?_
  refine jj_aload_n hC dX1_worth_1 rfl ?_
  refine jj_iload_n hC dX1_worth_2 rfl ?_
  refine jj_calli hC (mm_hallmarks _ _ b c1 c2 c3 v th z hI c (by omega)) gX1_worth_X1_hallmarks rfl 1 (by decide +kernel) ⟨by decide, by decide, by decide, by decide⟩ 0 1 (by rfl) rfl rfl rfl rfl (Nat.le_of_ble_eq_true rfl) dX1_worth_3 (fun r u hp => ?_)
  obtain rfl := hp
  first | refine jj_imulN hC dX1_worth_6 ?_ | refine jj_imul hC dX1_worth_6 ?_
  refine jj_istore_n hC dX1_worth_7 (by decide) [1, 2, 0] (lv' := [(0, _), (1, _), (2, .int _)]) rfl ?_
  refine jj_iconst hC dX1_worth_8 (v := nI 0) (by decide) ?_
  refine jj_istore_n hC dX1_worth_9 (by decide) [1, 2, 3, 0] (lv' := [(0, _), (1, _), (2, _), (3, .int _)]) rfl ?_
  refine jj_for (P := fun i => ∀ z1 : Nat → Int32, jj_J E 0 0 Q (wm b c1 v th z1) 10 [(0, .ref (b 0)), (1, .int (nI c)), (2, .int (nI (3 * ts_hm v (ts_of v c) + ts_sum (fun s => ts_li v c s * 2 * ts_nums v (ts_of v c) s * ts_nums v (ts_of v c) s + ts_stts v (ts_of v c) s) i))), (3, .int (nI i))] []) (N := 8) ?_ ?_ 0 (Nat.zero_le _) _
  · intro z1
    refine jj_iload_n hC dX1_worth_10 rfl ?_
    refine jj_bipush hC dX1_worth_11 (v := nI 8) (by decide) ?_
    refine jj_icmp_geT hC dX1_worth_13 (tgt := 57) (by decide) (nI_le (Nat.le_refl _) (by omega)) ?_
    refine jj_iload_n hC dX1_worth_57 rfl ?_
    exact hret _ _ _ z1 dX1_worth_58 (by rfl) (rfl)
  · intro i hi ih z1
    refine jj_iload_n hC dX1_worth_10 rfl ?_
    refine jj_bipush hC dX1_worth_11 (v := nI 8) (by decide) ?_
    refine jj_icmp_geF hC dX1_worth_13 (tgt := 57) (by decide) (nI_ge hi (by omega)) ?_
    refine jj_aload_n hC dX1_worth_16 rfl ?_
    refine jj_iload_n hC dX1_worth_17 rfl ?_
    refine jj_iload_n hC dX1_worth_18 rfl ?_
    refine jj_calli hC (mm_gather _ _ b c1 c2 c3 v th z1 hI c i (by omega) hi) gX1_worth_X1_gather rfl 2 (by decide +kernel) ⟨by decide, by decide, by decide, by decide⟩ 0 1 (by rfl) rfl rfl rfl rfl (Nat.le_of_ble_eq_true rfl) dX1_worth_19 (fun r u hp => ?_)
    obtain ⟨z2, ez2⟩ : ∃ z2, z2 = u := ⟨u, rfl⟩
    rw [← ez2] at hp ⊢
    clear ez2
    obtain ⟨rfl, hz2⟩ := hp
    refine jj_istore hC dX1_worth_22 (by decide) [1, 2, 3, 4, 0] (lv' := [(0, _), (1, _), (2, _), (3, _), (4, .int _)]) rfl ?_
    refine jj_iload_n hC dX1_worth_24 rfl ?_
    refine jj_aload_n hC dX1_worth_25 rfl ?_
    refine jj_get hC 0 4 dX1_worth_26 (by rfl) rfl (by decide) lkX1_worth_13 rfl hinX1_worth (by rfl) ?_
    refine jj_bipush hC dX1_worth_29 (v := nI 8) (by decide) ?_
    refine jj_iload_n hC dX1_worth_31 rfl ?_
    first | refine jj_imulN hC dX1_worth_32 ?_ | refine jj_imul hC dX1_worth_32 ?_
    refine jj_iload_n hC dX1_worth_33 rfl ?_
    first | refine jj_iaddN hC dX1_worth_34 ?_ | refine jj_iadd hC dX1_worth_34 ?_
    refine jj_iald hC 2 0 dX1_worth_35 (wm_g2 ..) rfl (by omega) (by decide) ?_
    rw [show (8 * c + i) / 8 = c by omega, show (8 * c + i) % 8 = i by omega]
    refine jj_iconst hC dX1_worth_36 (v := nI 2) (by decide) ?_
    first | refine jj_imulN hC dX1_worth_37 ?_ | refine jj_imul hC dX1_worth_37 ?_
    refine jj_iload hC dX1_worth_38 rfl ?_
    first | refine jj_imulN hC dX1_worth_40 ?_ | refine jj_imul hC dX1_worth_40 ?_
    refine jj_iload hC dX1_worth_41 rfl ?_
    first | refine jj_imulN hC dX1_worth_43 ?_ | refine jj_imul hC dX1_worth_43 ?_
    refine jj_aload_n hC dX1_worth_44 rfl ?_
    refine jj_calli hC (mm_states _ _ b c1 c2 c3 v th z2 (fun k => ts_g v (ts_of v c) i k) (fun k => ts_gs_le (fun t ht => (hth t ht).2.2.2.1)) hz2) gX1_worth_X1_states rfl 0 (by decide +kernel) ⟨by decide, by decide, by decide, by decide⟩ 0 1 (by rfl) rfl rfl rfl rfl (Nat.le_of_ble_eq_true rfl) dX1_worth_45 (fun r u hp => ?_)
    obtain rfl := hp
    rw [show ts_sum (fun k => ts_g v (ts_of v c) i k - 1) 6 = ts_stts v (ts_of v c) i from rfl]
    first | refine jj_iaddN hC dX1_worth_48 ?_ | refine jj_iadd hC dX1_worth_48 ?_
    first | refine jj_iaddN hC dX1_worth_49 ?_ | refine jj_iadd hC dX1_worth_49 ?_
    refine jj_istore_n hC dX1_worth_50 (by decide) [1, 2, 0, 3, 4] (lv' := [(0, _), (1, _), (2, .int _), (3, _), (4, _)]) rfl ?_
    refine jj_iincN hC dX1_worth_51 rfl (d9 := 1) (by decide) (by decide) [1, 2, 3, 0, 4] (lv' := [(0, _), (1, _), (2, _), (3, .int _), (4, _)]) rfl ?_
    refine jj_goto hC dX1_worth_54 (tgt := 10) (by decide) ?_
    refine jj_sub [0, 1, 2, 3] (lv' := [(0, _), (1, _), (2, _), (3, _)]) rfl (jj_lv (ih _) (by simp [ts_sum, Nat.add_assoc]))
