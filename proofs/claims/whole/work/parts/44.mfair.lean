theorem lkX1_collectorTold_19 : Cond.fieldLink RX1 19 RX1 (TX1 6).2.1 (TX1 6).2.2.1 ∈ wsX1_collectorTold := by decide +kernel
theorem lkX1_collectorTold_39 : Cond.fieldLink RX1 39 RX1 (TX1 2).2.1 (TX1 2).2.2.1 ∈ wsX1_collectorTold := by decide +kernel
theorem lkX1_collectorTold_32 : Cond.fieldLink RX1 32 RX1 (TX1 1).2.1 (TX1 1).2.2.1 ∈ wsX1_collectorTold := by decide +kernel
theorem lkX1_collectorTold_16 : Cond.fieldLink RX1 16 RX1 (TX1 5).2.1 (TX1 5).2.2.1 ∈ wsX1_collectorTold := by decide +kernel
theorem hinX1_collectorTold : ∀ w ∈ wsX10, w ∈ wsX1_collectorTold := by decide +kernel
set_option maxRecDepth 100000 in
set_option maxHeartbeats 4000000 in
theorem mm_collectorTold (l : Launch) (D : va_G) (b : Nat → Nat) (c1 c2 c3 : ClassId) (v : ts_V) (th : Int32) (z : Nat → Int32) (hI : ts_I v) (c w : Nat) (hc : c < ts_k v) (hw : w < 7) : jj_M l D (ts_T c1 c2 c3) yX1_collectorTold wsX1_collectorTold rX1_collectorTold [.ref (b 0), .int (nI c), .int (nI w)] (wm b c1 v th z) (Nat → Int32) (fun x _ => x = ts_ct v c w) (fun u => wm b c1 v th u) := by
  obtain ⟨hn, hk, hth, hwk, hli, hgr⟩ := id hI
  refine jj_met (cc := cX1_collectorTold) (nL := 5) (by decide) rfl (Nat.le_of_ble_eq_true rfl) (fun E Q hC hEl hED hD0 hret => ?_)
  show jj_J E 0 0 Q (wm b c1 v th z) 0 [(0, .ref (b 0)), (1, .int (nI c)), (2, .int (nI w))] []
  refine jj_iconst hC dX1_collectorTold_0 (v := nI 0) (by decide) ?_
  refine jj_istore_n hC dX1_collectorTold_1 (by decide) [1, 2, 3, 0] (lv' := [(0, _), (1, _), (2, _), (3, .int _)]) rfl ?_
  refine jj_iload_n hC dX1_collectorTold_2 rfl ?_
  rcases (show w = 0 ∨ w = 1 ∨ w = 2 ∨ w = 3 ∨ w = 4 ∨ w = 5 ∨ w = 6 by omega) with rfl | rfl | rfl | rfl | rfl | rfl | rfl
  · refine jj_tableIn hC dX1_collectorTold_3 (by decide) (by decide) (off := 37) (by decide) (tgt := 40) (by decide) ?_
    refine jj_iconst hC dX1_collectorTold_40 (v := nI 0) (by decide) ?_
    refine jj_istore hC dX1_collectorTold_41 (by decide) [1, 2, 3, 4, 0] (lv' := [(0, _), (1, _), (2, _), (3, _), (4, .int _)]) rfl ?_
    refine jj_for (P := fun i => jj_J E 0 0 Q (wm b c1 v th z) 43 [(0, .ref (b 0)), (1, .int (nI c)), (2, .int (nI 0)), (3, .int (nI (ts_cnt (ts_of v c) i))), (4, .int (nI i))] []) (N := ts_n v) ?_ ?_ 0 (Nat.zero_le _)
    · refine jj_iload hC dX1_collectorTold_43 rfl ?_
      refine jj_aload_n hC dX1_collectorTold_45 rfl ?_
      refine jj_get hC 0 2 dX1_collectorTold_46 (by rfl) rfl (by decide) lkX1_collectorTold_39 rfl hinX1_collectorTold (by rfl) ?_
      refine jj_icmp_geT hC dX1_collectorTold_49 (tgt := 90) (by decide) (nI_le (Nat.le_refl _) (by omega)) ?_
      refine jj_iload_n hC dX1_collectorTold_90 rfl ?_
      exact hret _ _ _ z dX1_collectorTold_91 (by rfl) rfl
    · intro i hi ih
      have hb := hth i hi
      refine jj_iload hC dX1_collectorTold_43 rfl ?_
      refine jj_aload_n hC dX1_collectorTold_45 rfl ?_
      refine jj_get hC 0 2 dX1_collectorTold_46 (by rfl) rfl (by decide) lkX1_collectorTold_39 rfl hinX1_collectorTold (by rfl) ?_
      refine jj_icmp_geF hC dX1_collectorTold_49 (tgt := 90) (by decide) (nI_ge hi (by omega)) ?_
      refine jj_iload_n hC dX1_collectorTold_52 rfl ?_
      refine jj_aload_n hC dX1_collectorTold_53 rfl ?_
      refine jj_iload hC dX1_collectorTold_54 rfl ?_
      refine jj_iconst hC dX1_collectorTold_56 (v := nI 4) (by decide) ?_
      refine jj_calli hC (mm_th4 _ _ b c1 c2 c3 v th z i (by omega)) gX1_collectorTold_X1_th rfl 2 (by decide +kernel) ⟨by decide, by decide, by decide, by decide⟩ 0 1 (by rfl) rfl rfl rfl rfl (Nat.le_of_ble_eq_true rfl) dX1_collectorTold_57 (fun r u hp => ?_)
      obtain rfl := hp
      refine jj_iload_n hC dX1_collectorTold_60 rfl ?_
      first | refine jj_icmp_neN hC dX1_collectorTold_61 (tgt := 81) (by decide) (by omega) (by omega) (fun c61t => ?_) (fun c61f => ?_) | refine jj_icmp_ne hC dX1_collectorTold_61 (tgt := 81) (by decide) (fun c61t => ?_) (fun c61f => ?_)
      · refine jj_iconst hC dX1_collectorTold_81 (v := nI 0) (by decide) ?_
        first | refine jj_iaddN hC dX1_collectorTold_82 ?_ | refine jj_iadd hC dX1_collectorTold_82 ?_
        refine jj_istore_n hC dX1_collectorTold_83 (by decide) [1, 2, 3, 0, 4] (lv' := [(0, _), (1, _), (2, _), (3, .int _), (4, _)]) rfl ?_
        refine jj_iincN hC dX1_collectorTold_84 rfl (d9 := 1) (by decide) (by decide) [1, 2, 3, 4, 0] (lv' := [(0, _), (1, _), (2, _), (3, _), (4, .int _)]) rfl ?_
        refine jj_goto hC dX1_collectorTold_87 (tgt := 43) (by decide) ?_
        exact jj_lv ih (by simp [ts_cnt, ts_of, c61t])
      · refine jj_iload_n hC dX1_collectorTold_64 rfl ?_
        refine jj_if_eqT hC dX1_collectorTold_65 (tgt := 77) (by decide) (by decide) ?_
        refine jj_iconst hC dX1_collectorTold_77 (v := nI 1) (by decide) ?_
        refine jj_goto hC dX1_collectorTold_78 (tgt := 82) (by decide) ?_
        first | refine jj_iaddN hC dX1_collectorTold_82 ?_ | refine jj_iadd hC dX1_collectorTold_82 ?_
        refine jj_istore_n hC dX1_collectorTold_83 (by decide) [1, 2, 3, 0, 4] (lv' := [(0, _), (1, _), (2, _), (3, .int _), (4, _)]) rfl ?_
        refine jj_iincN hC dX1_collectorTold_84 rfl (d9 := 1) (by decide) (by decide) [1, 2, 3, 4, 0] (lv' := [(0, _), (1, _), (2, _), (3, _), (4, .int _)]) rfl ?_
        refine jj_goto hC dX1_collectorTold_87 (tgt := 43) (by decide) ?_
        exact jj_lv ih (by simp [ts_cnt, ts_of, c61f])
  · refine jj_tableIn hC dX1_collectorTold_3 (by decide) (by decide) (off := 37) (by decide) (tgt := 40) (by decide) ?_
    refine jj_iconst hC dX1_collectorTold_40 (v := nI 0) (by decide) ?_
    refine jj_istore hC dX1_collectorTold_41 (by decide) [1, 2, 3, 4, 0] (lv' := [(0, _), (1, _), (2, _), (3, _), (4, .int _)]) rfl ?_
    refine jj_for (P := fun i => jj_J E 0 0 Q (wm b c1 v th z) 43 [(0, .ref (b 0)), (1, .int (nI c)), (2, .int (nI 1)), (3, .int (nI (ts_cnt (fun t => ts_of v c t && ts_lt v t) i))), (4, .int (nI i))] []) (N := ts_n v) ?_ ?_ 0 (Nat.zero_le _)
    · refine jj_iload hC dX1_collectorTold_43 rfl ?_
      refine jj_aload_n hC dX1_collectorTold_45 rfl ?_
      refine jj_get hC 0 2 dX1_collectorTold_46 (by rfl) rfl (by decide) lkX1_collectorTold_39 rfl hinX1_collectorTold (by rfl) ?_
      refine jj_icmp_geT hC dX1_collectorTold_49 (tgt := 90) (by decide) (nI_le (Nat.le_refl _) (by omega)) ?_
      refine jj_iload_n hC dX1_collectorTold_90 rfl ?_
      exact hret _ _ _ z dX1_collectorTold_91 (by rfl) rfl
    · intro i hi ih
      have hb := hth i hi
      refine jj_iload hC dX1_collectorTold_43 rfl ?_
      refine jj_aload_n hC dX1_collectorTold_45 rfl ?_
      refine jj_get hC 0 2 dX1_collectorTold_46 (by rfl) rfl (by decide) lkX1_collectorTold_39 rfl hinX1_collectorTold (by rfl) ?_
      refine jj_icmp_geF hC dX1_collectorTold_49 (tgt := 90) (by decide) (nI_ge hi (by omega)) ?_
      refine jj_iload_n hC dX1_collectorTold_52 rfl ?_
      refine jj_aload_n hC dX1_collectorTold_53 rfl ?_
      refine jj_iload hC dX1_collectorTold_54 rfl ?_
      refine jj_iconst hC dX1_collectorTold_56 (v := nI 4) (by decide) ?_
      refine jj_calli hC (mm_th4 _ _ b c1 c2 c3 v th z i (by omega)) gX1_collectorTold_X1_th rfl 2 (by decide +kernel) ⟨by decide, by decide, by decide, by decide⟩ 0 1 (by rfl) rfl rfl rfl rfl (Nat.le_of_ble_eq_true rfl) dX1_collectorTold_57 (fun r u hp => ?_)
      obtain rfl := hp
      refine jj_iload_n hC dX1_collectorTold_60 rfl ?_
      first | refine jj_icmp_neN hC dX1_collectorTold_61 (tgt := 81) (by decide) (by omega) (by omega) (fun c61t => ?_) (fun c61f => ?_) | refine jj_icmp_ne hC dX1_collectorTold_61 (tgt := 81) (by decide) (fun c61t => ?_) (fun c61f => ?_)
      · refine jj_iconst hC dX1_collectorTold_81 (v := nI 0) (by decide) ?_
        first | refine jj_iaddN hC dX1_collectorTold_82 ?_ | refine jj_iadd hC dX1_collectorTold_82 ?_
        refine jj_istore_n hC dX1_collectorTold_83 (by decide) [1, 2, 3, 0, 4] (lv' := [(0, _), (1, _), (2, _), (3, .int _), (4, _)]) rfl ?_
        refine jj_iincN hC dX1_collectorTold_84 rfl (d9 := 1) (by decide) (by decide) [1, 2, 3, 4, 0] (lv' := [(0, _), (1, _), (2, _), (3, _), (4, .int _)]) rfl ?_
        refine jj_goto hC dX1_collectorTold_87 (tgt := 43) (by decide) ?_
        exact jj_lv ih (by simp [ts_cnt, ts_of, c61t])
      · refine jj_iload_n hC dX1_collectorTold_64 rfl ?_
        refine jj_if_eqF hC dX1_collectorTold_65 (tgt := 77) (by decide) (by decide) ?_
        refine jj_aload_n hC dX1_collectorTold_68 rfl ?_
        refine jj_iload hC dX1_collectorTold_69 rfl ?_
        refine jj_calli hC (mm_isLent _ _ b c1 c2 c3 v th z i (by omega)) gX1_collectorTold_X1_isLent rfl 1 (by decide +kernel) ⟨by decide, by decide, by decide, by decide⟩ 0 1 (by rfl) rfl rfl rfl rfl (Nat.le_of_ble_eq_true rfl) dX1_collectorTold_71 (fun r u hp => ?_)
        obtain rfl := hp
        refine jj_if_eqB hC dX1_collectorTold_74 (tgt := 81) (by decide) (fun c74t => ?_) (fun c74f => ?_)
        · refine jj_iconst hC dX1_collectorTold_81 (v := nI 0) (by decide) ?_
          first | refine jj_iaddN hC dX1_collectorTold_82 ?_ | refine jj_iadd hC dX1_collectorTold_82 ?_
          refine jj_istore_n hC dX1_collectorTold_83 (by decide) [1, 2, 3, 0, 4] (lv' := [(0, _), (1, _), (2, _), (3, .int _), (4, _)]) rfl ?_
          refine jj_iincN hC dX1_collectorTold_84 rfl (d9 := 1) (by decide) (by decide) [1, 2, 3, 4, 0] (lv' := [(0, _), (1, _), (2, _), (3, _), (4, .int _)]) rfl ?_
          refine jj_goto hC dX1_collectorTold_87 (tgt := 43) (by decide) ?_
          exact jj_lv ih (by simp [ts_cnt, ts_of, c61f, c74t])
        · refine jj_iconst hC dX1_collectorTold_77 (v := nI 1) (by decide) ?_
          refine jj_goto hC dX1_collectorTold_78 (tgt := 82) (by decide) ?_
          first | refine jj_iaddN hC dX1_collectorTold_82 ?_ | refine jj_iadd hC dX1_collectorTold_82 ?_
          refine jj_istore_n hC dX1_collectorTold_83 (by decide) [1, 2, 3, 0, 4] (lv' := [(0, _), (1, _), (2, _), (3, .int _), (4, _)]) rfl ?_
          refine jj_iincN hC dX1_collectorTold_84 rfl (d9 := 1) (by decide) (by decide) [1, 2, 3, 4, 0] (lv' := [(0, _), (1, _), (2, _), (3, _), (4, .int _)]) rfl ?_
          refine jj_goto hC dX1_collectorTold_87 (tgt := 43) (by decide) ?_
          exact jj_lv ih (by simp [ts_cnt, ts_of, c61f, c74f])
  · refine jj_tableIn hC dX1_collectorTold_3 (by decide) (by decide) (off := 89) (by decide) (tgt := 92) (by decide) ?_
    refine jj_aload_n hC dX1_collectorTold_92 rfl ?_
    refine jj_iload_n hC dX1_collectorTold_93 rfl ?_
    refine jj_calli hC (mm_hallmarks _ _ b c1 c2 c3 v th z hI c (by omega)) gX1_collectorTold_X1_hallmarks rfl 1 (by decide +kernel) ⟨by decide, by decide, by decide, by decide⟩ 0 1 (by rfl) rfl rfl rfl rfl (Nat.le_of_ble_eq_true rfl) dX1_collectorTold_94 (fun r u hp => ?_)
    obtain rfl := hp
    exact hret _ _ _ z dX1_collectorTold_97 (by rfl) rfl
  · refine jj_tableIn hC dX1_collectorTold_3 (by decide) (by decide) (off := 95) (by decide) (tgt := 98) (by decide) ?_
    refine jj_aload_n hC dX1_collectorTold_98 rfl ?_
    refine jj_iload_n hC dX1_collectorTold_99 rfl ?_
    refine jj_calli hC (mm_worth _ _ b c1 c2 c3 v th z hI c hc) gX1_collectorTold_X1_worth rfl 1 (by decide +kernel) ⟨by decide, by decide, by decide, by decide⟩ 0 1 (by rfl) rfl rfl rfl rfl (Nat.le_of_ble_eq_true rfl) dX1_collectorTold_100 (fun r u hp => ?_)
    obtain rfl := hp
    exact hret _ _ _ u dX1_collectorTold_103 (by rfl) rfl
  · refine jj_tableIn hC dX1_collectorTold_3 (by decide) (by decide) (off := 101) (by decide) (tgt := 104) (by decide) ?_
    refine jj_iconst hC dX1_collectorTold_104 (v := nI 0) (by decide) ?_
    refine jj_istore hC dX1_collectorTold_105 (by decide) [1, 2, 3, 4, 0] (lv' := [(0, _), (1, _), (2, _), (3, _), (4, .int _)]) rfl ?_
    refine jj_for (P := fun i => ∀ z1 : Nat → Int32, jj_J E 0 0 Q (wm b c1 v th z1) 107 [(0, .ref (b 0)), (1, .int (nI c)), (2, .int (nI 4)), (3, .int (nI (ts_cnt (fun s => decide (ts_nums v (ts_of v c) s = 6)) i))), (4, .int (nI i))] []) (N := 8) ?_ ?_ 0 (Nat.zero_le _) _
    · intro z1
      refine jj_iload hC dX1_collectorTold_107 rfl ?_
      refine jj_bipush hC dX1_collectorTold_109 (v := nI 8) (by decide) ?_
      refine jj_icmp_geT hC dX1_collectorTold_111 (tgt := 140) (by decide) (nI_le (Nat.le_refl _) (by omega)) ?_
      refine jj_iload_n hC dX1_collectorTold_140 rfl ?_
      exact hret _ _ _ z1 dX1_collectorTold_141 (by rfl) rfl
    · intro i hi ih z1
      refine jj_iload hC dX1_collectorTold_107 rfl ?_
      refine jj_bipush hC dX1_collectorTold_109 (v := nI 8) (by decide) ?_
      refine jj_icmp_geF hC dX1_collectorTold_111 (tgt := 140) (by decide) (nI_ge hi (by omega)) ?_
      refine jj_iload_n hC dX1_collectorTold_114 rfl ?_
      refine jj_aload_n hC dX1_collectorTold_115 rfl ?_
      refine jj_iload_n hC dX1_collectorTold_116 rfl ?_
      refine jj_iload hC dX1_collectorTold_117 rfl ?_
      refine jj_calli hC (mm_gather _ _ b c1 c2 c3 v th z1 hI c i (by omega) hi) gX1_collectorTold_X1_gather rfl 2 (by decide +kernel) ⟨by decide, by decide, by decide, by decide⟩ 0 1 (by rfl) rfl rfl rfl rfl (Nat.le_of_ble_eq_true rfl) dX1_collectorTold_119 (fun r u hp => ?_)
      obtain ⟨rfl, -⟩ := hp
      revert u
      intro z2
      have hnl : ts_nums v (ts_of v c) i ≤ 6 := ts_cnt_le _ 6
      refine jj_bipush hC dX1_collectorTold_122 (v := nI 6) (by decide) ?_
      first | refine jj_icmp_neN hC dX1_collectorTold_124 (tgt := 131) (by decide) (by omega) (by omega) (fun c124t => ?_) (fun c124f => ?_) | refine jj_icmp_ne hC dX1_collectorTold_124 (tgt := 131) (by decide) (fun c124t => ?_) (fun c124f => ?_)
      · refine jj_iconst hC dX1_collectorTold_131 (v := nI 0) (by decide) ?_
        first | refine jj_iaddN hC dX1_collectorTold_132 ?_ | refine jj_iadd hC dX1_collectorTold_132 ?_
        refine jj_istore_n hC dX1_collectorTold_133 (by decide) [1, 2, 3, 0, 4] (lv' := [(0, _), (1, _), (2, _), (3, .int _), (4, _)]) rfl ?_
        refine jj_iincN hC dX1_collectorTold_134 rfl (d9 := 1) (by decide) (by decide) [1, 2, 3, 4, 0] (lv' := [(0, _), (1, _), (2, _), (3, _), (4, .int _)]) rfl ?_
        refine jj_goto hC dX1_collectorTold_137 (tgt := 107) (by decide) ?_
        exact jj_lv (ih _) (by simp [ts_cnt, c124t])
      · refine jj_iconst hC dX1_collectorTold_127 (v := nI 1) (by decide) ?_
        refine jj_goto hC dX1_collectorTold_128 (tgt := 132) (by decide) ?_
        first | refine jj_iaddN hC dX1_collectorTold_132 ?_ | refine jj_iadd hC dX1_collectorTold_132 ?_
        refine jj_istore_n hC dX1_collectorTold_133 (by decide) [1, 2, 3, 0, 4] (lv' := [(0, _), (1, _), (2, _), (3, .int _), (4, _)]) rfl ?_
        refine jj_iincN hC dX1_collectorTold_134 rfl (d9 := 1) (by decide) (by decide) [1, 2, 3, 4, 0] (lv' := [(0, _), (1, _), (2, _), (3, _), (4, .int _)]) rfl ?_
        refine jj_goto hC dX1_collectorTold_137 (tgt := 107) (by decide) ?_
        exact jj_lv (ih _) (by simp [ts_cnt, c124f])
  · refine jj_tableIn hC dX1_collectorTold_3 (by decide) (by decide) (off := 139) (by decide) (tgt := 142) (by decide) ?_
    refine jj_iconst hC dX1_collectorTold_142 (v := nI 0) (by decide) ?_
    refine jj_istore hC dX1_collectorTold_143 (by decide) [1, 2, 3, 4, 0] (lv' := [(0, _), (1, _), (2, _), (3, _), (4, .int _)]) rfl ?_
    refine jj_for (P := fun i => jj_J E 0 0 Q (wm b c1 v th z) 145 [(0, .ref (b 0)), (1, .int (nI c)), (2, .int (nI 5)), (3, .int (nI (ts_sum (fun o => ts_gr v c o) i))), (4, .int (nI i))] []) (N := ts_k v) ?_ ?_ 0 (Nat.zero_le _)
    · refine jj_iload hC dX1_collectorTold_145 rfl ?_
      refine jj_aload_n hC dX1_collectorTold_147 rfl ?_
      refine jj_get hC 0 1 dX1_collectorTold_148 (by rfl) rfl (by decide) lkX1_collectorTold_32 rfl hinX1_collectorTold (by rfl) ?_
      refine jj_icmp_geT hC dX1_collectorTold_151 (tgt := 175) (by decide) (nI_le (Nat.le_refl _) (by omega)) ?_
      refine jj_iload_n hC dX1_collectorTold_175 rfl ?_
      exact hret _ _ _ z dX1_collectorTold_176 (by rfl) rfl
    · intro i hi ih
      refine jj_iload hC dX1_collectorTold_145 rfl ?_
      refine jj_aload_n hC dX1_collectorTold_147 rfl ?_
      refine jj_get hC 0 1 dX1_collectorTold_148 (by rfl) rfl (by decide) lkX1_collectorTold_32 rfl hinX1_collectorTold (by rfl) ?_
      refine jj_icmp_geF hC dX1_collectorTold_151 (tgt := 175) (by decide) (nI_ge hi (by omega)) ?_
      refine jj_iload_n hC dX1_collectorTold_154 rfl ?_
      refine jj_aload_n hC dX1_collectorTold_155 rfl ?_
      refine jj_get hC 0 5 dX1_collectorTold_156 (by rfl) rfl (by decide) lkX1_collectorTold_16 rfl hinX1_collectorTold (by rfl) ?_
      refine jj_bipush hC dX1_collectorTold_159 (v := nI 7) (by decide) ?_
      refine jj_iload_n hC dX1_collectorTold_161 rfl ?_
      first | refine jj_imulN hC dX1_collectorTold_162 ?_ | refine jj_imul hC dX1_collectorTold_162 ?_
      refine jj_iload hC dX1_collectorTold_163 rfl ?_
      first | refine jj_iaddN hC dX1_collectorTold_165 ?_ | refine jj_iadd hC dX1_collectorTold_165 ?_
      refine jj_iald hC 3 0 dX1_collectorTold_166 (wm_g3 ..) rfl (by omega) (by decide) ?_
      rw [show (7 * c + i) / 7 = c by omega, show (7 * c + i) % 7 = i by omega]
      first | refine jj_iaddN hC dX1_collectorTold_167 ?_ | refine jj_iadd hC dX1_collectorTold_167 ?_
      refine jj_istore_n hC dX1_collectorTold_168 (by decide) [1, 2, 3, 0, 4] (lv' := [(0, _), (1, _), (2, _), (3, .int _), (4, _)]) rfl ?_
      refine jj_iincN hC dX1_collectorTold_169 rfl (d9 := 1) (by decide) (by decide) [1, 2, 3, 4, 0] (lv' := [(0, _), (1, _), (2, _), (3, _), (4, .int _)]) rfl ?_
      refine jj_goto hC dX1_collectorTold_172 (tgt := 145) (by decide) ?_
      exact ih
  · refine jj_tableOut hC dX1_collectorTold_3 (Or.inr (by decide)) (tgt := 177) (by decide) ?_
    refine jj_aload_n hC dX1_collectorTold_177 rfl ?_
    refine jj_get hC 0 6 dX1_collectorTold_178 (by rfl) rfl (by decide) lkX1_collectorTold_19 rfl hinX1_collectorTold (by rfl) ?_
    refine jj_iload_n hC dX1_collectorTold_181 rfl ?_
    refine jj_iald hC 4 0 dX1_collectorTold_182 (wm_g4 ..) rfl (by omega) (by decide) ?_
    exact hret _ _ _ z dX1_collectorTold_183 (by rfl) rfl
theorem lkX1_collector_28 : Cond.fieldLink RX1 28 RX1 (TX1 0).2.1 (TX1 0).2.2.1 ∈ wsX1_collector := by decide +kernel
theorem hinX1_collector : ∀ w ∈ wsX10, w ∈ wsX1_collector := by decide +kernel
set_option maxRecDepth 100000 in
set_option maxHeartbeats 4000000 in
theorem mo_collector (l : Launch) (D : va_G) (b : Nat → Nat) (c1 c2 c3 : ClassId) (v : ts_V) (th : Int32) (z : Nat → Int32) (hI : ts_I v) (x0 x1 : Int32) : jj_M l D (ts_T c1 c2 c3) yX1_collector wsX1_collector rX1_collector [.ref (b 0), .int x0, .int x1] (wm b c1 v th z) (Nat → Int32) (fun r _ => r = ts_if ((ts_req (ts_in x0 (ts_k v)) jj_IO).or (ts_req (ts_in x1 7) jj_IO)) (ts_ct v (ts_N x0) (ts_N x1)) (nI 0)) (fun u => wm b c1 (ts_if ((ts_req (ts_in x0 (ts_k v)) jj_IO).or (ts_req (ts_in x1 7) jj_IO)) (v) v) (ts_cd 1 0 0 ((ts_req (ts_in x0 (ts_k v)) jj_IO).or (ts_req (ts_in x1 7) jj_IO))) u) := by
  obtain ⟨hn, hk, hth, hwk, hli, hgr⟩ := id hI
  refine jj_met (cc := cX1_collector) (nL := 3) (by decide) rfl (Nat.le_of_ble_eq_true rfl) (fun E Q hC hEl hED hD0 hret => ?_)
  show jj_J E 0 0 Q (wm b c1 v th z) 0 [(0, .ref (b 0)), (1, .int x0), (2, .int x1)] []
  refine jj_aload_n hC dX1_collector_0 rfl ?_
  refine jj_iconst hC dX1_collector_1 (v := nI 0) (by decide) ?_
  refine jj_put hC 0 0 dX1_collector_2 (by rfl) rfl (by decide) lkX1_collector_28 rfl hinX1_collector tyX1_ok nmX1 rfl rfl rfl rfl (Nat.le_of_ble_eq_true rfl) (wm_p0 ..) ?_
  refine jj_aload_n hC dX1_collector_5 rfl ?_
  refine jj_iload_n hC dX1_collector_6 rfl ?_
  refine jj_calli hC (mm_isCollector _ _ b c1 c2 c3 v (nI 0) z hI x0) gX1_collector_X1_isCollector rfl 1 (by decide +kernel) ⟨by decide, by decide, by decide, by decide⟩ 0 1 (by rfl) rfl rfl rfl rfl (Nat.le_of_ble_eq_true rfl) dX1_collector_7 (fun r u hp => ?_)
  obtain rfl := hp
  refine jj_if_eqB hC dX1_collector_10 (tgt := 32) (by decide) (fun c10t => ?_) (fun c10f => ?_)
  · refine jj_aload_n hC dX1_collector_32 rfl ?_
    refine jj_iconst hC dX1_collector_33 (v := nI 1) (by decide) ?_
    refine jj_calli hC (mm_fail _ _ b c1 c2 c3 v (nI 0) z (nI 1)) gX1_collector_X1_fail rfl 1 (by decide +kernel) ⟨by decide, by decide, by decide, by decide⟩ 0 1 (by rfl) rfl rfl rfl rfl (Nat.le_of_ble_eq_true rfl) dX1_collector_34 (fun r u hp => ?_)
    obtain rfl := hp
    have eO : ((ts_req (ts_in x0 (ts_k v)) jj_IO).or (ts_req (ts_in x1 7) jj_IO)) = some jj_IO := by
      first
        | (simp [ts_req, c10t]; done)
        | (simp [ts_req, c10t]
           repeat' split
           all_goals simp_all)
    rw [eO, ts_cdIO] at hret
    exact hret _ _ _ z dX1_collector_37 (by rfl) rfl
  · refine jj_iload_n hC dX1_collector_13 rfl ?_
    refine jj_iconst hC dX1_collector_14 (v := nI 0) (by decide) ?_
    refine jj_bipush hC dX1_collector_15 (v := nI 6) (by decide) ?_
    refine jj_scalliN hC (mm_isInN _ _ c1 c2 c3 x1 6 (by decide)) gX1_collector_X1_isIn rfl 3 (by decide +kernel) ⟨by decide, by decide, by decide, by decide⟩ rfl rfl rfl (Nat.le_of_ble_eq_true rfl) dX1_collector_17 (fun r u hp => ?_)
    obtain rfl := hp
    refine jj_if_eqB hC dX1_collector_20 (tgt := 32) (by decide) (fun c20t => ?_) (fun c20f => ?_)
    · refine jj_aload_n hC dX1_collector_32 rfl ?_
      refine jj_iconst hC dX1_collector_33 (v := nI 1) (by decide) ?_
      refine jj_calli hC (mm_fail _ _ b c1 c2 c3 v (nI 0) z (nI 1)) gX1_collector_X1_fail rfl 1 (by decide +kernel) ⟨by decide, by decide, by decide, by decide⟩ 0 1 (by rfl) rfl rfl rfl rfl (Nat.le_of_ble_eq_true rfl) dX1_collector_34 (fun r u hp => ?_)
      obtain rfl := hp
      have eO : ((ts_req (ts_in x0 (ts_k v)) jj_IO).or (ts_req (ts_in x1 7) jj_IO)) = some jj_IO := by
        first
          | (simp [ts_req, c10f, c20t]; done)
          | (simp [ts_req, c10f, c20t]
             repeat' split
             all_goals simp_all)
      rw [eO, ts_cdIO] at hret
      exact hret _ _ _ z dX1_collector_37 (by rfl) rfl
    · obtain ⟨j0, hj0, rfl⟩ := ts_in_of c10f (by omega)
      have eNj0 : ts_N (nI j0) = j0 := ts_N_nI (by omega)
      obtain ⟨j1, hj1, rfl⟩ := ts_in_of c20f (by omega)
      have eNj1 : ts_N (nI j1) = j1 := ts_N_nI (by omega)
      refine jj_aload_n hC dX1_collector_23 rfl ?_
      refine jj_iload_n hC dX1_collector_24 rfl ?_
      refine jj_iload_n hC dX1_collector_25 rfl ?_
      refine jj_calli hC (mm_collectorTold _ _ b c1 c2 c3 v (nI 0) z hI j0 j1 hj0 hj1) gX1_collector_X1_collectorTold rfl 2 (by decide +kernel) ⟨by decide, by decide, by decide, by decide⟩ 0 1 (by rfl) rfl rfl rfl rfl (Nat.le_of_ble_eq_true rfl) dX1_collector_26 (fun r u hp => ?_)
      obtain rfl := hp
      revert u
      intro z1
      refine jj_goto hC dX1_collector_29 (tgt := 37) (by decide) ?_
      simp only [eNj0, eNj1] at hret
      have eO : ((ts_req (ts_in (nI j0) (ts_k v)) jj_IO).or (ts_req (ts_in (nI j1) 7) jj_IO)) = none := by simp [ts_req, c10f, c20f]
      rw [eO] at hret
      exact hret _ _ _ z1 dX1_collector_37 (by rfl) (rfl)
theorem ts_rs_good {v : ts_V} {c o x y : Nat} (hg : ts_bgood v c o x y) : ts_rs v x y = (nI 0, ts_swp v x y) := by
  have e1 := ts_home_ow hg.2.2.1
  have e2 := ts_home_ow hg.2.2.2.1
  unfold ts_rs
  rw [e1, e2, if_pos ⟨hg.2.2.2.2.1, hg.2.2.2.2.2⟩]
def ts_once (v : ts_V) : ts_V := if ts_first v = -1 then v else ts_swp v ((ts_first v).toNatClampNeg / 36) ((ts_first v).toNatClampNeg % 36)
theorem ts_first_eq {v : ts_V} (hI : ts_I v) {c o x y : Nat} (hg : ts_bgood v c o x y) (h : ts_first v = nI (36 * x + y)) : ¬ ts_first v = -1 ∧ ts_once v = ts_swp v x y := by
  have hl := ts_bgood_lt hI hg
  have hn : ¬ ts_first v = -1 := by
    intro e
    rw [h] at e
    have h3 := congrArg Int32.toInt e
    rw [nI_toInt (by omega)] at h3
    have e3 : (-1 : Int32).toInt = -1 := by decide
    omega
  refine ⟨hn, ?_⟩
  unfold ts_once
  rw [if_neg hn, h, nI_clamp (by omega), hl.2.1, hl.2.2]
theorem lkX1_swapsOnce_32 : Cond.fieldLink RX1 32 RX1 (TX1 1).2.1 (TX1 1).2.2.1 ∈ wsX1_swapsOnce := by decide +kernel
theorem hinX1_swapsOnce : ∀ w ∈ wsX10, w ∈ wsX1_swapsOnce := by decide +kernel
set_option maxRecDepth 100000 in
set_option maxHeartbeats 4000000 in
theorem mm_swapsOnce (l : Launch) (D : va_G) (b : Nat → Nat) (c1 c2 c3 : ClassId) (v : ts_V) (th : Int32) (z : Nat → Int32) (hI : ts_I v) : jj_M l D (ts_T c1 c2 c3) yX1_swapsOnce wsX1_swapsOnce rX1_swapsOnce [.ref (b 0)] (wm b c1 v th z) (Nat → Int32) (fun r _ => r = ts_b (decide (¬ ts_first v = -1))) (fun u => wm b c1 (ts_once v) th u) := by
  obtain ⟨hn, hk, hth, hwk, hli, hgr⟩ := id hI
  refine jj_met (cc := cX1_swapsOnce) (nL := 4) (by decide) rfl (Nat.le_of_ble_eq_true rfl) (fun E Q hC hEl hED hD0 hret => ?_)
  show jj_J E 0 0 Q (wm b c1 v th z) 0 [(0, .ref (b 0))] []
  refine jj_iconst hC dX1_swapsOnce_0 (v := nI 0) (by decide) ?_
  refine jj_istore_n hC dX1_swapsOnce_1 (by decide) [1, 0] (lv' := [(0, _), (1, .int _)]) rfl ?_
  refine jj_for (P := fun i => ts_first v = ts_fout v (ts_k v - i) i → ∀ z1 : Nat → Int32, jj_J E 0 0 Q (wm b c1 v th z1) 2 [(0, .ref (b 0)), (1, .int (nI i))] []) (N := ts_k v) ?_ ?_ 0 (Nat.zero_le _) rfl z
  · intro hF z1
    refine jj_iload_n hC dX1_swapsOnce_2 rfl ?_
    refine jj_aload_n hC dX1_swapsOnce_3 rfl ?_
    refine jj_get hC 0 1 dX1_swapsOnce_4 (by rfl) rfl (by decide) lkX1_swapsOnce_32 rfl hinX1_swapsOnce (by rfl) ?_
    refine jj_icmp_geT hC dX1_swapsOnce_7 (tgt := 64) (by decide) (nI_le (Nat.le_refl _) (by omega)) ?_
    refine jj_iconst hC dX1_swapsOnce_64 (v := nI 0) (by decide) ?_
    have hf0 : ts_first v = -1 := by rw [hF, Nat.sub_self]; rfl
    refine jj_ws (ws' := wm b c1 (ts_once v) th z1) (by unfold ts_once; rw [if_pos hf0]) (hret _ _ _ z1 dX1_swapsOnce_65 (by rfl) (by rw [decide_eq_false (fun q => q hf0)]; rfl))
  · intro i hi ih hF z1
    refine jj_iload_n hC dX1_swapsOnce_2 rfl ?_
    refine jj_aload_n hC dX1_swapsOnce_3 rfl ?_
    refine jj_get hC 0 1 dX1_swapsOnce_4 (by rfl) rfl (by decide) lkX1_swapsOnce_32 rfl hinX1_swapsOnce (by rfl) ?_
    refine jj_icmp_geF hC dX1_swapsOnce_7 (tgt := 64) (by decide) (nI_ge hi (by omega)) ?_
    refine jj_iload_n hC dX1_swapsOnce_10 rfl ?_
    refine jj_iconst hC dX1_swapsOnce_11 (v := nI 1) (by decide) ?_
    first | refine jj_iaddN hC dX1_swapsOnce_12 ?_ | refine jj_iadd hC dX1_swapsOnce_12 ?_
    refine jj_istore_n hC dX1_swapsOnce_13 (by decide) [1, 2, 0] (lv' := [(0, _), (1, _), (2, .int _)]) rfl ?_
    refine jj_for (P := fun j => i < j → ts_fin v i (ts_k v - (i + 1)) (i + 1) = ts_fin v i (ts_k v - j) j → ∀ z1 : Nat → Int32, jj_J E 0 0 Q (wm b c1 v th z1) 14 [(0, .ref (b 0)), (1, .int (nI i)), (2, .int (nI j))] []) (N := ts_k v) ?_ ?_ (i + 1) hi (Nat.lt_succ_self i) rfl _
    · intro _ hfi z1
      refine jj_iload_n hC dX1_swapsOnce_14 rfl ?_
      refine jj_aload_n hC dX1_swapsOnce_15 rfl ?_
      refine jj_get hC 0 1 dX1_swapsOnce_16 (by rfl) rfl (by decide) lkX1_swapsOnce_32 rfl hinX1_swapsOnce (by rfl) ?_
      refine jj_icmp_geT hC dX1_swapsOnce_19 (tgt := 58) (by decide) (nI_le (Nat.le_refl _) (by omega)) ?_
      refine jj_iincN hC dX1_swapsOnce_58 rfl (d9 := 1) (by decide) (by decide) [1, 0, 2] (lv' := [(0, _), (1, .int _), (2, _)]) rfl ?_
      refine jj_goto hC dX1_swapsOnce_61 (tgt := 2) (by decide) ?_
      refine jj_sub [0, 1] (lv' := [(0, _), (1, _)]) rfl (ih ?_ _)
      rw [hF, ts_fout_s hi, if_neg (by rw [hfi, Nat.sub_self]; exact fun q => q rfl)]
    · intro j hj ih2 hij hfi z1
      refine jj_iload_n hC dX1_swapsOnce_14 rfl ?_
      refine jj_aload_n hC dX1_swapsOnce_15 rfl ?_
      refine jj_get hC 0 1 dX1_swapsOnce_16 (by rfl) rfl (by decide) lkX1_swapsOnce_32 rfl hinX1_swapsOnce (by rfl) ?_
      refine jj_icmp_geF hC dX1_swapsOnce_19 (tgt := 58) (by decide) (nI_ge hj (by omega)) ?_
      refine jj_aload_n hC dX1_swapsOnce_22 rfl ?_
      refine jj_iload_n hC dX1_swapsOnce_23 rfl ?_
      refine jj_iload_n hC dX1_swapsOnce_24 rfl ?_
      refine jj_calli hC (mm_bestOf _ _ b c1 c2 c3 v th z1 hI i j hi hj (by omega)) gX1_swapsOnce_X1_bestOf rfl 2 (by decide +kernel) ⟨by decide, by decide, by decide, by decide⟩ 0 1 (by rfl) rfl rfl rfl rfl (Nat.le_of_ble_eq_true rfl) dX1_swapsOnce_25 (fun r u hp => ?_)
      obtain rfl := hp
      revert u
      intro z2
      refine jj_istore_n hC dX1_swapsOnce_28 (by decide) [1, 2, 3, 0] (lv' := [(0, _), (1, _), (2, _), (3, .int _)]) rfl ?_
      refine jj_iload_n hC dX1_swapsOnce_29 rfl ?_
      refine jj_iconst hC dX1_swapsOnce_30 (v := -1) (by decide) ?_
      refine jj_icmp_ne hC dX1_swapsOnce_31 (tgt := 37) (by decide) (fun c31t => ?_) (fun c31f => ?_)
      · obtain ⟨x, y, hg, e1⟩ := (ts_best_ok v i j).resolve_left c31t
        have hl := ts_bgood_lt hI hg
        have hn6 := hg.1
        have hne : ¬ ts_ow v x = ts_ow v y := by rw [ts_home_ow hg.2.2.1, ts_home_ow hg.2.2.2.1]; omega
        have hfe := ts_first_eq hI hg (by rw [hF, ts_fout_s hi, hfi, ts_fin_s hj, if_pos c31t, if_pos c31t, e1])
        rw [e1]
        refine jj_aload_n hC dX1_swapsOnce_37 rfl ?_
        refine jj_iload_n hC dX1_swapsOnce_38 rfl ?_
        refine jj_bipush hC dX1_swapsOnce_39 (v := nI 36) (by decide) ?_
        refine jj_idivN hC dX1_swapsOnce_41 (by omega) (by omega) (by omega) ?_
        rw [hl.2.1]
        refine jj_iload_n hC dX1_swapsOnce_42 rfl ?_
        refine jj_bipush hC dX1_swapsOnce_43 (v := nI 36) (by decide) ?_
        refine jj_iremN hC dX1_swapsOnce_45 (by omega) (by omega) (by omega) ?_
        rw [hl.2.2]
        refine jj_calli hC (mm_swapped _ _ b c1 c2 c3 v th z2 hI x y hg.1 hg.2.1 hne) gX1_swapsOnce_X1_swapped rfl 2 (by decide +kernel) ⟨by decide, by decide, by decide, by decide⟩ 0 1 (by rfl) rfl rfl rfl rfl (Nat.le_of_ble_eq_true rfl) dX1_swapsOnce_46 (fun r u hp => ?_)
        obtain rfl := hp
        revert u
        intro z3
        refine jj_ws (ws' := wm b c1 (ts_once v) th z3) (by rw [ts_rs_good hg, hfe.2]) ?_
        refine jj_pop hC dX1_swapsOnce_49 rfl ?_
        refine jj_iconst hC dX1_swapsOnce_50 (v := nI 1) (by decide) ?_
        exact hret _ _ _ z3 dX1_swapsOnce_51 (by rfl) (by rw [decide_eq_true hfe.1]; rfl)
      · refine jj_goto hC dX1_swapsOnce_34 (tgt := 52) (by decide) ?_
        refine jj_iincN hC dX1_swapsOnce_52 rfl (d9 := 1) (by decide) (by decide) [1, 2, 0, 3] (lv' := [(0, _), (1, _), (2, .int _), (3, _)]) rfl ?_
        refine jj_goto hC dX1_swapsOnce_55 (tgt := 14) (by decide) ?_
        refine jj_sub [0, 1, 2] (lv' := [(0, _), (1, _), (2, _)]) rfl (ih2 (by omega) ?_ _)
        rw [hfi, ts_fin_s hj, if_neg (fun q => q c31f)]
theorem lkX1_fair_28 : Cond.fieldLink RX1 28 RX1 (TX1 0).2.1 (TX1 0).2.2.1 ∈ wsX1_fair := by decide +kernel
theorem hinX1_fair : ∀ w ∈ wsX10, w ∈ wsX1_fair := by decide +kernel
set_option maxRecDepth 100000 in
set_option maxHeartbeats 4000000 in
theorem mo_fair (l : Launch) (D : va_G) (b : Nat → Nat) (c1 c2 c3 : ClassId) (v : ts_V) (th : Int32) (z : Nat → Int32) (hI : ts_I v) (x0 : Int32) : jj_M l D (ts_T c1 c2 c3) yX1_fair wsX1_fair rX1_fair [.ref (b 0), .int x0] (wm b c1 v th z) (Nat → Int32) (fun r _ => r = ts_if (ts_req (ts_rg x0 1 10) jj_IA) (nI (ts_fr v (ts_N x0) 0).2) (nI 0)) (fun u => wm b c1 (ts_if (ts_req (ts_rg x0 1 10) jj_IA) ((ts_fr v (ts_N x0) 0).1) v) (ts_cd 0 1 0 (ts_req (ts_rg x0 1 10) jj_IA)) u) := by
  obtain ⟨hn, hk, hth, hwk, hli, hgr⟩ := id hI
  refine jj_met (cc := cX1_fair) (nL := 3) (by decide) rfl (Nat.le_of_ble_eq_true rfl) (fun E Q hC hEl hED hD0 hret => ?_)
  show jj_J E 0 0 Q (wm b c1 v th z) 0 [(0, .ref (b 0)), (1, .int x0)] []
  refine jj_aload_n hC dX1_fair_0 rfl ?_
  refine jj_iconst hC dX1_fair_1 (v := nI 0) (by decide) ?_
  refine jj_put hC 0 0 dX1_fair_2 (by rfl) rfl (by decide) lkX1_fair_28 rfl hinX1_fair tyX1_ok nmX1 rfl rfl rfl rfl (Nat.le_of_ble_eq_true rfl) (wm_p0 ..) ?_
  refine jj_iload_n hC dX1_fair_5 rfl ?_
  refine jj_iconst hC dX1_fair_6 (v := nI 1) (by decide) ?_
  refine jj_bipush hC dX1_fair_7 (v := nI 10) (by decide) ?_
  refine jj_scalliN hC (mm_isInR _ _ c1 c2 c3 x0 1 10 (by decide) (by decide)) gX1_fair_X1_isIn rfl 3 (by decide +kernel) ⟨by decide, by decide, by decide, by decide⟩ rfl rfl rfl (Nat.le_of_ble_eq_true rfl) dX1_fair_9 (fun r u hp => ?_)
  obtain rfl := hp
  refine jj_if_neB hC dX1_fair_12 (tgt := 21) (by decide) (fun c12t => ?_) (fun c12f => ?_)
  · obtain ⟨j0, hj1, hj2, rfl⟩ := ts_rg_of c12t (by decide)
    have eNj0 : ts_N (nI j0) = j0 := ts_N_nI (by omega)
    refine jj_iconst hC dX1_fair_21 (v := nI 0) (by decide) ?_
    refine jj_istore_n hC dX1_fair_22 (by decide) [1, 2, 0] (lv' := [(0, _), (1, _), (2, .int _)]) rfl ?_
    refine jj_for (P := fun i => ∀ (w : ts_V) (z1 : Nat → Int32), ts_I w → ts_fr v j0 0 = ts_fr w (j0 - i) i → jj_J E 0 0 Q (wm b c1 w (nI 0) z1) 23 [(0, .ref (b 0)), (1, .int (nI j0)), (2, .int (nI i))] []) (N := j0) ?_ ?_ 0 (Nat.zero_le _) v z hI rfl
    · intro w z1 hW hF
      refine jj_iload_n hC dX1_fair_23 rfl ?_
      refine jj_iload_n hC dX1_fair_24 rfl ?_
      refine jj_icmp_geT hC dX1_fair_25 (tgt := 41) (by decide) (nI_le (Nat.le_refl _) (by omega)) ?_
      refine jj_iload_n hC dX1_fair_41 rfl ?_
      simp only [eNj0] at hret
      have eO : (ts_req (ts_rg (nI j0) 1 10) jj_IA) = none := by simp [ts_req, c12t]
      have eF : ts_fr v j0 0 = (w, j0) := by rw [hF, Nat.sub_self]; rfl
      rw [eO, eF] at hret
      exact hret _ _ _ z1 dX1_fair_42 (by rfl) rfl
    · intro i hi ih w z1 hW hF
      refine jj_iload_n hC dX1_fair_23 rfl ?_
      refine jj_iload_n hC dX1_fair_24 rfl ?_
      refine jj_icmp_geF hC dX1_fair_25 (tgt := 41) (by decide) (nI_ge hi (by omega)) ?_
      refine jj_aload_n hC dX1_fair_28 rfl ?_
      refine jj_calli hC (mm_swapsOnce _ _ b c1 c2 c3 w (nI 0) z1 hW) gX1_fair_X1_swapsOnce rfl 0 (by decide +kernel) ⟨by decide, by decide, by decide, by decide⟩ 0 1 (by rfl) rfl rfl rfl rfl (Nat.le_of_ble_eq_true rfl) dX1_fair_29 (fun r u hp => ?_)
      obtain rfl := hp
      revert u
      intro z2
      refine jj_if_eqB hC dX1_fair_32 (tgt := 41) (by decide) (fun c32t => ?_) (fun c32f => ?_)
      · have c32q : ts_first w = -1 := by simpa using c32t
        refine jj_ws (ws' := wm b c1 w (nI 0) z2) (by unfold ts_once; rw [if_pos c32q]) ?_
        refine jj_iload_n hC dX1_fair_41 rfl ?_
        simp only [eNj0] at hret
        have eO : (ts_req (ts_rg (nI j0) 1 10) jj_IA) = none := by simp [ts_req, c12t]
        have eF : ts_fr v j0 0 = (w, i) := by rw [hF, show j0 - i = (j0 - (i + 1)) + 1 by omega, ts_fr, if_pos c32q]
        rw [eO, eF] at hret
        exact hret _ _ _ z2 dX1_fair_42 (by rfl) rfl
      · refine jj_iincN hC dX1_fair_35 rfl (d9 := 1) (by decide) (by decide) [1, 2, 0] (lv' := [(0, _), (1, _), (2, .int _)]) rfl ?_
        refine jj_goto hC dX1_fair_38 (tgt := 23) (by decide) ?_
        have c32q : ¬ ts_first w = -1 := by simpa using c32f
        obtain ⟨c, o, x, y, -, -, hg, e1, e2, e3⟩ := ts_first_xy hW c32q
        have eo : ts_once w = ts_swp w x y := (ts_first_eq hW hg e1).2
        have hF2 : ts_fr v j0 0 = ts_fr (ts_swp w x y) (j0 - (i + 1)) (i + 1) := by rw [hF, show j0 - i = (j0 - (i + 1)) + 1 by omega, ts_fr, if_neg c32q, e2, e3]
        refine jj_ws (ws' := wm b c1 (ts_swp w x y) (nI 0) z2) (by rw [eo]) (ih _ _ (ts_I_swp hW x y hg.1 hg.2.1) hF2)
  · refine jj_aload_n hC dX1_fair_15 rfl ?_
    refine jj_iconst hC dX1_fair_16 (v := nI 1) (by decide) ?_
    refine jj_calli hC (mm_fail _ _ b c1 c2 c3 v (nI 0) z (nI 1)) gX1_fair_X1_fail rfl 1 (by decide +kernel) ⟨by decide, by decide, by decide, by decide⟩ 0 1 (by rfl) rfl rfl rfl rfl (Nat.le_of_ble_eq_true rfl) dX1_fair_17 (fun r u hp => ?_)
    obtain rfl := hp
    have eO : (ts_req (ts_rg x0 1 10) jj_IA) = some jj_IA := by
      first
        | (simp [ts_req, c12f]; done)
        | (simp [ts_req, c12f]
           repeat' split
           all_goals simp_all)
    rw [eO, ts_cdIA] at hret
    exact hret _ _ _ z dX1_fair_20 (by rfl) rfl
