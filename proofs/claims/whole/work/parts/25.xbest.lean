theorem ts_i32_nle {x y : Int32} (h : ¬ x ≤ y) : y < x := by
  rw [Int32.le_iff_toInt_le] at h
  rw [Int32.lt_iff_toInt_lt]
  omega
theorem ts_i32_nlt {x y : Int32} (h : x ≤ y) : ¬ y < x := by
  rw [Int32.le_iff_toInt_le] at h
  rw [Int32.lt_iff_toInt_lt]
  omega
theorem ts_home_ow {v : ts_V} {t c : Nat} (h : ts_home v t c = true) : ts_ow v t = c := by
  unfold ts_home at h
  rw [Bool.and_eq_true] at h
  simpa using h.1
theorem lkX0_bestSwapOf_75 : Cond.fieldLink RX0 75 RX0 (TX0 2).2.1 (TX0 2).2.2.1 ∈ wsX0_bestSwapOf := by decide +kernel
theorem hinX0_bestSwapOf : ∀ w ∈ wsX00, w ∈ wsX0_bestSwapOf := by decide +kernel
set_option maxRecDepth 100000 in
set_option maxHeartbeats 4000000 in
theorem xm_bestSwapOf (l : Launch) (D : va_G) (a : Nat → Nat) (c1 c2 c3 : ClassId) (v : ts_V) (g : Nat → Int32) (h : Int32) (hI : ts_I v) (c o : Nat) (hc : c < ts_k v) (ho : o < ts_k v) : jj_M l D (ts_T c1 c2 c3) yX0_bestSwapOf wsX0_bestSwapOf rX0_bestSwapOf [.ref (a 0), .int (nI c), .int (nI o)] (wx a c1 c2 v g h) ((Nat → Int32) × Int32) (fun x _ => x = ts_best v c o) (fun u => wx a c1 c2 v u.1 u.2) := by
  obtain ⟨hn, hk, hth, hwk, hli, hgr⟩ := id hI
  refine jj_met (cc := cX0_bestSwapOf) (nL := 11) (by decide) rfl (Nat.le_of_ble_eq_true rfl) (fun E Q hC hEl hED hD0 hret => ?_)
  show jj_J E 0 0 Q (wx a c1 c2 v g h) 0 [(0, .ref (a 0)), (1, .int (nI c)), (2, .int (nI o))] []
  refine jj_aload_n hC dX0_bestSwapOf_0 rfl ?_
  refine jj_iload_n hC dX0_bestSwapOf_1 rfl ?_
  refine jj_calli hC (xm_worthNow _ _ a c1 c2 c3 v g h hI c hc) gX0_bestSwapOf_X0_worthNow rfl 1 (by decide +kernel) ⟨by decide, by decide, by decide, by decide⟩ 0 0 (by rfl) rfl rfl rfl rfl (Nat.le_of_ble_eq_true rfl) dX0_bestSwapOf_2 (fun r u hp => ?_)
  obtain rfl := hp
  obtain ⟨g2, h2⟩ := u
  refine jj_istore_n hC dX0_bestSwapOf_5 (by decide) [1, 2, 3, 0] (lv' := [(0, _), (1, _), (2, _), (3, .int _)]) rfl ?_
  refine jj_aload_n hC dX0_bestSwapOf_6 rfl ?_
  refine jj_iload_n hC dX0_bestSwapOf_7 rfl ?_
  refine jj_calli hC (xm_worthNow _ _ a c1 c2 c3 v g2 h2 hI o ho) gX0_bestSwapOf_X0_worthNow rfl 1 (by decide +kernel) ⟨by decide, by decide, by decide, by decide⟩ 0 0 (by rfl) rfl rfl rfl rfl (Nat.le_of_ble_eq_true rfl) dX0_bestSwapOf_8 (fun r u hp => ?_)
  obtain rfl := hp
  obtain ⟨g3, h3⟩ := u
  refine jj_istore hC dX0_bestSwapOf_11 (by decide) [1, 2, 3, 4, 0] (lv' := [(0, _), (1, _), (2, _), (3, _), (4, .int _)]) rfl ?_
  refine jj_iconst hC dX0_bestSwapOf_13 (v := -1) (by decide) ?_
  refine jj_istore hC dX0_bestSwapOf_14 (by decide) [1, 2, 3, 4, 5, 0] (lv' := [(0, _), (1, _), (2, _), (3, _), (4, _), (5, .int _)]) rfl ?_
  refine jj_iconst hC dX0_bestSwapOf_16 (v := nI 0) (by decide) ?_
  refine jj_istore hC dX0_bestSwapOf_17 (by decide) [1, 2, 3, 4, 5, 6, 0] (lv' := [(0, _), (1, _), (2, _), (3, _), (4, _), (5, _), (6, .int _)]) rfl ?_
  refine jj_iconst hC dX0_bestSwapOf_19 (v := nI 0) (by decide) ?_
  refine jj_istore hC dX0_bestSwapOf_20 (by decide) [1, 2, 3, 4, 5, 6, 7, 0] (lv' := [(0, _), (1, _), (2, _), (3, _), (4, _), (5, _), (6, _), (7, .int _)]) rfl ?_
  refine jj_for (P := fun i => ∀ (g1 : Nat → Int32) (h1 : Int32), jj_J E 0 0 Q (wx a c1 c2 v g1 h1) 22 [(0, .ref (a 0)), (1, .int (nI c)), (2, .int (nI o)), (3, .int (nI (ts_now v c))), (4, .int (nI (ts_now v o))), (5, .int (ts_bout v c o i).1), (6, .int (ts_bout v c o i).2), (7, .int (nI i))] []) (N := ts_n v) ?_ ?_ 0 (Nat.zero_le _) _ _
  · intro g1 h1
    refine jj_iload hC dX0_bestSwapOf_22 rfl ?_
    refine jj_aload_n hC dX0_bestSwapOf_24 rfl ?_
    refine jj_get hC 0 2 dX0_bestSwapOf_25 (by rfl) rfl (by decide) lkX0_bestSwapOf_75 rfl hinX0_bestSwapOf (by rfl) ?_
    refine jj_icmp_geT hC dX0_bestSwapOf_28 (tgt := 160) (by decide) (nI_le (Nat.le_refl _) (by omega)) ?_
    refine jj_iload hC dX0_bestSwapOf_160 rfl ?_
    exact hret _ _ _ (g1, h1) dX0_bestSwapOf_162 (by rfl) rfl
  · intro i hi ih g1 h1
    refine jj_iload hC dX0_bestSwapOf_22 rfl ?_
    refine jj_aload_n hC dX0_bestSwapOf_24 rfl ?_
    refine jj_get hC 0 2 dX0_bestSwapOf_25 (by rfl) rfl (by decide) lkX0_bestSwapOf_75 rfl hinX0_bestSwapOf (by rfl) ?_
    refine jj_icmp_geF hC dX0_bestSwapOf_28 (tgt := 160) (by decide) (nI_ge hi (by omega)) ?_
    refine jj_aload_n hC dX0_bestSwapOf_31 rfl ?_
    refine jj_iload hC dX0_bestSwapOf_32 rfl ?_
    refine jj_iload_n hC dX0_bestSwapOf_34 rfl ?_
    refine jj_calli hC (xm_isAtHomeWith _ _ a c1 c2 c3 v g1 h1 hI i c hi (by omega)) gX0_bestSwapOf_X0_isAtHomeWith rfl 2 (by decide +kernel) ⟨by decide, by decide, by decide, by decide⟩ 0 0 (by rfl) rfl rfl rfl rfl (Nat.le_of_ble_eq_true rfl) dX0_bestSwapOf_35 (fun r u hp => ?_)
    obtain rfl := hp
    refine jj_if_neB hC dX0_bestSwapOf_38 (tgt := 44) (by decide) (fun c38 => ?_) (fun c38 => ?_)
    · refine jj_iconst hC dX0_bestSwapOf_44 (v := nI 0) (by decide) ?_
      refine jj_istore hC dX0_bestSwapOf_45 (by decide) [1, 2, 3, 4, 5, 6, 7, 8, 0] (lv' := [(0, _), (1, _), (2, _), (3, _), (4, _), (5, _), (6, _), (7, _), (8, .int _)]) rfl ?_
      refine jj_for (P := fun j => ∀ (g1 : Nat → Int32) (h1 : Int32), jj_J E 0 0 Q (wx a c1 c2 v g1 h1) 47 [(0, .ref (a 0)), (1, .int (nI c)), (2, .int (nI o)), (3, .int (nI (ts_now v c))), (4, .int (nI (ts_now v o))), (5, .int (ts_bin v c o i (ts_bout v c o i) j).1), (6, .int (ts_bin v c o i (ts_bout v c o i) j).2), (7, .int (nI i)), (8, .int (nI j))] []) (N := ts_n v) ?_ ?_ 0 (Nat.zero_le _) _ _
      · intro g1 h1
        refine jj_iload hC dX0_bestSwapOf_47 rfl ?_
        refine jj_aload_n hC dX0_bestSwapOf_49 rfl ?_
        refine jj_get hC 0 2 dX0_bestSwapOf_50 (by rfl) rfl (by decide) lkX0_bestSwapOf_75 rfl hinX0_bestSwapOf (by rfl) ?_
        refine jj_icmp_geT hC dX0_bestSwapOf_53 (tgt := 154) (by decide) (nI_le (Nat.le_refl _) (by omega)) ?_
        refine jj_iincN hC dX0_bestSwapOf_154 rfl (d9 := 1) (by decide) (by decide) [1, 2, 3, 4, 5, 6, 7, 0, 8] (lv' := [(0, _), (1, _), (2, _), (3, _), (4, _), (5, _), (6, _), (7, .int _), (8, _)]) rfl ?_
        refine jj_goto hC dX0_bestSwapOf_157 (tgt := 22) (by decide) ?_
        refine jj_sub [0, 1, 2, 3, 4, 5, 6, 7] (lv' := [(0, _), (1, _), (2, _), (3, _), (4, _), (5, _), (6, _), (7, _)]) rfl ?_
        have e : ts_bout v c o (i + 1) = ts_bin v c o i (ts_bout v c o i) (ts_n v) := by rw [ts_bout, if_pos c38]
        rw [e] at ih
        exact ih _ _
      · intro j hj ih2 g1 h1
        refine jj_iload hC dX0_bestSwapOf_47 rfl ?_
        refine jj_aload_n hC dX0_bestSwapOf_49 rfl ?_
        refine jj_get hC 0 2 dX0_bestSwapOf_50 (by rfl) rfl (by decide) lkX0_bestSwapOf_75 rfl hinX0_bestSwapOf (by rfl) ?_
        refine jj_icmp_geF hC dX0_bestSwapOf_53 (tgt := 154) (by decide) (nI_ge hj (by omega)) ?_
        refine jj_aload_n hC dX0_bestSwapOf_56 rfl ?_
        refine jj_iload hC dX0_bestSwapOf_57 rfl ?_
        refine jj_iload_n hC dX0_bestSwapOf_59 rfl ?_
        refine jj_calli hC (xm_isAtHomeWith _ _ a c1 c2 c3 v g1 h1 hI j o hj (by omega)) gX0_bestSwapOf_X0_isAtHomeWith rfl 2 (by decide +kernel) ⟨by decide, by decide, by decide, by decide⟩ 0 0 (by rfl) rfl rfl rfl rfl (Nat.le_of_ble_eq_true rfl) dX0_bestSwapOf_60 (fun r u hp => ?_)
        obtain rfl := hp
        refine jj_if_neB hC dX0_bestSwapOf_63 (tgt := 69) (by decide) (fun c63 => ?_) (fun c63 => ?_)
        · refine jj_aload_n hC dX0_bestSwapOf_69 rfl ?_
          refine jj_iload_n hC dX0_bestSwapOf_70 rfl ?_
          refine jj_iload hC dX0_bestSwapOf_71 rfl ?_
          refine jj_iload hC dX0_bestSwapOf_73 rfl ?_
          refine jj_calli hC (xm_worthAfter _ _ a c1 c2 c3 v g1 h1 hI c hc i j (by omega) (by omega)) gX0_bestSwapOf_X0_worthAfter rfl 3 (by decide +kernel) ⟨by decide, by decide, by decide, by decide⟩ 0 0 (by rfl) rfl rfl rfl rfl (Nat.le_of_ble_eq_true rfl) dX0_bestSwapOf_75 (fun r u hp => ?_)
          obtain rfl := hp
          obtain ⟨g3, h3⟩ := u
          refine jj_iload_n hC dX0_bestSwapOf_78 rfl ?_
          refine jj_isub hC dX0_bestSwapOf_79 ?_
          refine jj_topi (y := ts_gain v i j) (by unfold ts_gain; rw [ts_home_ow c38]) ?_
          refine jj_istore hC dX0_bestSwapOf_80 (by decide) [1, 2, 3, 4, 5, 6, 7, 8, 9, 0] (lv' := [(0, _), (1, _), (2, _), (3, _), (4, _), (5, _), (6, _), (7, _), (8, _), (9, .int _)]) rfl ?_
          refine jj_aload_n hC dX0_bestSwapOf_82 rfl ?_
          refine jj_iload hC dX0_bestSwapOf_83 rfl ?_
          refine jj_iload_n hC dX0_bestSwapOf_85 rfl ?_
          refine jj_iload_n hC dX0_bestSwapOf_86 rfl ?_
          refine jj_calli hC (xm_isEnough _ _ a c1 c2 c3 v g3 h3 (ts_gain v i j) c o (by omega) (by omega)) gX0_bestSwapOf_X0_isEnough rfl 3 (by decide +kernel) ⟨by decide, by decide, by decide, by decide⟩ 0 0 (by rfl) rfl rfl rfl rfl (Nat.le_of_ble_eq_true rfl) dX0_bestSwapOf_87 (fun r u hp => ?_)
          obtain rfl := hp
          refine jj_if_neB hC dX0_bestSwapOf_90 (tgt := 96) (by decide) (fun c90 => ?_) (fun c90 => ?_)
          · refine jj_aload_n hC dX0_bestSwapOf_96 rfl ?_
            refine jj_iload_n hC dX0_bestSwapOf_97 rfl ?_
            refine jj_iload hC dX0_bestSwapOf_98 rfl ?_
            refine jj_iload hC dX0_bestSwapOf_100 rfl ?_
            refine jj_calli hC (xm_worthAfter _ _ a c1 c2 c3 v g3 h3 hI o ho j i (by omega) (by omega)) gX0_bestSwapOf_X0_worthAfter rfl 3 (by decide +kernel) ⟨by decide, by decide, by decide, by decide⟩ 0 0 (by rfl) rfl rfl rfl rfl (Nat.le_of_ble_eq_true rfl) dX0_bestSwapOf_102 (fun r u hp => ?_)
            obtain rfl := hp
            obtain ⟨g4, h4⟩ := u
            refine jj_iload hC dX0_bestSwapOf_105 rfl ?_
            refine jj_isub hC dX0_bestSwapOf_107 ?_
            refine jj_topi (y := ts_gain v j i) (by unfold ts_gain; rw [ts_home_ow c63]) ?_
            refine jj_istore hC dX0_bestSwapOf_108 (by decide) [1, 2, 3, 4, 5, 6, 7, 8, 9, 10, 0] (lv' := [(0, _), (1, _), (2, _), (3, _), (4, _), (5, _), (6, _), (7, _), (8, _), (9, _), (10, .int _)]) rfl ?_
            refine jj_aload_n hC dX0_bestSwapOf_110 rfl ?_
            refine jj_iload hC dX0_bestSwapOf_111 rfl ?_
            refine jj_iload_n hC dX0_bestSwapOf_113 rfl ?_
            refine jj_iload_n hC dX0_bestSwapOf_114 rfl ?_
            refine jj_calli hC (xm_isEnough _ _ a c1 c2 c3 v g4 h4 (ts_gain v j i) o c (by omega) (by omega)) gX0_bestSwapOf_X0_isEnough rfl 3 (by decide +kernel) ⟨by decide, by decide, by decide, by decide⟩ 0 0 (by rfl) rfl rfl rfl rfl (Nat.le_of_ble_eq_true rfl) dX0_bestSwapOf_115 (fun r u hp => ?_)
            obtain rfl := hp
            refine jj_if_eqB hC dX0_bestSwapOf_118 (tgt := 148) (by decide) (fun c118 => ?_) (fun c118 => ?_)
            · refine jj_iincN hC dX0_bestSwapOf_148 rfl (d9 := 1) (by decide) (by decide) [1, 2, 3, 4, 5, 6, 7, 8, 0, 9, 10] (lv' := [(0, _), (1, _), (2, _), (3, _), (4, _), (5, _), (6, _), (7, _), (8, .int _), (9, _), (10, _)]) rfl ?_
              refine jj_goto hC dX0_bestSwapOf_151 (tgt := 47) (by decide) ?_
              refine jj_sub [0, 1, 2, 3, 4, 5, 6, 7, 8] (lv' := [(0, _), (1, _), (2, _), (3, _), (4, _), (5, _), (6, _), (7, _), (8, _)]) rfl ?_
              first
                | (rw [show ts_bin v c o i (ts_bout v c o i) (j + 1) = ts_bin v c o i (ts_bout v c o i) j from if_neg (fun q => by rw [c118] at q; exact absurd q.2.2.1 Bool.false_ne_true)] at ih2; exact ih2 _ _)
            · refine jj_iload hC dX0_bestSwapOf_121 rfl ?_
              refine jj_iload hC dX0_bestSwapOf_123 rfl ?_
              refine jj_iadd hC dX0_bestSwapOf_125 ?_
              refine jj_iload hC dX0_bestSwapOf_126 rfl ?_
              refine jj_icmp_le hC dX0_bestSwapOf_128 (tgt := 148) (by decide) (fun c128 => ?_) (fun c128 => ?_)
              · refine jj_iincN hC dX0_bestSwapOf_148 rfl (d9 := 1) (by decide) (by decide) [1, 2, 3, 4, 5, 6, 7, 8, 0, 9, 10] (lv' := [(0, _), (1, _), (2, _), (3, _), (4, _), (5, _), (6, _), (7, _), (8, .int _), (9, _), (10, _)]) rfl ?_
                refine jj_goto hC dX0_bestSwapOf_151 (tgt := 47) (by decide) ?_
                refine jj_sub [0, 1, 2, 3, 4, 5, 6, 7, 8] (lv' := [(0, _), (1, _), (2, _), (3, _), (4, _), (5, _), (6, _), (7, _), (8, _)]) rfl ?_
                first
                  | (rw [show ts_bin v c o i (ts_bout v c o i) (j + 1) = (nI (36 * i + j), ts_gain v i j + ts_gain v j i) from if_pos ⟨c63, c90, c118, ts_i32_nle c128⟩] at ih2; exact ih2 _ _)
                  | (rw [show ts_bin v c o i (ts_bout v c o i) (j + 1) = ts_bin v c o i (ts_bout v c o i) j from if_neg (fun q => ts_i32_nlt c128 q.2.2.2)] at ih2; exact ih2 _ _)
              · refine jj_iload hC dX0_bestSwapOf_131 rfl ?_
                refine jj_bipush hC dX0_bestSwapOf_133 (v := nI 36) (by decide) ?_
                first | refine jj_imulN hC dX0_bestSwapOf_135 ?_ | refine jj_imul hC dX0_bestSwapOf_135 ?_
                refine jj_iload hC dX0_bestSwapOf_136 rfl ?_
                first | refine jj_iaddN hC dX0_bestSwapOf_138 ?_ | refine jj_iadd hC dX0_bestSwapOf_138 ?_
                refine jj_topi (y := nI (36 * i + j)) (by rw [Nat.mul_comm]) ?_
                refine jj_istore hC dX0_bestSwapOf_139 (by decide) [1, 2, 3, 4, 5, 0, 6, 7, 8, 9, 10] (lv' := [(0, _), (1, _), (2, _), (3, _), (4, _), (5, .int _), (6, _), (7, _), (8, _), (9, _), (10, _)]) rfl ?_
                refine jj_iload hC dX0_bestSwapOf_141 rfl ?_
                refine jj_iload hC dX0_bestSwapOf_143 rfl ?_
                refine jj_iadd hC dX0_bestSwapOf_145 ?_
                refine jj_istore hC dX0_bestSwapOf_146 (by decide) [1, 2, 3, 4, 5, 6, 0, 7, 8, 9, 10] (lv' := [(0, _), (1, _), (2, _), (3, _), (4, _), (5, _), (6, .int _), (7, _), (8, _), (9, _), (10, _)]) rfl ?_
                refine jj_iincN hC dX0_bestSwapOf_148 rfl (d9 := 1) (by decide) (by decide) [1, 2, 3, 4, 5, 6, 7, 8, 0, 9, 10] (lv' := [(0, _), (1, _), (2, _), (3, _), (4, _), (5, _), (6, _), (7, _), (8, .int _), (9, _), (10, _)]) rfl ?_
                refine jj_goto hC dX0_bestSwapOf_151 (tgt := 47) (by decide) ?_
                refine jj_sub [0, 1, 2, 3, 4, 5, 6, 7, 8] (lv' := [(0, _), (1, _), (2, _), (3, _), (4, _), (5, _), (6, _), (7, _), (8, _)]) rfl ?_
                first
                  | (rw [show ts_bin v c o i (ts_bout v c o i) (j + 1) = (nI (36 * i + j), ts_gain v i j + ts_gain v j i) from if_pos ⟨c63, c90, c118, ts_i32_nle c128⟩] at ih2; exact ih2 _ _)
                  | (rw [show ts_bin v c o i (ts_bout v c o i) (j + 1) = ts_bin v c o i (ts_bout v c o i) j from if_neg (fun q => ts_i32_nlt c128 q.2.2.2)] at ih2; exact ih2 _ _)
          · refine jj_goto hC dX0_bestSwapOf_93 (tgt := 148) (by decide) ?_
            refine jj_iincN hC dX0_bestSwapOf_148 rfl (d9 := 1) (by decide) (by decide) [1, 2, 3, 4, 5, 6, 7, 8, 0, 9] (lv' := [(0, _), (1, _), (2, _), (3, _), (4, _), (5, _), (6, _), (7, _), (8, .int _), (9, _)]) rfl ?_
            refine jj_goto hC dX0_bestSwapOf_151 (tgt := 47) (by decide) ?_
            refine jj_sub [0, 1, 2, 3, 4, 5, 6, 7, 8] (lv' := [(0, _), (1, _), (2, _), (3, _), (4, _), (5, _), (6, _), (7, _), (8, _)]) rfl ?_
            first
              | (rw [show ts_bin v c o i (ts_bout v c o i) (j + 1) = ts_bin v c o i (ts_bout v c o i) j from if_neg (fun q => by rw [c90] at q; exact absurd q.2.1 Bool.false_ne_true)] at ih2; exact ih2 _ _)
        · refine jj_goto hC dX0_bestSwapOf_66 (tgt := 148) (by decide) ?_
          refine jj_iincN hC dX0_bestSwapOf_148 rfl (d9 := 1) (by decide) (by decide) [1, 2, 3, 4, 5, 6, 7, 8, 0] (lv' := [(0, _), (1, _), (2, _), (3, _), (4, _), (5, _), (6, _), (7, _), (8, .int _)]) rfl ?_
          refine jj_goto hC dX0_bestSwapOf_151 (tgt := 47) (by decide) ?_
          refine jj_sub [0, 1, 2, 3, 4, 5, 6, 7, 8] (lv' := [(0, _), (1, _), (2, _), (3, _), (4, _), (5, _), (6, _), (7, _), (8, _)]) rfl ?_
          first
            | (rw [show ts_bin v c o i (ts_bout v c o i) (j + 1) = ts_bin v c o i (ts_bout v c o i) j from if_neg (fun q => by rw [c63] at q; exact absurd q.1 Bool.false_ne_true)] at ih2; exact ih2 _ _)
    · refine jj_goto hC dX0_bestSwapOf_41 (tgt := 154) (by decide) ?_
      refine jj_iincN hC dX0_bestSwapOf_154 rfl (d9 := 1) (by decide) (by decide) [1, 2, 3, 4, 5, 6, 7, 0] (lv' := [(0, _), (1, _), (2, _), (3, _), (4, _), (5, _), (6, _), (7, .int _)]) rfl ?_
      refine jj_goto hC dX0_bestSwapOf_157 (tgt := 22) (by decide) ?_
      have e : ts_bout v c o (i + 1) = ts_bout v c o i := by rw [ts_bout, if_neg (by rw [c38]; exact Bool.false_ne_true)]
      rw [e] at ih
      exact ih _ _
/-- the first pair that has a swap: its swap, else -1 -/
def ts_fin (v : ts_V) (c : Nat) : Nat → Nat → Int32
  | 0, _ => -1
  | d + 1, o => if ts_best v c o ≠ -1 then ts_best v c o else ts_fin v c d (o + 1)
def ts_fout (v : ts_V) : Nat → Nat → Int32
  | 0, _ => -1
  | d + 1, c => if ts_fin v c (ts_k v - (c + 1)) (c + 1) ≠ -1 then ts_fin v c (ts_k v - (c + 1)) (c + 1) else ts_fout v d (c + 1)
def ts_first (v : ts_V) : Int32 := ts_fout v (ts_k v) 0
theorem ts_fin_s {v : ts_V} {c o : Nat} (h : o < ts_k v) : ts_fin v c (ts_k v - o) o = if ts_best v c o ≠ -1 then ts_best v c o else ts_fin v c (ts_k v - (o + 1)) (o + 1) := by
  rw [show ts_k v - o = (ts_k v - (o + 1)) + 1 by omega]
  rfl
theorem ts_fout_s {v : ts_V} {c : Nat} (h : c < ts_k v) : ts_fout v (ts_k v - c) c = if ts_fin v c (ts_k v - (c + 1)) (c + 1) ≠ -1 then ts_fin v c (ts_k v - (c + 1)) (c + 1) else ts_fout v (ts_k v - (c + 1)) (c + 1) := by
  rw [show ts_k v - c = (ts_k v - (c + 1)) + 1 by omega]
  rfl
theorem lkX0_bestSwapOfFirstPair_45 : Cond.fieldLink RX0 45 RX0 (TX0 1).2.1 (TX0 1).2.2.1 ∈ wsX0_bestSwapOfFirstPair := by decide +kernel
theorem hinX0_bestSwapOfFirstPair : ∀ w ∈ wsX00, w ∈ wsX0_bestSwapOfFirstPair := by decide +kernel
set_option maxRecDepth 100000 in
set_option maxHeartbeats 4000000 in
theorem xm_bestSwapOfFirstPair (l : Launch) (D : va_G) (a : Nat → Nat) (c1 c2 c3 : ClassId) (v : ts_V) (g : Nat → Int32) (h : Int32) (hI : ts_I v) : jj_M l D (ts_T c1 c2 c3) yX0_bestSwapOfFirstPair wsX0_bestSwapOfFirstPair rX0_bestSwapOfFirstPair [.ref (a 0)] (wx a c1 c2 v g h) ((Nat → Int32) × Int32) (fun x _ => x = ts_first v) (fun u => wx a c1 c2 v u.1 u.2) := by
  obtain ⟨hn, hk, hth, hwk, hli, hgr⟩ := id hI
  refine jj_met (cc := cX0_bestSwapOfFirstPair) (nL := 4) (by decide) rfl (Nat.le_of_ble_eq_true rfl) (fun E Q hC hEl hED hD0 hret => ?_)
  show jj_J E 0 0 Q (wx a c1 c2 v g h) 0 [(0, .ref (a 0))] []
  refine jj_iconst hC dX0_bestSwapOfFirstPair_0 (v := nI 0) (by decide) ?_
  refine jj_istore_n hC dX0_bestSwapOfFirstPair_1 (by decide) [1, 0] (lv' := [(0, _), (1, .int _)]) rfl ?_
  refine jj_for (P := fun i => ts_first v = ts_fout v (ts_k v - i) i → ∀ (g1 : Nat → Int32) (h1 : Int32), jj_J E 0 0 Q (wx a c1 c2 v g1 h1) 2 [(0, .ref (a 0)), (1, .int (nI i))] []) (N := ts_k v) ?_ ?_ 0 (Nat.zero_le _) rfl _ _
  · intro hF g1 h1
    refine jj_iload_n hC dX0_bestSwapOfFirstPair_2 rfl ?_
    refine jj_aload_n hC dX0_bestSwapOfFirstPair_3 rfl ?_
    refine jj_get hC 0 1 dX0_bestSwapOfFirstPair_4 (by rfl) rfl (by decide) lkX0_bestSwapOfFirstPair_45 rfl hinX0_bestSwapOfFirstPair (by rfl) ?_
    refine jj_icmp_geT hC dX0_bestSwapOfFirstPair_7 (tgt := 48) (by decide) (nI_le (Nat.le_refl _) (by omega)) ?_
    refine jj_iconst hC dX0_bestSwapOfFirstPair_48 (v := -1) (by decide) ?_
    exact hret _ _ _ (g1, h1) dX0_bestSwapOfFirstPair_49 (by rfl) (by rw [hF, Nat.sub_self]; rfl)
  · intro i hi ih hF g1 h1
    refine jj_iload_n hC dX0_bestSwapOfFirstPair_2 rfl ?_
    refine jj_aload_n hC dX0_bestSwapOfFirstPair_3 rfl ?_
    refine jj_get hC 0 1 dX0_bestSwapOfFirstPair_4 (by rfl) rfl (by decide) lkX0_bestSwapOfFirstPair_45 rfl hinX0_bestSwapOfFirstPair (by rfl) ?_
    refine jj_icmp_geF hC dX0_bestSwapOfFirstPair_7 (tgt := 48) (by decide) (nI_ge hi (by omega)) ?_
    refine jj_iload_n hC dX0_bestSwapOfFirstPair_10 rfl ?_
    refine jj_iconst hC dX0_bestSwapOfFirstPair_11 (v := nI 1) (by decide) ?_
    first | refine jj_iaddN hC dX0_bestSwapOfFirstPair_12 ?_ | refine jj_iadd hC dX0_bestSwapOfFirstPair_12 ?_
    refine jj_istore_n hC dX0_bestSwapOfFirstPair_13 (by decide) [1, 2, 0] (lv' := [(0, _), (1, _), (2, .int _)]) rfl ?_
    refine jj_for (P := fun j => ts_fin v i (ts_k v - (i + 1)) (i + 1) = ts_fin v i (ts_k v - j) j → ∀ (g1 : Nat → Int32) (h1 : Int32), jj_J E 0 0 Q (wx a c1 c2 v g1 h1) 14 [(0, .ref (a 0)), (1, .int (nI i)), (2, .int (nI j))] []) (N := ts_k v) ?_ ?_ (i + 1) hi rfl _ _
    · intro hfi g1 h1
      refine jj_iload_n hC dX0_bestSwapOfFirstPair_14 rfl ?_
      refine jj_aload_n hC dX0_bestSwapOfFirstPair_15 rfl ?_
      refine jj_get hC 0 1 dX0_bestSwapOfFirstPair_16 (by rfl) rfl (by decide) lkX0_bestSwapOfFirstPair_45 rfl hinX0_bestSwapOfFirstPair (by rfl) ?_
      refine jj_icmp_geT hC dX0_bestSwapOfFirstPair_19 (tgt := 42) (by decide) (nI_le (Nat.le_refl _) (by omega)) ?_
      refine jj_iincN hC dX0_bestSwapOfFirstPair_42 rfl (d9 := 1) (by decide) (by decide) [1, 0, 2] (lv' := [(0, _), (1, .int _), (2, _)]) rfl ?_
      refine jj_goto hC dX0_bestSwapOfFirstPair_45 (tgt := 2) (by decide) ?_
      refine jj_sub [0, 1] (lv' := [(0, _), (1, _)]) rfl (ih ?_ _ _)
      rw [hF, ts_fout_s hi, if_neg (by rw [hfi, Nat.sub_self]; exact fun q => q rfl)]
    · intro j hj ih2 hfi g1 h1
      refine jj_iload_n hC dX0_bestSwapOfFirstPair_14 rfl ?_
      refine jj_aload_n hC dX0_bestSwapOfFirstPair_15 rfl ?_
      refine jj_get hC 0 1 dX0_bestSwapOfFirstPair_16 (by rfl) rfl (by decide) lkX0_bestSwapOfFirstPair_45 rfl hinX0_bestSwapOfFirstPair (by rfl) ?_
      refine jj_icmp_geF hC dX0_bestSwapOfFirstPair_19 (tgt := 42) (by decide) (nI_ge hj (by omega)) ?_
      refine jj_aload_n hC dX0_bestSwapOfFirstPair_22 rfl ?_
      refine jj_iload_n hC dX0_bestSwapOfFirstPair_23 rfl ?_
      refine jj_iload_n hC dX0_bestSwapOfFirstPair_24 rfl ?_
      refine jj_calli hC (xm_bestSwapOf _ _ a c1 c2 c3 v g1 h1 hI i j hi hj) gX0_bestSwapOfFirstPair_X0_bestSwapOf rfl 2 (by decide +kernel) ⟨by decide, by decide, by decide, by decide⟩ 0 0 (by rfl) rfl rfl rfl rfl (Nat.le_of_ble_eq_true rfl) dX0_bestSwapOfFirstPair_25 (fun r u hp => ?_)
      obtain rfl := hp
      obtain ⟨g2, h2⟩ := u
      refine jj_istore_n hC dX0_bestSwapOfFirstPair_28 (by decide) [1, 2, 3, 0] (lv' := [(0, _), (1, _), (2, _), (3, .int _)]) rfl ?_
      refine jj_iload_n hC dX0_bestSwapOfFirstPair_29 rfl ?_
      refine jj_iconst hC dX0_bestSwapOfFirstPair_30 (v := -1) (by decide) ?_
      refine jj_icmp_eq hC dX0_bestSwapOfFirstPair_31 (tgt := 36) (by decide) (fun c31 => ?_) (fun c31 => ?_)
      · refine jj_iincN hC dX0_bestSwapOfFirstPair_36 rfl (d9 := 1) (by decide) (by decide) [1, 2, 0, 3] (lv' := [(0, _), (1, _), (2, .int _), (3, _)]) rfl ?_
        refine jj_goto hC dX0_bestSwapOfFirstPair_39 (tgt := 14) (by decide) ?_
        refine jj_sub [0, 1, 2] (lv' := [(0, _), (1, _), (2, _)]) rfl (ih2 ?_ _ _)
        rw [hfi, ts_fin_s hj, if_neg (fun q => q c31)]
      · refine jj_iload_n hC dX0_bestSwapOfFirstPair_34 rfl ?_
        exact hret _ _ _ (g2, h2) dX0_bestSwapOfFirstPair_35 (by rfl) (by rw [hF, ts_fout_s hi, hfi, ts_fin_s hj, if_pos c31, if_pos c31])
theorem lkX0_numbersFound_75 : Cond.fieldLink RX0 75 RX0 (TX0 2).2.1 (TX0 2).2.2.1 ∈ wsX0_numbersFound := by decide +kernel
theorem lkX0_numbersFound_9 : Cond.fieldLink RX0 9 RX0 (TX0 5).2.1 (TX0 5).2.2.1 ∈ wsX0_numbersFound := by decide +kernel
theorem lkX0_numbersFound_13 : Cond.fieldLink RX0 13 RX0 (TX0 6).2.1 (TX0 6).2.2.1 ∈ wsX0_numbersFound := by decide +kernel
theorem hinX0_numbersFound : ∀ w ∈ wsX00, w ∈ wsX0_numbersFound := by decide +kernel
set_option maxRecDepth 100000 in
set_option maxHeartbeats 4000000 in
theorem xm_numbersFound (l : Launch) (D : va_G) (a : Nat → Nat) (c1 c2 c3 : ClassId) (v : ts_V) (g : Nat → Int32) (h : Int32) (hI : ts_I v) (s : Nat) (hs : s < 8) : jj_M l D (ts_T c1 c2 c3) yX0_numbersFound wsX0_numbersFound rX0_numbersFound [.ref (a 0), .int (nI s)] (wx a c1 c2 v g h) Unit (fun x _ => x = ts_or (fun t => ts_se v t == s) (ts_nu v) (ts_n v)) (fun _ => wx a c1 c2 v g h) := by
  obtain ⟨hn, hk, hth, hwk, hli, hgr⟩ := id hI
  refine jj_met (cc := cX0_numbersFound) (nL := 4) (by decide) rfl (Nat.le_of_ble_eq_true rfl) (fun E Q hC hEl hED hD0 hret => ?_)
  show jj_J E 0 0 Q (wx a c1 c2 v g h) 0 [(0, .ref (a 0)), (1, .int (nI s))] []
  refine jj_iconst hC dX0_numbersFound_0 (v := nI 0) (by decide) ?_
  refine jj_istore_n hC dX0_numbersFound_1 (by decide) [1, 2, 0] (lv' := [(0, _), (1, _), (2, .int _)]) rfl ?_
  refine jj_iconst hC dX0_numbersFound_2 (v := nI 0) (by decide) ?_
  refine jj_istore_n hC dX0_numbersFound_3 (by decide) [1, 2, 3, 0] (lv' := [(0, _), (1, _), (2, _), (3, .int _)]) rfl ?_
  refine jj_for (P := fun i => jj_J E 0 0 Q (wx a c1 c2 v g h) 4 [(0, .ref (a 0)), (1, .int (nI s)), (2, .int (ts_or (fun t => ts_se v t == s) (ts_nu v) i)), (3, .int (nI i))] []) (N := ts_n v) ?_ ?_ 0 (Nat.zero_le _)
  · refine jj_iload_n hC dX0_numbersFound_4 rfl ?_
    refine jj_aload_n hC dX0_numbersFound_5 rfl ?_
    refine jj_get hC 0 2 dX0_numbersFound_6 (by rfl) rfl (by decide) lkX0_numbersFound_75 rfl hinX0_numbersFound (by rfl) ?_
    refine jj_icmp_geT hC dX0_numbersFound_9 (tgt := 39) (by decide) (nI_le (Nat.le_refl _) (by omega)) ?_
    refine jj_iload_n hC dX0_numbersFound_39 rfl ?_
    exact hret _ _ _ () dX0_numbersFound_40 (by rfl) rfl
  · intro i hi ih
    have hb := hth i hi
    refine jj_iload_n hC dX0_numbersFound_4 rfl ?_
    refine jj_aload_n hC dX0_numbersFound_5 rfl ?_
    refine jj_get hC 0 2 dX0_numbersFound_6 (by rfl) rfl (by decide) lkX0_numbersFound_75 rfl hinX0_numbersFound (by rfl) ?_
    refine jj_icmp_geF hC dX0_numbersFound_9 (tgt := 39) (by decide) (nI_ge hi (by omega)) ?_
    refine jj_aload_n hC dX0_numbersFound_12 rfl ?_
    refine jj_get hC 0 5 dX0_numbersFound_13 (by rfl) rfl (by decide) lkX0_numbersFound_9 rfl hinX0_numbersFound (by rfl) ?_
    refine jj_iload_n hC dX0_numbersFound_16 rfl ?_
    refine jj_iald hC 1 0 dX0_numbersFound_17 (wx_g1 ..) rfl (by omega) (by decide) ?_
    refine jj_iload_n hC dX0_numbersFound_18 rfl ?_
    first | refine jj_icmp_neN hC dX0_numbersFound_19 (tgt := 33) (by decide) (by omega) (by omega) (fun c19 => ?_) (fun c19 => ?_) | refine jj_icmp_ne hC dX0_numbersFound_19 (tgt := 33) (by decide) (fun c19 => ?_) (fun c19 => ?_)
    · refine jj_iincN hC dX0_numbersFound_33 rfl (d9 := 1) (by decide) (by decide) [1, 2, 3, 0] (lv' := [(0, _), (1, _), (2, _), (3, .int _)]) rfl ?_
      refine jj_goto hC dX0_numbersFound_36 (tgt := 4) (by decide) ?_
      first | (rw [show ts_or (fun t => ts_se v t == s) (ts_nu v) (i + 1) = ts_or (fun t => ts_se v t == s) (ts_nu v) i ||| ((1 : Int32) <<< (nI (ts_nu v i) &&& 31)) by simp [ts_or, c19]] at ih; exact ih) | (rw [show ts_or (fun t => ts_se v t == s) (ts_nu v) (i + 1) = ts_or (fun t => ts_se v t == s) (ts_nu v) i by simp [ts_or, c19]] at ih; exact ih)
    · refine jj_iload_n hC dX0_numbersFound_22 rfl ?_
      refine jj_iconst hC dX0_numbersFound_23 (v := nI 1) (by decide) ?_
      refine jj_aload_n hC dX0_numbersFound_24 rfl ?_
      refine jj_get hC 0 6 dX0_numbersFound_25 (by rfl) rfl (by decide) lkX0_numbersFound_13 rfl hinX0_numbersFound (by rfl) ?_
      refine jj_iload_n hC dX0_numbersFound_28 rfl ?_
      refine jj_iald hC 2 0 dX0_numbersFound_29 (wx_g2 ..) rfl (by omega) (by decide) ?_
      refine jj_ishl hC dX0_numbersFound_30 ?_
      refine jj_ior hC dX0_numbersFound_31 ?_
      refine jj_istore_n hC dX0_numbersFound_32 (by decide) [1, 2, 0, 3] (lv' := [(0, _), (1, _), (2, .int _), (3, _)]) rfl ?_
      refine jj_iincN hC dX0_numbersFound_33 rfl (d9 := 1) (by decide) (by decide) [1, 2, 3, 0] (lv' := [(0, _), (1, _), (2, _), (3, .int _)]) rfl ?_
      refine jj_goto hC dX0_numbersFound_36 (tgt := 4) (by decide) ?_
      first | (rw [show ts_or (fun t => ts_se v t == s) (ts_nu v) (i + 1) = ts_or (fun t => ts_se v t == s) (ts_nu v) i ||| ((1 : Int32) <<< (nI (ts_nu v i) &&& 31)) by simp [ts_or, c19]] at ih; exact ih) | (rw [show ts_or (fun t => ts_se v t == s) (ts_nu v) (i + 1) = ts_or (fun t => ts_se v t == s) (ts_nu v) i by simp [ts_or, c19]] at ih; exact ih)
theorem lkX0_numbersShown_75 : Cond.fieldLink RX0 75 RX0 (TX0 2).2.1 (TX0 2).2.2.1 ∈ wsX0_numbersShown := by decide +kernel
theorem lkX0_numbersShown_9 : Cond.fieldLink RX0 9 RX0 (TX0 5).2.1 (TX0 5).2.2.1 ∈ wsX0_numbersShown := by decide +kernel
theorem lkX0_numbersShown_13 : Cond.fieldLink RX0 13 RX0 (TX0 6).2.1 (TX0 6).2.2.1 ∈ wsX0_numbersShown := by decide +kernel
theorem hinX0_numbersShown : ∀ w ∈ wsX00, w ∈ wsX0_numbersShown := by decide +kernel
set_option maxRecDepth 100000 in
set_option maxHeartbeats 4000000 in
theorem xm_numbersShown (l : Launch) (D : va_G) (a : Nat → Nat) (c1 c2 c3 : ClassId) (v : ts_V) (g : Nat → Int32) (h : Int32) (hI : ts_I v) (s : Nat) (hs : s < 8) : jj_M l D (ts_T c1 c2 c3) yX0_numbersShown wsX0_numbersShown rX0_numbersShown [.ref (a 0), .int (nI s)] (wx a c1 c2 v g h) Unit (fun x _ => x = ts_or (fun t => ts_se v t == s && ts_lt v t) (ts_nu v) (ts_n v)) (fun _ => wx a c1 c2 v g h) := by
  obtain ⟨hn, hk, hth, hwk, hli, hgr⟩ := id hI
  refine jj_met (cc := cX0_numbersShown) (nL := 4) (by decide) rfl (Nat.le_of_ble_eq_true rfl) (fun E Q hC hEl hED hD0 hret => ?_)
  show jj_J E 0 0 Q (wx a c1 c2 v g h) 0 [(0, .ref (a 0)), (1, .int (nI s))] []
  refine jj_iconst hC dX0_numbersShown_0 (v := nI 0) (by decide) ?_
  refine jj_istore_n hC dX0_numbersShown_1 (by decide) [1, 2, 0] (lv' := [(0, _), (1, _), (2, .int _)]) rfl ?_
  refine jj_iconst hC dX0_numbersShown_2 (v := nI 0) (by decide) ?_
  refine jj_istore_n hC dX0_numbersShown_3 (by decide) [1, 2, 3, 0] (lv' := [(0, _), (1, _), (2, _), (3, .int _)]) rfl ?_
  refine jj_for (P := fun i => jj_J E 0 0 Q (wx a c1 c2 v g h) 4 [(0, .ref (a 0)), (1, .int (nI s)), (2, .int (ts_or (fun t => ts_se v t == s && ts_lt v t) (ts_nu v) i)), (3, .int (nI i))] []) (N := ts_n v) ?_ ?_ 0 (Nat.zero_le _)
  · refine jj_iload_n hC dX0_numbersShown_4 rfl ?_
    refine jj_aload_n hC dX0_numbersShown_5 rfl ?_
    refine jj_get hC 0 2 dX0_numbersShown_6 (by rfl) rfl (by decide) lkX0_numbersShown_75 rfl hinX0_numbersShown (by rfl) ?_
    refine jj_icmp_geT hC dX0_numbersShown_9 (tgt := 47) (by decide) (nI_le (Nat.le_refl _) (by omega)) ?_
    refine jj_iload_n hC dX0_numbersShown_47 rfl ?_
    exact hret _ _ _ () dX0_numbersShown_48 (by rfl) rfl
  · intro i hi ih
    have hb := hth i hi
    refine jj_iload_n hC dX0_numbersShown_4 rfl ?_
    refine jj_aload_n hC dX0_numbersShown_5 rfl ?_
    refine jj_get hC 0 2 dX0_numbersShown_6 (by rfl) rfl (by decide) lkX0_numbersShown_75 rfl hinX0_numbersShown (by rfl) ?_
    refine jj_icmp_geF hC dX0_numbersShown_9 (tgt := 47) (by decide) (nI_ge hi (by omega)) ?_
    refine jj_aload_n hC dX0_numbersShown_12 rfl ?_
    refine jj_get hC 0 5 dX0_numbersShown_13 (by rfl) rfl (by decide) lkX0_numbersShown_9 rfl hinX0_numbersShown (by rfl) ?_
    refine jj_iload_n hC dX0_numbersShown_16 rfl ?_
    refine jj_iald hC 1 0 dX0_numbersShown_17 (wx_g1 ..) rfl (by omega) (by decide) ?_
    refine jj_iload_n hC dX0_numbersShown_18 rfl ?_
    first | refine jj_icmp_neN hC dX0_numbersShown_19 (tgt := 41) (by decide) (by omega) (by omega) (fun c19 => ?_) (fun c19 => ?_) | refine jj_icmp_ne hC dX0_numbersShown_19 (tgt := 41) (by decide) (fun c19 => ?_) (fun c19 => ?_)
    · refine jj_iincN hC dX0_numbersShown_41 rfl (d9 := 1) (by decide) (by decide) [1, 2, 3, 0] (lv' := [(0, _), (1, _), (2, _), (3, .int _)]) rfl ?_
      refine jj_goto hC dX0_numbersShown_44 (tgt := 4) (by decide) ?_
      first | (rw [show ts_or (fun t => ts_se v t == s && ts_lt v t) (ts_nu v) (i + 1) = ts_or (fun t => ts_se v t == s && ts_lt v t) (ts_nu v) i ||| ((1 : Int32) <<< (nI (ts_nu v i) &&& 31)) by simp [ts_or, c19]] at ih; exact ih) | (rw [show ts_or (fun t => ts_se v t == s && ts_lt v t) (ts_nu v) (i + 1) = ts_or (fun t => ts_se v t == s && ts_lt v t) (ts_nu v) i by simp [ts_or, c19]] at ih; exact ih)
    · refine jj_aload_n hC dX0_numbersShown_22 rfl ?_
      refine jj_iload_n hC dX0_numbersShown_23 rfl ?_
      refine jj_calli hC (xm_isLent _ _ a c1 c2 c3 v g h i (by omega)) gX0_numbersShown_X0_isLent rfl 1 (by decide +kernel) ⟨by decide, by decide, by decide, by decide⟩ 0 0 (by rfl) rfl rfl rfl rfl (Nat.le_of_ble_eq_true rfl) dX0_numbersShown_24 (fun r u hp => ?_)
      obtain rfl := hp
      refine jj_if_eqB hC dX0_numbersShown_27 (tgt := 41) (by decide) (fun c27 => ?_) (fun c27 => ?_)
      · refine jj_iincN hC dX0_numbersShown_41 rfl (d9 := 1) (by decide) (by decide) [1, 2, 3, 0] (lv' := [(0, _), (1, _), (2, _), (3, .int _)]) rfl ?_
        refine jj_goto hC dX0_numbersShown_44 (tgt := 4) (by decide) ?_
        first | (rw [show ts_or (fun t => ts_se v t == s && ts_lt v t) (ts_nu v) (i + 1) = ts_or (fun t => ts_se v t == s && ts_lt v t) (ts_nu v) i ||| ((1 : Int32) <<< (nI (ts_nu v i) &&& 31)) by simp [ts_or, c19, c27]] at ih; exact ih) | (rw [show ts_or (fun t => ts_se v t == s && ts_lt v t) (ts_nu v) (i + 1) = ts_or (fun t => ts_se v t == s && ts_lt v t) (ts_nu v) i by simp [ts_or, c19, c27]] at ih; exact ih)
      · refine jj_iload_n hC dX0_numbersShown_30 rfl ?_
        refine jj_iconst hC dX0_numbersShown_31 (v := nI 1) (by decide) ?_
        refine jj_aload_n hC dX0_numbersShown_32 rfl ?_
        refine jj_get hC 0 6 dX0_numbersShown_33 (by rfl) rfl (by decide) lkX0_numbersShown_13 rfl hinX0_numbersShown (by rfl) ?_
        refine jj_iload_n hC dX0_numbersShown_36 rfl ?_
        refine jj_iald hC 2 0 dX0_numbersShown_37 (wx_g2 ..) rfl (by omega) (by decide) ?_
        refine jj_ishl hC dX0_numbersShown_38 ?_
        refine jj_ior hC dX0_numbersShown_39 ?_
        refine jj_istore_n hC dX0_numbersShown_40 (by decide) [1, 2, 0, 3] (lv' := [(0, _), (1, _), (2, .int _), (3, _)]) rfl ?_
        refine jj_iincN hC dX0_numbersShown_41 rfl (d9 := 1) (by decide) (by decide) [1, 2, 3, 0] (lv' := [(0, _), (1, _), (2, _), (3, .int _)]) rfl ?_
        refine jj_goto hC dX0_numbersShown_44 (tgt := 4) (by decide) ?_
        first | (rw [show ts_or (fun t => ts_se v t == s && ts_lt v t) (ts_nu v) (i + 1) = ts_or (fun t => ts_se v t == s && ts_lt v t) (ts_nu v) i ||| ((1 : Int32) <<< (nI (ts_nu v i) &&& 31)) by simp [ts_or, c19, c27]] at ih; exact ih) | (rw [show ts_or (fun t => ts_se v t == s && ts_lt v t) (ts_nu v) (i + 1) = ts_or (fun t => ts_se v t == s && ts_lt v t) (ts_nu v) i by simp [ts_or, c19, c27]] at ih; exact ih)
