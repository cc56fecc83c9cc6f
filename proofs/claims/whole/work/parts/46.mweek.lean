def ts_sK (v : ts_V) (k : Nat) : Nat → Nat → Nat := fun c o => if 7 * c + o < k ∧ o < 7 then ts_gr v c o - 1 else ts_gr v c o
theorem ts_sK_0 (v : ts_V) : ts_sK v 0 = ts_gr v := by
  funext c o
  unfold ts_sK
  rw [if_neg (by omega)]
theorem ts_sK_end {v : ts_V} (hI : ts_I v) : ts_sK v 49 = fun c o => ts_gr v c o - 1 := by
  funext c o
  unfold ts_sK
  have h := (hI.2.2.2.2.2 c o).2
  have hk := hI.2.1
  by_cases h2 : 7 * c + o < 49 ∧ o < 7
  · rw [if_pos h2]
  · rw [if_neg h2]
    have := h (by omega)
    omega
theorem ts_sK_at (v : ts_V) (i : Nat) : ts_sK v i (i / 7) (i % 7) = ts_gr v (i / 7) (i % 7) := by
  unfold ts_sK
  rw [if_neg (by omega)]
theorem ts_sK_step (v : ts_V) (i : Nat) : (fun j => nI (ts_sK v (i + 1) (j / 7) (j % 7))) = upd (fun j => nI (ts_sK v i (j / 7) (j % 7))) i (nI (ts_gr v (i / 7) (i % 7) - 1)) := by
  funext j
  unfold upd ts_sK
  by_cases h : j = i
  · rw [if_pos h, if_pos (by omega), h]
  · rw [if_neg h]
    show nI (if 7 * (j / 7) + j % 7 < i + 1 ∧ j % 7 < 7 then ts_gr v (j / 7) (j % 7) - 1 else ts_gr v (j / 7) (j % 7)) = nI (if 7 * (j / 7) + j % 7 < i ∧ j % 7 < 7 then ts_gr v (j / 7) (j % 7) - 1 else ts_gr v (j / 7) (j % 7))
    by_cases h2 : 7 * (j / 7) + j % 7 < i ∧ j % 7 < 7
    · rw [if_pos h2, if_pos (by omega)]
    · rw [if_neg h2, if_neg (by omega)]
theorem lkX1_weekOn_39 : Cond.fieldLink RX1 39 RX1 (TX1 2).2.1 (TX1 2).2.2.1 ∈ wsX1_weekOn := by decide +kernel
theorem lkX1_weekOn_16 : Cond.fieldLink RX1 16 RX1 (TX1 5).2.1 (TX1 5).2.2.1 ∈ wsX1_weekOn := by decide +kernel
theorem lkX1_weekOn_22 : Cond.fieldLink RX1 22 RX1 (TX1 7).2.1 (TX1 7).2.2.1 ∈ wsX1_weekOn := by decide +kernel
theorem mkX1_weekOn_63 : Cond.methodLink RX1 63 Lib.Math.max.name ∈ wsX1_weekOn := by decide +kernel
theorem msX1_weekOn_max : Cond.static Lib.Math.max.name ∈ wsX1_weekOn := by decide +kernel
theorem miX1_weekOn : Cond.initialized "java/lang/Math" ∈ wsX1_weekOn := by decide +kernel
theorem mcX1_weekOn_max : Cond.code Lib.Math.max.name Lib.Math.max.code 2 (some .int) ∈ wsX1_weekOn := by decide +kernel
theorem hinX1_weekOn : ∀ w ∈ wsX10, w ∈ wsX1_weekOn := by decide +kernel
set_option maxRecDepth 100000 in
set_option maxHeartbeats 4000000 in
theorem mm_weekOn (l : Launch) (D : va_G) (b : Nat → Nat) (c1 c2 c3 : ClassId) (v : ts_V) (th : Int32) (z : Nat → Int32) (hI : ts_I v) : jj_M l D (ts_T c1 c2 c3) yX1_weekOn wsX1_weekOn rX1_weekOn [.ref (b 0)] (wm b c1 v th z) Unit (fun x _ => x = nI (ts_end v).2) (fun _ => wm b c1 (ts_end v).1 th z) := by
  obtain ⟨hn, hk, hth, hwk, hli, hgr⟩ := id hI
  refine jj_met (cc := cX1_weekOn) (nL := 3) (by decide) rfl (Nat.le_of_ble_eq_true rfl) (fun E Q hC hEl hED hD0 hret => ?_)
  show jj_J E 0 0 Q (wm b c1 v th z) 0 [(0, .ref (b 0))] []
  refine jj_iconst hC dX1_weekOn_0 (v := nI 0) (by decide) ?_
  refine jj_istore_n hC dX1_weekOn_1 (by decide) [1, 0] (lv' := [(0, _), (1, .int _)]) rfl ?_
  refine jj_iconst hC dX1_weekOn_2 (v := nI 0) (by decide) ?_
  refine jj_istore_n hC dX1_weekOn_3 (by decide) [1, 2, 0] (lv' := [(0, _), (1, _), (2, .int _)]) rfl ?_
  refine jj_for (P := fun i => jj_J E 0 0 Q (wm b c1 (ts_ew v i).1 th z) 4 [(0, .ref (b 0)), (1, .int (nI (ts_ew v i).2)), (2, .int (nI i))] []) (N := ts_n v) ?_ ?_ 0 (Nat.zero_le _)
  · obtain ⟨hEn, hen1⟩ := ts_ew_I hI (ts_n v)
    refine jj_iload_n hC dX1_weekOn_4 rfl ?_
    refine jj_aload_n hC dX1_weekOn_5 rfl ?_
    refine jj_get hC 0 2 dX1_weekOn_6 (by rfl) rfl (by decide) lkX1_weekOn_39 rfl hinX1_weekOn (by rfl) ?_
    refine jj_icmp_geT hC dX1_weekOn_9 (tgt := 83) (by decide) (by rw [show ts_n (ts_ew v (ts_n v)).1 = ts_n v from congrArg Prod.fst hen1]; exact nI_le (Nat.le_refl _) (by omega)) ?_
    refine jj_iconst hC dX1_weekOn_83 (v := nI 0) (by decide) ?_
    refine jj_istore_n hC dX1_weekOn_84 (by decide) [1, 2, 0] (lv' := [(0, _), (1, _), (2, .int _)]) rfl ?_
    refine jj_ws (ws' := wm b c1 (ts_gr' (ts_ew v (ts_n v)).1 (ts_sK (ts_ew v (ts_n v)).1 0)) th z) (by rw [ts_sK_0]) ?_
    refine jj_for (P := fun i => (i = 0 ∨ ts_w (ts_ew v (ts_n v)).1 - ts_w (ts_ew v (ts_n v)).1 / nI 5 * nI 5 = 0) → jj_J E 0 0 Q (wm b c1 (ts_gr' (ts_ew v (ts_n v)).1 (ts_sK (ts_ew v (ts_n v)).1 i)) th z) 85 [(0, .ref (b 0)), (1, .int (nI (ts_ew v (ts_n v)).2)), (2, .int (nI i))] []) (N := 49) ?_ ?_ 0 (Nat.zero_le _) (Or.inl rfl)
    · intro hz
      refine jj_iload_n hC dX1_weekOn_85 rfl ?_
      refine jj_aload_n hC dX1_weekOn_86 rfl ?_
      refine jj_get hC 0 5 dX1_weekOn_87 (by rfl) rfl (by decide) lkX1_weekOn_16 rfl hinX1_weekOn (by rfl) ?_
      refine jj_alen hC 3 0 dX1_weekOn_90 (wm_g3 ..) rfl ?_
      refine jj_icmp_geT hC dX1_weekOn_91 (tgt := 129) (by decide) (show nI 49 ≤ nI 49 from nI_le (Nat.le_refl _) (by decide)) ?_
      refine jj_aload_n hC dX1_weekOn_129 rfl ?_
      refine jj_get hC 0 7 dX1_weekOn_130 (by rfl) rfl (by decide) lkX1_weekOn_22 rfl hinX1_weekOn (by rfl) ?_
      refine jj_iconst hC dX1_weekOn_133 (v := nI 0) (by decide) ?_
      refine jj_dup2 hC dX1_weekOn_134 rfl rfl ?_
      refine jj_iald hC 5 0 dX1_weekOn_135 (wm_g5 ..) rfl (by omega) (by decide) ?_
      refine jj_iconst hC dX1_weekOn_136 (v := nI 1) (by decide) ?_
      refine jj_iadd hC dX1_weekOn_137 ?_
      refine jj_iast hC 5 0 dX1_weekOn_138 (wm_g5 ..) rfl (by decide) (by decide) (wm_s5 b c1 (ts_gr' (ts_ew v (ts_n v)).1 (ts_sK (ts_ew v (ts_n v)).1 49)) th z (ts_w' (ts_gr' (ts_ew v (ts_n v)).1 (ts_sK (ts_ew v (ts_n v)).1 49)) (ts_w (ts_ew v (ts_n v)).1 + 1)) _ rfl rfl rfl (ts_num0 _ _)) ?_
      refine jj_iload_n hC dX1_weekOn_139 rfl ?_
      refine jj_ws (ws' := wm b c1 (ts_end v).1 th z) ?_ (hret _ _ _ () dX1_weekOn_140 (by rfl) rfl)
      unfold ts_end
      dsimp only
      rw [if_pos (hz.resolve_left (by decide)), ts_sK_end hEn]
      rfl
    · intro i hi ih hz
      refine jj_iload_n hC dX1_weekOn_85 rfl ?_
      refine jj_aload_n hC dX1_weekOn_86 rfl ?_
      refine jj_get hC 0 5 dX1_weekOn_87 (by rfl) rfl (by decide) lkX1_weekOn_16 rfl hinX1_weekOn (by rfl) ?_
      refine jj_alen hC 3 0 dX1_weekOn_90 (wm_g3 ..) rfl ?_
      refine jj_icmp_geF hC dX1_weekOn_91 (tgt := 129) (by decide) (nI_ge hi (by omega)) ?_
      refine jj_aload_n hC dX1_weekOn_94 rfl ?_
      refine jj_get hC 0 7 dX1_weekOn_95 (by rfl) rfl (by decide) lkX1_weekOn_22 rfl hinX1_weekOn (by rfl) ?_
      refine jj_iconst hC dX1_weekOn_98 (v := nI 0) (by decide) ?_
      refine jj_iald hC 5 0 dX1_weekOn_99 (wm_g5 ..) rfl (by omega) (by decide) ?_
      refine jj_iconst hC dX1_weekOn_100 (v := nI 5) (by decide) ?_
      refine jj_irem hC dX1_weekOn_101 (by decide) ?_
      refine jj_if_ne hC dX1_weekOn_102 (tgt := 129) (by decide) (fun c102t => ?_) (fun c102f => ?_)
      · have hi0 : i = 0 := hz.resolve_right c102t
        subst hi0
        refine jj_aload_n hC dX1_weekOn_129 rfl ?_
        refine jj_get hC 0 7 dX1_weekOn_130 (by rfl) rfl (by decide) lkX1_weekOn_22 rfl hinX1_weekOn (by rfl) ?_
        refine jj_iconst hC dX1_weekOn_133 (v := nI 0) (by decide) ?_
        refine jj_dup2 hC dX1_weekOn_134 rfl rfl ?_
        refine jj_iald hC 5 0 dX1_weekOn_135 (wm_g5 ..) rfl (by omega) (by decide) ?_
        refine jj_iconst hC dX1_weekOn_136 (v := nI 1) (by decide) ?_
        refine jj_iadd hC dX1_weekOn_137 ?_
        refine jj_iast hC 5 0 dX1_weekOn_138 (wm_g5 ..) rfl (by decide) (by decide) (wm_s5 b c1 (ts_gr' (ts_ew v (ts_n v)).1 (ts_sK (ts_ew v (ts_n v)).1 0)) th z (ts_w' (ts_gr' (ts_ew v (ts_n v)).1 (ts_sK (ts_ew v (ts_n v)).1 0)) (ts_w (ts_ew v (ts_n v)).1 + 1)) _ rfl rfl rfl (ts_num0 _ _)) ?_
        refine jj_iload_n hC dX1_weekOn_139 rfl ?_
        refine jj_ws (ws' := wm b c1 (ts_end v).1 th z) ?_ (hret _ _ _ () dX1_weekOn_140 (by rfl) rfl)
        unfold ts_end
        dsimp only
        rw [if_neg (show ¬ ts_w (ts_ew v (ts_n v)).1 - ts_w (ts_ew v (ts_n v)).1 / nI 5 * nI 5 = 0 from c102t), ts_sK_0]
      · refine jj_aload_n hC dX1_weekOn_105 rfl ?_
        refine jj_get hC 0 5 dX1_weekOn_106 (by rfl) rfl (by decide) lkX1_weekOn_16 rfl hinX1_weekOn (by rfl) ?_
        refine jj_iload_n hC dX1_weekOn_109 rfl ?_
        refine jj_iconst hC dX1_weekOn_110 (v := nI 0) (by decide) ?_
        refine jj_aload_n hC dX1_weekOn_111 rfl ?_
        refine jj_get hC 0 5 dX1_weekOn_112 (by rfl) rfl (by decide) lkX1_weekOn_16 rfl hinX1_weekOn (by rfl) ?_
        refine jj_iload_n hC dX1_weekOn_115 rfl ?_
        refine jj_iald hC 3 0 dX1_weekOn_116 (wm_g3 ..) rfl (by omega) (by decide) ?_
        rw [show ts_gr (ts_gr' (ts_ew v (ts_n v)).1 (ts_sK (ts_ew v (ts_n v)).1 i)) (i / 7) (i % 7) = ts_gr (ts_ew v (ts_n v)).1 (i / 7) (i % 7) from ts_sK_at (ts_ew v (ts_n v)).1 i]
        refine jj_iconst hC dX1_weekOn_117 (v := nI 1) (by decide) ?_
        refine jj_isub hC dX1_weekOn_118 ?_
        refine jj_mmax hC dX1_weekOn_119 mkX1_weekOn_63 msX1_weekOn_max miX1_weekOn mcX1_weekOn_max ⟨by decide, Nat.le_of_ble_eq_true rfl, by decide, by decide⟩ ?_
        first | refine jj_topi (jj_mmax_eq (by omega) (by omega)) ?_ | skip
        refine jj_topi (ts_m1_max0' (x := ts_gr (ts_ew v (ts_n v)).1 (i / 7) (i % 7)) (by have := (hEn.2.2.2.2.2 (i / 7) (i % 7)).1; omega)) ?_
        refine jj_iast hC 3 0 dX1_weekOn_122 (wm_g3 ..) rfl (by omega) (by decide) (wm_s3 b c1 _ th z (ts_sK (ts_ew v (ts_n v)).1 (i + 1)) _ (ts_sK_step (ts_ew v (ts_n v)).1 i)) ?_
        refine jj_iincN hC dX1_weekOn_123 rfl (d9 := 1) (by decide) (by decide) [1, 2, 0] (lv' := [(0, _), (1, _), (2, .int _)]) rfl ?_
        refine jj_goto hC dX1_weekOn_126 (tgt := 85) (by decide) ?_
        exact ih (Or.inr c102f)
  · intro i hi ih
    obtain ⟨hEi, he1⟩ := ts_ew_I hI i
    have hs9 : ts_st (ts_ew v i).1 i ≤ 9 := (hEi.2.2.1 i (by rw [show ts_n (ts_ew v i).1 = ts_n v from congrArg Prod.fst he1]; exact hi)).2.2.2.1
    refine jj_iload_n hC dX1_weekOn_4 rfl ?_
    refine jj_aload_n hC dX1_weekOn_5 rfl ?_
    refine jj_get hC 0 2 dX1_weekOn_6 (by rfl) rfl (by decide) lkX1_weekOn_39 rfl hinX1_weekOn (by rfl) ?_
    refine jj_icmp_geF hC dX1_weekOn_9 (tgt := 83) (by decide) (by rw [show ts_n (ts_ew v i).1 = ts_n v from congrArg Prod.fst he1]; exact nI_ge hi (by omega)) ?_
    refine jj_aload_n hC dX1_weekOn_12 rfl ?_
    refine jj_iload_n hC dX1_weekOn_13 rfl ?_
    refine jj_calli hC (mm_isLent _ _ b c1 c2 c3 (ts_ew v i).1 th z i (by omega)) gX1_weekOn_X1_isLent rfl 1 (by decide +kernel) ⟨by decide, by decide, by decide, by decide⟩ 0 1 (by rfl) rfl rfl rfl rfl (Nat.le_of_ble_eq_true rfl) dX1_weekOn_14 (fun r u hp => ?_)
    obtain rfl := hp
    refine jj_if_eqB hC dX1_weekOn_17 (tgt := 77) (by decide) (fun c17t => ?_) (fun c17f => ?_)
    · refine jj_iincN hC dX1_weekOn_77 rfl (d9 := 1) (by decide) (by decide) [1, 2, 0] (lv' := [(0, _), (1, _), (2, .int _)]) rfl ?_
      refine jj_goto hC dX1_weekOn_80 (tgt := 4) (by decide) ?_
      rw [show ts_ew v (i + 1) = ts_ew v i from if_neg (fun q => by rw [c17t] at q; exact absurd q.1 Bool.false_ne_true)] at ih
      exact ih
    · refine jj_aload_n hC dX1_weekOn_20 rfl ?_
      refine jj_iload_n hC dX1_weekOn_21 rfl ?_
      refine jj_iconst hC dX1_weekOn_22 (v := nI 5) (by decide) ?_
      refine jj_calli hC (mm_th5 _ _ b c1 c2 c3 (ts_ew v i).1 th z i (by omega)) gX1_weekOn_X1_th rfl 2 (by decide +kernel) ⟨by decide, by decide, by decide, by decide⟩ 0 1 (by rfl) rfl rfl rfl rfl (Nat.le_of_ble_eq_true rfl) dX1_weekOn_23 (fun r u hp => ?_)
      obtain rfl := hp
      refine jj_aload_n hC dX1_weekOn_26 rfl ?_
      refine jj_get hC 0 7 dX1_weekOn_27 (by rfl) rfl (by decide) lkX1_weekOn_22 rfl hinX1_weekOn (by rfl) ?_
      refine jj_iconst hC dX1_weekOn_30 (v := nI 0) (by decide) ?_
      refine jj_iald hC 5 0 dX1_weekOn_31 (wm_g5 ..) rfl (by omega) (by decide) ?_
      refine jj_icmp_le hC dX1_weekOn_32 (tgt := 38) (by decide) (fun c32t => ?_) (fun c32f => ?_)
      · refine jj_aload_n hC dX1_weekOn_38 rfl ?_
        refine jj_iload_n hC dX1_weekOn_39 rfl ?_
        refine jj_iconst hC dX1_weekOn_40 (v := nI 5) (by decide) ?_
        refine jj_iconst hC dX1_weekOn_41 (v := -1) (by decide) ?_
        refine jj_callv hC (mm_set _ _ b c1 c2 c3 (ts_ew v i).1 th z i 5 (by omega) (by decide) (-1) (ts_ti' (ts_ew v i).1 (va_up (ts_ti (ts_ew v i).1) i (-1))) rfl rfl (ts_cti (ts_ew v i).1 i _)) gX1_weekOn_X1_set rfl 3 (by decide +kernel) ⟨by decide, by decide, by decide, by decide⟩ 0 1 (by rfl) rfl rfl rfl rfl (Nat.le_of_ble_eq_true rfl) dX1_weekOn_42 (fun u hp => ?_)
        refine jj_aload_n hC dX1_weekOn_45 rfl ?_
        refine jj_iload_n hC dX1_weekOn_46 rfl ?_
        refine jj_bipush hC dX1_weekOn_47 (v := nI 6) (by decide) ?_
        refine jj_calli hC (mm_th6 _ _ b c1 c2 c3 (ts_ti' (ts_ew v i).1 (va_up (ts_ti (ts_ew v i).1) i (-1))) th z i (by omega)) gX1_weekOn_X1_th rfl 2 (by decide +kernel) ⟨by decide, by decide, by decide, by decide⟩ 0 1 (by rfl) rfl rfl rfl rfl (Nat.le_of_ble_eq_true rfl) dX1_weekOn_49 (fun r u hp => ?_)
        obtain rfl := hp
        refine jj_iconst hC dX1_weekOn_52 (v := nI 4) (by decide) ?_
        refine jj_icmp_lt hC dX1_weekOn_53 (tgt := 74) (by decide) (fun c53t => ?_) (fun c53f => ?_)
        · refine jj_iincN hC dX1_weekOn_74 rfl (d9 := 1) (by decide) (by decide) [1, 0, 2] (lv' := [(0, _), (1, .int _), (2, _)]) rfl ?_
          refine jj_iincN hC dX1_weekOn_77 rfl (d9 := 1) (by decide) (by decide) [1, 2, 0] (lv' := [(0, _), (1, _), (2, .int _)]) rfl ?_
          refine jj_goto hC dX1_weekOn_80 (tgt := 4) (by decide) ?_
          have eb : ts_bh (ts_ew v i).1 i = (ts_ti' (ts_ew v i).1 (va_up (ts_ti (ts_ew v i).1) i (-1))) := if_pos c53t
          rw [show ts_ew v (i + 1) = (ts_bh (ts_ew v i).1 i, (ts_ew v i).2 + 1) from if_pos ⟨c17f, c32t⟩, eb] at ih
          exact ih
        · refine jj_aload_n hC dX1_weekOn_56 rfl ?_
          refine jj_iload_n hC dX1_weekOn_57 rfl ?_
          refine jj_iconst hC dX1_weekOn_58 (v := nI 3) (by decide) ?_
          refine jj_iconst hC dX1_weekOn_59 (v := nI 0) (by decide) ?_
          refine jj_aload_n hC dX1_weekOn_60 rfl ?_
          refine jj_iload_n hC dX1_weekOn_61 rfl ?_
          refine jj_iconst hC dX1_weekOn_62 (v := nI 3) (by decide) ?_
          refine jj_calli hC (mm_th3 _ _ b c1 c2 c3 (ts_ti' (ts_ew v i).1 (va_up (ts_ti (ts_ew v i).1) i (-1))) th z i (by omega)) gX1_weekOn_X1_th rfl 2 (by decide +kernel) ⟨by decide, by decide, by decide, by decide⟩ 0 1 (by rfl) rfl rfl rfl rfl (Nat.le_of_ble_eq_true rfl) dX1_weekOn_63 (fun r u hp => ?_)
          obtain rfl := hp
          refine jj_iconst hC dX1_weekOn_66 (v := nI 1) (by decide) ?_
          refine jj_isub hC dX1_weekOn_67 ?_
          refine jj_mmax hC dX1_weekOn_68 mkX1_weekOn_63 msX1_weekOn_max miX1_weekOn mcX1_weekOn_max ⟨by decide, Nat.le_of_ble_eq_true rfl, by decide, by decide⟩ ?_
          first | refine jj_topi (jj_mmax_eq (by omega) (by omega)) ?_ | skip
          refine jj_topi (ts_m1_max0' (x := ts_st (ts_ew v i).1 i) (by omega)) ?_
          refine jj_callv hC (mm_set _ _ b c1 c2 c3 (ts_ti' (ts_ew v i).1 (va_up (ts_ti (ts_ew v i).1) i (-1))) th z i 3 (by omega) (by decide) (nI (ts_st (ts_ew v i).1 i - 1)) (ts_st' (ts_ti' (ts_ew v i).1 (va_up (ts_ti (ts_ew v i).1) i (-1))) (va_up (ts_st (ts_ew v i).1) i (ts_st (ts_ew v i).1 i - 1))) rfl rfl (ts_cst (ts_ti' (ts_ew v i).1 (va_up (ts_ti (ts_ew v i).1) i (-1))) i _)) gX1_weekOn_X1_set rfl 3 (by decide +kernel) ⟨by decide, by decide, by decide, by decide⟩ 0 1 (by rfl) rfl rfl rfl rfl (Nat.le_of_ble_eq_true rfl) dX1_weekOn_71 (fun u hp => ?_)
          refine jj_iincN hC dX1_weekOn_74 rfl (d9 := 1) (by decide) (by decide) [1, 0, 2] (lv' := [(0, _), (1, .int _), (2, _)]) rfl ?_
          refine jj_iincN hC dX1_weekOn_77 rfl (d9 := 1) (by decide) (by decide) [1, 2, 0] (lv' := [(0, _), (1, _), (2, .int _)]) rfl ?_
          refine jj_goto hC dX1_weekOn_80 (tgt := 4) (by decide) ?_
          have eb : ts_bh (ts_ew v i).1 i = (ts_st' (ts_ti' (ts_ew v i).1 (va_up (ts_ti (ts_ew v i).1) i (-1))) (va_up (ts_st (ts_ew v i).1) i (ts_st (ts_ew v i).1 i - 1))) := if_neg c53f
          rw [show ts_ew v (i + 1) = (ts_bh (ts_ew v i).1 i, (ts_ew v i).2 + 1) from if_pos ⟨c17f, c32t⟩, eb] at ih
          exact ih
      · refine jj_goto hC dX1_weekOn_35 (tgt := 77) (by decide) ?_
        refine jj_iincN hC dX1_weekOn_77 rfl (d9 := 1) (by decide) (by decide) [1, 2, 0] (lv' := [(0, _), (1, _), (2, .int _)]) rfl ?_
        refine jj_goto hC dX1_weekOn_80 (tgt := 4) (by decide) ?_
        rw [show ts_ew v (i + 1) = ts_ew v i from if_neg (fun q => c32f q.2)] at ih
        exact ih
theorem lkX1_pass_28 : Cond.fieldLink RX1 28 RX1 (TX1 0).2.1 (TX1 0).2.2.1 ∈ wsX1_pass := by decide +kernel
theorem hinX1_pass : ∀ w ∈ wsX10, w ∈ wsX1_pass := by decide +kernel
set_option maxRecDepth 100000 in
set_option maxHeartbeats 4000000 in
theorem mo_pass (l : Launch) (D : va_G) (b : Nat → Nat) (c1 c2 c3 : ClassId) (v : ts_V) (th : Int32) (z : Nat → Int32) (hI : ts_I v) (x0 : Int32) : jj_M l D (ts_T c1 c2 c3) yX1_pass wsX1_pass rX1_pass [.ref (b 0), .int x0] (wm b c1 v th z) (Nat → Int32) (fun r _ => r = ts_if (ts_req (ts_rg x0 1 60) jj_IA) (nI (ts_pa v (ts_N x0)).2) (nI 0)) (fun u => wm b c1 (ts_if (ts_req (ts_rg x0 1 60) jj_IA) ((ts_pa v (ts_N x0)).1) v) (ts_cd 0 1 0 (ts_req (ts_rg x0 1 60) jj_IA)) u) := by
  obtain ⟨hn, hk, hth, hwk, hli, hgr⟩ := id hI
  refine jj_met (cc := cX1_pass) (nL := 4) (by decide) rfl (Nat.le_of_ble_eq_true rfl) (fun E Q hC hEl hED hD0 hret => ?_)
  show jj_J E 0 0 Q (wm b c1 v th z) 0 [(0, .ref (b 0)), (1, .int x0)] []
  refine jj_aload_n hC dX1_pass_0 rfl ?_
  refine jj_iconst hC dX1_pass_1 (v := nI 0) (by decide) ?_
  refine jj_put hC 0 0 dX1_pass_2 (by rfl) rfl (by decide) lkX1_pass_28 rfl hinX1_pass tyX1_ok nmX1 rfl rfl rfl rfl (Nat.le_of_ble_eq_true rfl) (wm_p0 ..) ?_
  refine jj_iload_n hC dX1_pass_5 rfl ?_
  refine jj_iconst hC dX1_pass_6 (v := nI 1) (by decide) ?_
  refine jj_bipush hC dX1_pass_7 (v := nI 60) (by decide) ?_
  refine jj_scalliN hC (mm_isInR _ _ c1 c2 c3 x0 1 60 (by decide) (by decide)) gX1_pass_X1_isIn rfl 3 (by decide +kernel) ⟨by decide, by decide, by decide, by decide⟩ rfl rfl rfl (Nat.le_of_ble_eq_true rfl) dX1_pass_9 (fun r u hp => ?_)
  obtain rfl := hp
  refine jj_if_neB hC dX1_pass_12 (tgt := 21) (by decide) (fun c12t => ?_) (fun c12f => ?_)
  · obtain ⟨j0, hj1, hj2, rfl⟩ := ts_rg_of c12t (by decide)
    have eNj0 : ts_N (nI j0) = j0 := ts_N_nI (by omega)
    refine jj_iconst hC dX1_pass_21 (v := nI 0) (by decide) ?_
    refine jj_istore_n hC dX1_pass_22 (by decide) [1, 2, 0] (lv' := [(0, _), (1, _), (2, .int _)]) rfl ?_
    refine jj_iconst hC dX1_pass_23 (v := nI 0) (by decide) ?_
    refine jj_istore_n hC dX1_pass_24 (by decide) [1, 2, 3, 0] (lv' := [(0, _), (1, _), (2, _), (3, .int _)]) rfl ?_
    refine jj_for (P := fun i => jj_J E 0 0 Q (wm b c1 (ts_pa v i).1 (nI 0) z) 25 [(0, .ref (b 0)), (1, .int (nI j0)), (2, .int (nI (ts_pa v i).2)), (3, .int (nI i))] []) (N := j0) ?_ ?_ 0 (Nat.zero_le _)
    · refine jj_iload_n hC dX1_pass_25 rfl ?_
      refine jj_iload_n hC dX1_pass_26 rfl ?_
      refine jj_icmp_geT hC dX1_pass_27 (tgt := 43) (by decide) (nI_le (Nat.le_refl _) (by omega)) ?_
      refine jj_iload_n hC dX1_pass_43 rfl ?_
      simp only [eNj0] at hret
      have eO : (ts_req (ts_rg (nI j0) 1 60) jj_IA) = none := by simp [ts_req, c12t]
      rw [eO] at hret
      exact hret _ _ _ z dX1_pass_44 (by rfl) (rfl)
    · intro i hi ih
      refine jj_iload_n hC dX1_pass_25 rfl ?_
      refine jj_iload_n hC dX1_pass_26 rfl ?_
      refine jj_icmp_geF hC dX1_pass_27 (tgt := 43) (by decide) (nI_ge hi (by omega)) ?_
      refine jj_iload_n hC dX1_pass_30 rfl ?_
      refine jj_aload_n hC dX1_pass_31 rfl ?_
      refine jj_calli hC (mm_weekOn _ _ b c1 c2 c3 (ts_pa v i).1 (nI 0) z (ts_I_pa hI i)) gX1_pass_X1_weekOn rfl 0 (by decide +kernel) ⟨by decide, by decide, by decide, by decide⟩ 0 1 (by rfl) rfl rfl rfl rfl (Nat.le_of_ble_eq_true rfl) dX1_pass_32 (fun r u hp => ?_)
      obtain rfl := hp
      first | refine jj_iaddN hC dX1_pass_35 ?_ | refine jj_iadd hC dX1_pass_35 ?_
      refine jj_istore_n hC dX1_pass_36 (by decide) [1, 2, 0, 3] (lv' := [(0, _), (1, _), (2, .int _), (3, _)]) rfl ?_
      refine jj_iincN hC dX1_pass_37 rfl (d9 := 1) (by decide) (by decide) [1, 2, 3, 0] (lv' := [(0, _), (1, _), (2, _), (3, .int _)]) rfl ?_
      refine jj_goto hC dX1_pass_40 (tgt := 25) (by decide) ?_
      exact ih
  · refine jj_aload_n hC dX1_pass_15 rfl ?_
    refine jj_iconst hC dX1_pass_16 (v := nI 1) (by decide) ?_
    refine jj_calli hC (mm_fail _ _ b c1 c2 c3 v (nI 0) z (nI 1)) gX1_pass_X1_fail rfl 1 (by decide +kernel) ⟨by decide, by decide, by decide, by decide⟩ 0 1 (by rfl) rfl rfl rfl rfl (Nat.le_of_ble_eq_true rfl) dX1_pass_17 (fun r u hp => ?_)
    obtain rfl := hp
    have eO : (ts_req (ts_rg x0 1 60) jj_IA) = some jj_IA := by
      first
        | (simp [ts_req, c12f]; done)
        | (simp [ts_req, c12f]
           repeat' split
           all_goals simp_all)
    rw [eO, ts_cdIA] at hret
    exact hret _ _ _ z dX1_pass_20 (by rfl) rfl
theorem lkX1_allWorth_32 : Cond.fieldLink RX1 32 RX1 (TX1 1).2.1 (TX1 1).2.2.1 ∈ wsX1_allWorth := by decide +kernel
theorem hinX1_allWorth : ∀ w ∈ wsX10, w ∈ wsX1_allWorth := by decide +kernel
set_option maxRecDepth 100000 in
set_option maxHeartbeats 4000000 in
theorem mm_allWorth (l : Launch) (D : va_G) (b : Nat → Nat) (c1 c2 c3 : ClassId) (v : ts_V) (th : Int32) (z : Nat → Int32) (hI : ts_I v) : jj_M l D (ts_T c1 c2 c3) yX1_allWorth wsX1_allWorth rX1_allWorth [.ref (b 0)] (wm b c1 v th z) (Nat → Int32) (fun x _ => x = nI (ts_all v)) (fun u => wm b c1 v th u) := by
  obtain ⟨hn, hk, hth, hwk, hli, hgr⟩ := id hI
  refine jj_met (cc := cX1_allWorth) (nL := 3) (by decide) rfl (Nat.le_of_ble_eq_true rfl) (fun E Q hC hEl hED hD0 hret => ?_)
  show jj_J E 0 0 Q (wm b c1 v th z) 0 [(0, .ref (b 0))] []
  refine jj_iconst hC dX1_allWorth_0 (v := nI 0) (by decide) ?_
  refine jj_istore_n hC dX1_allWorth_1 (by decide) [1, 0] (lv' := [(0, _), (1, .int _)]) rfl ?_
  refine jj_iconst hC dX1_allWorth_2 (v := nI 0) (by decide) ?_
  refine jj_istore_n hC dX1_allWorth_3 (by decide) [1, 2, 0] (lv' := [(0, _), (1, _), (2, .int _)]) rfl ?_
  refine jj_for (P := fun i => ∀ z1 : Nat → Int32, jj_J E 0 0 Q (wm b c1 v th z1) 4 [(0, .ref (b 0)), (1, .int (nI (ts_sum (fun c => ts_now v c) i))), (2, .int (nI i))] []) (N := ts_k v) ?_ ?_ 0 (Nat.zero_le _) _
  · intro z1
    refine jj_iload_n hC dX1_allWorth_4 rfl ?_
    refine jj_aload_n hC dX1_allWorth_5 rfl ?_
    refine jj_get hC 0 1 dX1_allWorth_6 (by rfl) rfl (by decide) lkX1_allWorth_32 rfl hinX1_allWorth (by rfl) ?_
    refine jj_icmp_geT hC dX1_allWorth_9 (tgt := 26) (by decide) (nI_le (Nat.le_refl _) (by omega)) ?_
    refine jj_iload_n hC dX1_allWorth_26 rfl ?_
    exact hret _ _ _ z1 dX1_allWorth_27 (by rfl) (rfl)
  · intro i hi ih z1
    refine jj_iload_n hC dX1_allWorth_4 rfl ?_
    refine jj_aload_n hC dX1_allWorth_5 rfl ?_
    refine jj_get hC 0 1 dX1_allWorth_6 (by rfl) rfl (by decide) lkX1_allWorth_32 rfl hinX1_allWorth (by rfl) ?_
    refine jj_icmp_geF hC dX1_allWorth_9 (tgt := 26) (by decide) (nI_ge hi (by omega)) ?_
    refine jj_iload_n hC dX1_allWorth_12 rfl ?_
    refine jj_aload_n hC dX1_allWorth_13 rfl ?_
    refine jj_iload_n hC dX1_allWorth_14 rfl ?_
    refine jj_calli hC (mm_worth _ _ b c1 c2 c3 v th z1 hI i hi) gX1_allWorth_X1_worth rfl 1 (by decide +kernel) ⟨by decide, by decide, by decide, by decide⟩ 0 1 (by rfl) rfl rfl rfl rfl (Nat.le_of_ble_eq_true rfl) dX1_allWorth_15 (fun r u hp => ?_)
    obtain rfl := hp
    revert u
    intro z2
    first | refine jj_iaddN hC dX1_allWorth_18 ?_ | refine jj_iadd hC dX1_allWorth_18 ?_
    refine jj_istore_n hC dX1_allWorth_19 (by decide) [1, 0, 2] (lv' := [(0, _), (1, .int _), (2, _)]) rfl ?_
    refine jj_iincN hC dX1_allWorth_20 rfl (d9 := 1) (by decide) (by decide) [1, 2, 0] (lv' := [(0, _), (1, _), (2, .int _)]) rfl ?_
    refine jj_goto hC dX1_allWorth_23 (tgt := 4) (by decide) ?_
    exact ih _
theorem lkX1_counted_22 : Cond.fieldLink RX1 22 RX1 (TX1 7).2.1 (TX1 7).2.2.1 ∈ wsX1_counted := by decide +kernel
theorem lkX1_counted_32 : Cond.fieldLink RX1 32 RX1 (TX1 1).2.1 (TX1 1).2.2.1 ∈ wsX1_counted := by decide +kernel
theorem lkX1_counted_39 : Cond.fieldLink RX1 39 RX1 (TX1 2).2.1 (TX1 2).2.2.1 ∈ wsX1_counted := by decide +kernel
theorem hinX1_counted : ∀ w ∈ wsX10, w ∈ wsX1_counted := by decide +kernel
set_option maxRecDepth 100000 in
set_option maxHeartbeats 4000000 in
theorem mm_counted (l : Launch) (D : va_G) (b : Nat → Nat) (c1 c2 c3 : ClassId) (v : ts_V) (th : Int32) (z : Nat → Int32) (hI : ts_I v) (w : Nat) (hw : w < 7) : jj_M l D (ts_T c1 c2 c3) yX1_counted wsX1_counted rX1_counted [.ref (b 0), .int (nI w)] (wm b c1 v th z) (Nat → Int32) (fun x _ => x = ts_cn v w) (fun u => wm b c1 v th u) := by
  obtain ⟨hn, hk, hth, hwk, hli, hgr⟩ := id hI
  refine jj_met (cc := cX1_counted) (nL := 4) (by decide) rfl (Nat.le_of_ble_eq_true rfl) (fun E Q hC hEl hED hD0 hret => ?_)
  show jj_J E 0 0 Q (wm b c1 v th z) 0 [(0, .ref (b 0)), (1, .int (nI w))] []
  refine jj_iconst hC dX1_counted_0 (v := nI 0) (by decide) ?_
  refine jj_istore_n hC dX1_counted_1 (by decide) [1, 2, 0] (lv' := [(0, _), (1, _), (2, .int _)]) rfl ?_
  refine jj_iload_n hC dX1_counted_2 rfl ?_
  rcases (show w = 0 ∨ w = 1 ∨ w = 2 ∨ w = 3 ∨ w = 4 ∨ w = 5 ∨ w = 6 by omega) with rfl | rfl | rfl | rfl | rfl | rfl | rfl
  · refine jj_tableIn hC dX1_counted_3 (by decide) (by decide) (off := 37) (by decide) (tgt := 40) (by decide) ?_
    refine jj_aload_n hC dX1_counted_40 rfl ?_
    refine jj_get hC 0 7 dX1_counted_41 (by rfl) rfl (by decide) lkX1_counted_22 rfl hinX1_counted (by rfl) ?_
    refine jj_iconst hC dX1_counted_44 (v := nI 0) (by decide) ?_
    refine jj_iald hC 5 0 dX1_counted_45 (wm_g5 ..) rfl (by omega) (by decide) ?_
    exact hret _ _ _ z dX1_counted_46 (by rfl) rfl
  · refine jj_tableIn hC dX1_counted_3 (by decide) (by decide) (off := 44) (by decide) (tgt := 47) (by decide) ?_
    refine jj_aload_n hC dX1_counted_47 rfl ?_
    refine jj_get hC 0 1 dX1_counted_48 (by rfl) rfl (by decide) lkX1_counted_32 rfl hinX1_counted (by rfl) ?_
    exact hret _ _ _ z dX1_counted_51 (by rfl) rfl
  · refine jj_tableIn hC dX1_counted_3 (by decide) (by decide) (off := 49) (by decide) (tgt := 52) (by decide) ?_
    refine jj_aload_n hC dX1_counted_52 rfl ?_
    refine jj_get hC 0 2 dX1_counted_53 (by rfl) rfl (by decide) lkX1_counted_39 rfl hinX1_counted (by rfl) ?_
    exact hret _ _ _ z dX1_counted_56 (by rfl) rfl
  · refine jj_tableIn hC dX1_counted_3 (by decide) (by decide) (off := 54) (by decide) (tgt := 57) (by decide) ?_
    refine jj_iconst hC dX1_counted_57 (v := nI 0) (by decide) ?_
    refine jj_istore_n hC dX1_counted_58 (by decide) [1, 2, 3, 0] (lv' := [(0, _), (1, _), (2, _), (3, .int _)]) rfl ?_
    refine jj_for (P := fun i => jj_J E 0 0 Q (wm b c1 v th z) 59 [(0, .ref (b 0)), (1, .int (nI 3)), (2, .int (nI (ts_cnt (ts_lt v) i))), (3, .int (nI i))] []) (N := ts_n v) ?_ ?_ 0 (Nat.zero_le _)
    · refine jj_iload_n hC dX1_counted_59 rfl ?_
      refine jj_aload_n hC dX1_counted_60 rfl ?_
      refine jj_get hC 0 2 dX1_counted_61 (by rfl) rfl (by decide) lkX1_counted_39 rfl hinX1_counted (by rfl) ?_
      refine jj_icmp_geT hC dX1_counted_64 (tgt := 89) (by decide) (nI_le (Nat.le_refl _) (by omega)) ?_
      refine jj_iload_n hC dX1_counted_89 rfl ?_
      exact hret _ _ _ z dX1_counted_90 (by rfl) rfl
    · intro i hi ih
      refine jj_iload_n hC dX1_counted_59 rfl ?_
      refine jj_aload_n hC dX1_counted_60 rfl ?_
      refine jj_get hC 0 2 dX1_counted_61 (by rfl) rfl (by decide) lkX1_counted_39 rfl hinX1_counted (by rfl) ?_
      refine jj_icmp_geF hC dX1_counted_64 (tgt := 89) (by decide) (nI_ge hi (by omega)) ?_
      refine jj_iload_n hC dX1_counted_67 rfl ?_
      refine jj_aload_n hC dX1_counted_68 rfl ?_
      refine jj_iload_n hC dX1_counted_69 rfl ?_
      refine jj_calli hC (mm_isLent _ _ b c1 c2 c3 v th z i (by omega)) gX1_counted_X1_isLent rfl 1 (by decide +kernel) ⟨by decide, by decide, by decide, by decide⟩ 0 1 (by rfl) rfl rfl rfl rfl (Nat.le_of_ble_eq_true rfl) dX1_counted_70 (fun r u hp => ?_)
      obtain rfl := hp
      refine jj_if_eqB hC dX1_counted_73 (tgt := 80) (by decide) (fun c73t => ?_) (fun c73f => ?_)
      · refine jj_iconst hC dX1_counted_80 (v := nI 0) (by decide) ?_
        first | refine jj_iaddN hC dX1_counted_81 ?_ | refine jj_iadd hC dX1_counted_81 ?_
        refine jj_istore_n hC dX1_counted_82 (by decide) [1, 2, 0, 3] (lv' := [(0, _), (1, _), (2, .int _), (3, _)]) rfl ?_
        refine jj_iincN hC dX1_counted_83 rfl (d9 := 1) (by decide) (by decide) [1, 2, 3, 0] (lv' := [(0, _), (1, _), (2, _), (3, .int _)]) rfl ?_
        refine jj_goto hC dX1_counted_86 (tgt := 59) (by decide) ?_
        exact jj_lv ih (by simp [ts_cnt, c73t])
      · refine jj_iconst hC dX1_counted_76 (v := nI 1) (by decide) ?_
        refine jj_goto hC dX1_counted_77 (tgt := 81) (by decide) ?_
        first | refine jj_iaddN hC dX1_counted_81 ?_ | refine jj_iadd hC dX1_counted_81 ?_
        refine jj_istore_n hC dX1_counted_82 (by decide) [1, 2, 0, 3] (lv' := [(0, _), (1, _), (2, .int _), (3, _)]) rfl ?_
        refine jj_iincN hC dX1_counted_83 rfl (d9 := 1) (by decide) (by decide) [1, 2, 3, 0] (lv' := [(0, _), (1, _), (2, _), (3, .int _)]) rfl ?_
        refine jj_goto hC dX1_counted_86 (tgt := 59) (by decide) ?_
        exact jj_lv ih (by simp [ts_cnt, c73f])
  · refine jj_tableIn hC dX1_counted_3 (by decide) (by decide) (off := 88) (by decide) (tgt := 91) (by decide) ?_
    refine jj_aload_n hC dX1_counted_91 rfl ?_
    refine jj_get hC 0 7 dX1_counted_92 (by rfl) rfl (by decide) lkX1_counted_22 rfl hinX1_counted (by rfl) ?_
    refine jj_iconst hC dX1_counted_95 (v := nI 1) (by decide) ?_
    refine jj_iald hC 5 0 dX1_counted_96 (wm_g5 ..) rfl (by omega) (by decide) ?_
    exact hret _ _ _ z dX1_counted_97 (by rfl) rfl
  · refine jj_tableIn hC dX1_counted_3 (by decide) (by decide) (off := 95) (by decide) (tgt := 98) (by decide) ?_
    refine jj_aload_n hC dX1_counted_98 rfl ?_
    refine jj_get hC 0 7 dX1_counted_99 (by rfl) rfl (by decide) lkX1_counted_22 rfl hinX1_counted (by rfl) ?_
    refine jj_iconst hC dX1_counted_102 (v := nI 2) (by decide) ?_
    refine jj_iald hC 5 0 dX1_counted_103 (wm_g5 ..) rfl (by omega) (by decide) ?_
    exact hret _ _ _ z dX1_counted_104 (by rfl) rfl
  · refine jj_tableOut hC dX1_counted_3 (Or.inr (by decide)) (tgt := 105) (by decide) ?_
    refine jj_aload_n hC dX1_counted_105 rfl ?_
    refine jj_calli hC (mm_allWorth _ _ b c1 c2 c3 v th z hI) gX1_counted_X1_allWorth rfl 0 (by decide +kernel) ⟨by decide, by decide, by decide, by decide⟩ 0 1 (by rfl) rfl rfl rfl rfl (Nat.le_of_ble_eq_true rfl) dX1_counted_106 (fun r u hp => ?_)
    obtain rfl := hp
    exact hret _ _ _ u dX1_counted_109 (by rfl) rfl
theorem lkX1_count_28 : Cond.fieldLink RX1 28 RX1 (TX1 0).2.1 (TX1 0).2.2.1 ∈ wsX1_count := by decide +kernel
theorem hinX1_count : ∀ w ∈ wsX10, w ∈ wsX1_count := by decide +kernel
set_option maxRecDepth 100000 in
set_option maxHeartbeats 4000000 in
theorem mo_count (l : Launch) (D : va_G) (b : Nat → Nat) (c1 c2 c3 : ClassId) (v : ts_V) (th : Int32) (z : Nat → Int32) (hI : ts_I v) (x0 : Int32) : jj_M l D (ts_T c1 c2 c3) yX1_count wsX1_count rX1_count [.ref (b 0), .int x0] (wm b c1 v th z) (Nat → Int32) (fun r _ => r = ts_if (ts_req (ts_in x0 7) jj_IO) (ts_cn v (ts_N x0)) (nI 0)) (fun u => wm b c1 (ts_if (ts_req (ts_in x0 7) jj_IO) (v) v) (ts_cd 1 0 0 (ts_req (ts_in x0 7) jj_IO)) u) := by
  obtain ⟨hn, hk, hth, hwk, hli, hgr⟩ := id hI
  refine jj_met (cc := cX1_count) (nL := 2) (by decide) rfl (Nat.le_of_ble_eq_true rfl) (fun E Q hC hEl hED hD0 hret => ?_)
  show jj_J E 0 0 Q (wm b c1 v th z) 0 [(0, .ref (b 0)), (1, .int x0)] []
  refine jj_aload_n hC dX1_count_0 rfl ?_
  refine jj_iconst hC dX1_count_1 (v := nI 0) (by decide) ?_
  refine jj_put hC 0 0 dX1_count_2 (by rfl) rfl (by decide) lkX1_count_28 rfl hinX1_count tyX1_ok nmX1 rfl rfl rfl rfl (Nat.le_of_ble_eq_true rfl) (wm_p0 ..) ?_
  refine jj_iload_n hC dX1_count_5 rfl ?_
  refine jj_iconst hC dX1_count_6 (v := nI 0) (by decide) ?_
  refine jj_bipush hC dX1_count_7 (v := nI 6) (by decide) ?_
  refine jj_scalliN hC (mm_isInN _ _ c1 c2 c3 x0 6 (by decide)) gX1_count_X1_isIn rfl 3 (by decide +kernel) ⟨by decide, by decide, by decide, by decide⟩ rfl rfl rfl (Nat.le_of_ble_eq_true rfl) dX1_count_9 (fun r u hp => ?_)
  obtain rfl := hp
  refine jj_if_eqB hC dX1_count_12 (tgt := 23) (by decide) (fun c12t => ?_) (fun c12f => ?_)
  · refine jj_aload_n hC dX1_count_23 rfl ?_
    refine jj_iconst hC dX1_count_24 (v := nI 1) (by decide) ?_
    refine jj_calli hC (mm_fail _ _ b c1 c2 c3 v (nI 0) z (nI 1)) gX1_count_X1_fail rfl 1 (by decide +kernel) ⟨by decide, by decide, by decide, by decide⟩ 0 1 (by rfl) rfl rfl rfl rfl (Nat.le_of_ble_eq_true rfl) dX1_count_25 (fun r u hp => ?_)
    obtain rfl := hp
    have eO : (ts_req (ts_in x0 7) jj_IO) = some jj_IO := by
      first
        | (simp [ts_req, c12t]; done)
        | (simp [ts_req, c12t]
           repeat' split
           all_goals simp_all)
    rw [eO, ts_cdIO] at hret
    exact hret _ _ _ z dX1_count_28 (by rfl) rfl
  · obtain ⟨j0, hj0, rfl⟩ := ts_in_of c12f (by omega)
    have eNj0 : ts_N (nI j0) = j0 := ts_N_nI (by omega)
    refine jj_aload_n hC dX1_count_15 rfl ?_
    refine jj_iload_n hC dX1_count_16 rfl ?_
    refine jj_calli hC (mm_counted _ _ b c1 c2 c3 v (nI 0) z hI j0 hj0) gX1_count_X1_counted rfl 1 (by decide +kernel) ⟨by decide, by decide, by decide, by decide⟩ 0 1 (by rfl) rfl rfl rfl rfl (Nat.le_of_ble_eq_true rfl) dX1_count_17 (fun r u hp => ?_)
    obtain rfl := hp
    revert u
    intro z1
    refine jj_goto hC dX1_count_20 (tgt := 28) (by decide) ?_
    simp only [eNj0] at hret
    have eO : (ts_req (ts_in (nI j0) 7) jj_IO) = none := by simp [ts_req, c12f]
    rw [eO] at hret
    exact hret _ _ _ z1 dX1_count_28 (by rfl) (rfl)
theorem lkX1_mean_28 : Cond.fieldLink RX1 28 RX1 (TX1 0).2.1 (TX1 0).2.2.1 ∈ wsX1_mean := by decide +kernel
theorem lkX1_mean_39 : Cond.fieldLink RX1 39 RX1 (TX1 2).2.1 (TX1 2).2.2.1 ∈ wsX1_mean := by decide +kernel
theorem hinX1_mean : ∀ w ∈ wsX10, w ∈ wsX1_mean := by decide +kernel
set_option maxRecDepth 100000 in
set_option maxHeartbeats 4000000 in
theorem mo_mean (l : Launch) (D : va_G) (b : Nat → Nat) (c1 c2 c3 : ClassId) (v : ts_V) (th : Int32) (z : Nat → Int32) (hI : ts_I v) : jj_Md l D (ts_T c1 c2 c3) yX1_mean wsX1_mean rX1_mean [.ref (b 0)] (wm b c1 v th z) (Nat → Int32) (fun x _ => x = ts_me v) (fun u => wm b c1 v (nI 0) u) := by
  obtain ⟨hn, hk, hth, hwk, hli, hgr⟩ := id hI
  refine jj_metd (cc := cX1_mean) (nL := 1) (by decide) rfl (Nat.le_of_ble_eq_true rfl) (fun E Q hC hEl hED hD0 hret => ?_)
  show jj_J E 0 0 Q (wm b c1 v th z) 0 [(0, .ref (b 0))] []
  refine jj_aload_n hC dX1_mean_0 rfl ?_
  refine jj_iconst hC dX1_mean_1 (v := nI 0) (by decide) ?_
  refine jj_put hC 0 0 dX1_mean_2 (by rfl) rfl (by decide) lkX1_mean_28 rfl hinX1_mean tyX1_ok nmX1 rfl rfl rfl rfl (Nat.le_of_ble_eq_true rfl) (wm_p0 ..) ?_
  refine jj_aload_n hC dX1_mean_5 rfl ?_
  refine jj_get hC 0 2 dX1_mean_6 (by rfl) rfl (by decide) lkX1_mean_39 rfl hinX1_mean (by rfl) ?_
  refine jj_if_ne hC dX1_mean_9 (tgt := 16) (by decide) (fun c9t => ?_) (fun c9f => ?_)
  · have h0 : ts_n v ≠ 0 := fun e => c9t (by rw [e]; rfl)
    refine jj_aload_n hC dX1_mean_16 rfl ?_
    refine jj_calli hC (mm_allWorth _ _ b c1 c2 c3 v (nI 0) z hI) gX1_mean_X1_allWorth rfl 0 (by decide +kernel) ⟨by decide, by decide, by decide, by decide⟩ 0 1 (by rfl) rfl rfl rfl rfl (Nat.le_of_ble_eq_true rfl) dX1_mean_17 (fun r u hp => ?_)
    obtain rfl := hp
    refine jj_i2d hC dX1_mean_20 ?_
    refine jj_aload_n hC dX1_mean_21 rfl ?_
    refine jj_get hC 0 2 dX1_mean_22 (by rfl) rfl (by decide) lkX1_mean_39 rfl hinX1_mean (by rfl) ?_
    refine jj_i2d hC dX1_mean_25 ?_
    refine jj_ddiv hC dX1_mean_26 (ts_nn _ _ (by rw [nI_toInt (by omega)]; omega)) ?_
    exact hret _ _ _ u dX1_mean_27 (by unfold ts_me; rw [if_neg h0])
  · have h0 : ts_n v = 0 := by have e := congrArg Int32.toInt c9f; rw [nI_toInt (by omega)] at e; exact Int.ofNat_eq_zero.mp e
    refine jj_dconst0 hC dX1_mean_12 ?_
    refine jj_goto hC dX1_mean_13 (tgt := 27) (by decide) ?_
    exact hret _ _ _ z dX1_mean_27 (by unfold ts_me; rw [if_pos h0])
theorem lkX1_digest_28 : Cond.fieldLink RX1 28 RX1 (TX1 0).2.1 (TX1 0).2.2.1 ∈ wsX1_digest := by decide +kernel
theorem mlX1_digest_139 : Cond.constantLong RX1 139 (761) ∈ wsX1_digest := by decide +kernel
theorem mlX1_digest_141 : Cond.constantLong RX1 141 (31) ∈ wsX1_digest := by decide +kernel
theorem lkX1_digest_13 : Cond.fieldLink RX1 13 RX1 (TX1 4).2.1 (TX1 4).2.2.1 ∈ wsX1_digest := by decide +kernel
theorem lkX1_digest_32 : Cond.fieldLink RX1 32 RX1 (TX1 1).2.1 (TX1 1).2.2.1 ∈ wsX1_digest := by decide +kernel
theorem lkX1_digest_16 : Cond.fieldLink RX1 16 RX1 (TX1 5).2.1 (TX1 5).2.2.1 ∈ wsX1_digest := by decide +kernel
theorem lkX1_digest_39 : Cond.fieldLink RX1 39 RX1 (TX1 2).2.1 (TX1 2).2.2.1 ∈ wsX1_digest := by decide +kernel
theorem hinX1_digest : ∀ w ∈ wsX10, w ∈ wsX1_digest := by decide +kernel
set_option maxRecDepth 100000 in
set_option maxHeartbeats 4000000 in
theorem mo_digest (l : Launch) (D : va_G) (b : Nat → Nat) (c1 c2 c3 : ClassId) (v : ts_V) (th : Int32) (z : Nat → Int32) (hI : ts_I v) : jj_Ml l D (ts_T c1 c2 c3) yX1_digest wsX1_digest rX1_digest [.ref (b 0)] (wm b c1 v th z) (Nat → Int32) (fun x _ => x = ts_dg v) (fun u => wm b c1 v (nI 0) u) := by
  obtain ⟨hn, hk, hth, hwk, hli, hgr⟩ := id hI
  refine jj_metl (cc := cX1_digest) (nL := 5) (by decide) rfl (Nat.le_of_ble_eq_true rfl) (fun E Q hC hEl hED hD0 hret => ?_)
  show jj_J E 0 0 Q (wm b c1 v th z) 0 [(0, .ref (b 0))] []
  refine jj_aload_n hC dX1_digest_0 rfl ?_
  refine jj_iconst hC dX1_digest_1 (v := nI 0) (by decide) ?_
  refine jj_put hC 0 0 dX1_digest_2 (by rfl) rfl (by decide) lkX1_digest_28 rfl hinX1_digest tyX1_ok nmX1 rfl rfl rfl rfl (Nat.le_of_ble_eq_true rfl) (wm_p0 ..) ?_
  refine jj_ldc2 hC dX1_digest_5 mlX1_digest_139 ?_
  refine jj_lstore_n hC dX1_digest_8 (by decide) [1, 0] (lv' := [(0, _), (1, .long _)]) rfl ?_
  refine jj_iconst hC dX1_digest_9 (v := nI 0) (by decide) ?_
  refine jj_istore_n hC dX1_digest_10 (by decide) [1, 2, 0] (lv' := [(0, _), (1, _), (3, .int _)]) rfl ?_
  refine jj_for (P := fun i => ∀ z1 : Nat → Int32, jj_J E 0 0 Q (wm b c1 v (nI 0) z1) 11 [(0, .ref (b 0)), (1, .long (ts_fo (ts_cn v) 761 i)), (3, .int (nI i))] []) (N := 7) ?_ ?_ 0 (Nat.zero_le _) _
  · intro z1
    refine jj_iload_n hC dX1_digest_11 rfl ?_
    refine jj_bipush hC dX1_digest_12 (v := nI 7) (by decide) ?_
    refine jj_icmp_geT hC dX1_digest_14 (tgt := 36) (by decide) (nI_le (Nat.le_refl _) (by omega)) ?_
    refine jj_iconst hC dX1_digest_36 (v := nI 0) (by decide) ?_
    refine jj_istore_n hC dX1_digest_37 (by decide) [1, 2, 0] (lv' := [(0, _), (1, _), (3, .int _)]) rfl ?_
    refine jj_for (P := fun i => ∀ z1 : Nat → Int32, jj_J E 0 0 Q (wm b c1 v (nI 0) z1) 38 [(0, .ref (b 0)), (1, .long (ts_fL (ts_dc v) (ts_fo (ts_cn v) 761 7) i)), (3, .int (nI i))] []) (N := ts_k v) ?_ ?_ 0 (Nat.zero_le _) _
    · intro z1
      refine jj_iload_n hC dX1_digest_38 rfl ?_
      refine jj_aload_n hC dX1_digest_39 rfl ?_
      refine jj_get hC 0 1 dX1_digest_40 (by rfl) rfl (by decide) lkX1_digest_32 rfl hinX1_digest (by rfl) ?_
      refine jj_icmp_geT hC dX1_digest_43 (tgt := 157) (by decide) (nI_le (Nat.le_refl _) (by omega)) ?_
      refine jj_iconst hC dX1_digest_157 (v := nI 0) (by decide) ?_
      refine jj_istore_n hC dX1_digest_158 (by decide) [1, 2, 0] (lv' := [(0, _), (1, _), (3, .int _)]) rfl ?_
      refine jj_for (P := fun i => jj_J E 0 0 Q (wm b c1 v (nI 0) z1) 159 [(0, .ref (b 0)), (1, .long (ts_fL (ts_dt v) (ts_fL (ts_dc v) (ts_fo (ts_cn v) 761 7) (ts_k v)) i)), (3, .int (nI i))] []) (N := ts_n v) ?_ ?_ 0 (Nat.zero_le _)
      · refine jj_iload_n hC dX1_digest_159 rfl ?_
        refine jj_aload_n hC dX1_digest_160 rfl ?_
        refine jj_get hC 0 2 dX1_digest_161 (by rfl) rfl (by decide) lkX1_digest_39 rfl hinX1_digest (by rfl) ?_
        refine jj_icmp_geT hC dX1_digest_164 (tgt := 204) (by decide) (nI_le (Nat.le_refl _) (by omega)) ?_
        refine jj_lload_n hC dX1_digest_204 rfl ?_
        exact hret _ _ _ z1 dX1_digest_205 rfl
      · intro i hi ih
        refine jj_iload_n hC dX1_digest_159 rfl ?_
        refine jj_aload_n hC dX1_digest_160 rfl ?_
        refine jj_get hC 0 2 dX1_digest_161 (by rfl) rfl (by decide) lkX1_digest_39 rfl hinX1_digest (by rfl) ?_
        refine jj_icmp_geF hC dX1_digest_164 (tgt := 204) (by decide) (nI_ge hi (by omega)) ?_
        refine jj_iconst hC dX1_digest_167 (v := nI 0) (by decide) ?_
        refine jj_istore hC dX1_digest_168 (by decide) [1, 2, 3, 0] (lv' := [(0, _), (1, _), (3, _), (4, .int _)]) rfl ?_
        refine jj_for (P := fun j => jj_J E 0 0 Q (wm b c1 v (nI 0) z1) 170 [(0, .ref (b 0)), (1, .long (ts_fo (fun w => ts_col v w i) (ts_fL (ts_dt v) (ts_fL (ts_dc v) (ts_fo (ts_cn v) 761 7) (ts_k v)) i) j)), (3, .int (nI i)), (4, .int (nI j))] []) (N := 6) ?_ ?_ 0 (Nat.zero_le _)
        · refine jj_iload hC dX1_digest_170 rfl ?_
          refine jj_bipush hC dX1_digest_172 (v := nI 6) (by decide) ?_
          refine jj_icmp_geT hC dX1_digest_174 (tgt := 198) (by decide) (nI_le (Nat.le_refl _) (by omega)) ?_
          refine jj_iincN hC dX1_digest_198 rfl (d9 := 1) (by decide) (by decide) [1, 2, 0, 3] (lv' := [(0, _), (1, _), (3, .int _), (4, _)]) rfl ?_
          refine jj_goto hC dX1_digest_201 (tgt := 159) (by decide) ?_
          refine jj_sub [0, 1, 2] (lv' := [(0, _), (1, _), (3, _)]) rfl ih
        · intro j hj ih2
          refine jj_iload hC dX1_digest_170 rfl ?_
          refine jj_bipush hC dX1_digest_172 (v := nI 6) (by decide) ?_
          refine jj_icmp_geF hC dX1_digest_174 (tgt := 198) (by decide) (nI_ge hj (by omega)) ?_
          refine jj_lload_n hC dX1_digest_177 rfl ?_
          refine jj_ldc2 hC dX1_digest_178 mlX1_digest_141 ?_
          refine jj_lmul hC dX1_digest_181 ?_
          refine jj_aload_n hC dX1_digest_182 rfl ?_
          refine jj_iload_n hC dX1_digest_183 rfl ?_
          refine jj_iload hC dX1_digest_184 rfl ?_
          refine jj_calli hC (mm_th _ _ b c1 c2 c3 v (nI 0) z1 i j (by omega) (by omega)) gX1_digest_X1_th rfl 2 (by decide +kernel) ⟨by decide, by decide, by decide, by decide⟩ 0 1 (by rfl) rfl rfl rfl rfl (Nat.le_of_ble_eq_true rfl) dX1_digest_186 (fun r u hp => ?_)
          obtain rfl := hp
          refine jj_i2l hC dX1_digest_189 ?_
          refine jj_ladd hC dX1_digest_190 ?_
          refine jj_lstore_n hC dX1_digest_191 (by decide) [1, 0, 2, 3] (lv' := [(0, _), (1, .long _), (3, _), (4, _)]) rfl ?_
          refine jj_iincN hC dX1_digest_192 rfl (d9 := 1) (by decide) (by decide) [1, 2, 3, 0] (lv' := [(0, _), (1, _), (3, _), (4, .int _)]) rfl ?_
          refine jj_goto hC dX1_digest_195 (tgt := 170) (by decide) ?_
          exact ih2
    · intro i hi ih z1
      refine jj_iload_n hC dX1_digest_38 rfl ?_
      refine jj_aload_n hC dX1_digest_39 rfl ?_
      refine jj_get hC 0 1 dX1_digest_40 (by rfl) rfl (by decide) lkX1_digest_32 rfl hinX1_digest (by rfl) ?_
      refine jj_icmp_geF hC dX1_digest_43 (tgt := 157) (by decide) (nI_ge hi (by omega)) ?_
      refine jj_iconst hC dX1_digest_46 (v := nI 0) (by decide) ?_
      refine jj_istore hC dX1_digest_47 (by decide) [1, 2, 3, 0] (lv' := [(0, _), (1, _), (3, _), (4, .int _)]) rfl ?_
      refine jj_for (P := fun j => ∀ z1 : Nat → Int32, jj_J E 0 0 Q (wm b c1 v (nI 0) z1) 49 [(0, .ref (b 0)), (1, .long (ts_fo (fun w => ts_ct v i w) (ts_fL (ts_dc v) (ts_fo (ts_cn v) 761 7) i) j)), (3, .int (nI i)), (4, .int (nI j))] []) (N := 7) ?_ ?_ 0 (Nat.zero_le _) _
      · intro z1
        refine jj_iload hC dX1_digest_49 rfl ?_
        refine jj_bipush hC dX1_digest_51 (v := nI 7) (by decide) ?_
        refine jj_icmp_geT hC dX1_digest_53 (tgt := 77) (by decide) (nI_le (Nat.le_refl _) (by omega)) ?_
        refine jj_iconst hC dX1_digest_77 (v := nI 0) (by decide) ?_
        refine jj_istore hC dX1_digest_78 (by decide) [1, 2, 3, 0] (lv' := [(0, _), (1, _), (3, _), (4, .int _)]) rfl ?_
        refine jj_for (P := fun j => jj_J E 0 0 Q (wm b c1 v (nI 0) z1) 80 [(0, .ref (b 0)), (1, .long (ts_fo (fun s => nI (ts_li v i s)) (ts_fo (fun w => ts_ct v i w) (ts_fL (ts_dc v) (ts_fo (ts_cn v) 761 7) i) 7) j)), (3, .int (nI i)), (4, .int (nI j))] []) (N := 8) ?_ ?_ 0 (Nat.zero_le _)
        · refine jj_iload hC dX1_digest_80 rfl ?_
          refine jj_bipush hC dX1_digest_82 (v := nI 8) (by decide) ?_
          refine jj_icmp_geT hC dX1_digest_84 (tgt := 113) (by decide) (nI_le (Nat.le_refl _) (by omega)) ?_
          refine jj_iconst hC dX1_digest_113 (v := nI 0) (by decide) ?_
          refine jj_istore hC dX1_digest_114 (by decide) [1, 2, 3, 0] (lv' := [(0, _), (1, _), (3, _), (4, .int _)]) rfl ?_
          refine jj_for (P := fun j => jj_J E 0 0 Q (wm b c1 v (nI 0) z1) 116 [(0, .ref (b 0)), (1, .long (ts_fo (fun o => nI (ts_gr v i o)) (ts_fo (fun s => nI (ts_li v i s)) (ts_fo (fun w => ts_ct v i w) (ts_fL (ts_dc v) (ts_fo (ts_cn v) 761 7) i) 7) 8) j)), (3, .int (nI i)), (4, .int (nI j))] []) (N := ts_k v) ?_ ?_ 0 (Nat.zero_le _)
          · refine jj_iload hC dX1_digest_116 rfl ?_
            refine jj_aload_n hC dX1_digest_118 rfl ?_
            refine jj_get hC 0 1 dX1_digest_119 (by rfl) rfl (by decide) lkX1_digest_32 rfl hinX1_digest (by rfl) ?_
            refine jj_icmp_geT hC dX1_digest_122 (tgt := 151) (by decide) (nI_le (Nat.le_refl _) (by omega)) ?_
            refine jj_iincN hC dX1_digest_151 rfl (d9 := 1) (by decide) (by decide) [1, 2, 0, 3] (lv' := [(0, _), (1, _), (3, .int _), (4, _)]) rfl ?_
            refine jj_goto hC dX1_digest_154 (tgt := 38) (by decide) ?_
            refine jj_sub [0, 1, 2] (lv' := [(0, _), (1, _), (3, _)]) rfl (ih _)
          · intro j hj ih2
            refine jj_iload hC dX1_digest_116 rfl ?_
            refine jj_aload_n hC dX1_digest_118 rfl ?_
            refine jj_get hC 0 1 dX1_digest_119 (by rfl) rfl (by decide) lkX1_digest_32 rfl hinX1_digest (by rfl) ?_
            refine jj_icmp_geF hC dX1_digest_122 (tgt := 151) (by decide) (nI_ge hj (by omega)) ?_
            refine jj_lload_n hC dX1_digest_125 rfl ?_
            refine jj_ldc2 hC dX1_digest_126 mlX1_digest_141 ?_
            refine jj_lmul hC dX1_digest_129 ?_
            refine jj_aload_n hC dX1_digest_130 rfl ?_
            refine jj_get hC 0 5 dX1_digest_131 (by rfl) rfl (by decide) lkX1_digest_16 rfl hinX1_digest (by rfl) ?_
            refine jj_bipush hC dX1_digest_134 (v := nI 7) (by decide) ?_
            refine jj_iload_n hC dX1_digest_136 rfl ?_
            first | refine jj_imulN hC dX1_digest_137 ?_ | refine jj_imul hC dX1_digest_137 ?_
            refine jj_iload hC dX1_digest_138 rfl ?_
            first | refine jj_iaddN hC dX1_digest_140 ?_ | refine jj_iadd hC dX1_digest_140 ?_
            refine jj_iald hC 3 0 dX1_digest_141 (wm_g3 ..) rfl (by omega) (by decide) ?_
            rw [show (7 * i + j) / 7 = i by omega, show (7 * i + j) % 7 = j by omega]
            refine jj_i2l hC dX1_digest_142 ?_
            refine jj_ladd hC dX1_digest_143 ?_
            refine jj_lstore_n hC dX1_digest_144 (by decide) [1, 0, 2, 3] (lv' := [(0, _), (1, .long _), (3, _), (4, _)]) rfl ?_
            refine jj_iincN hC dX1_digest_145 rfl (d9 := 1) (by decide) (by decide) [1, 2, 3, 0] (lv' := [(0, _), (1, _), (3, _), (4, .int _)]) rfl ?_
            refine jj_goto hC dX1_digest_148 (tgt := 116) (by decide) ?_
            exact ih2
        · intro j hj ih2
          refine jj_iload hC dX1_digest_80 rfl ?_
          refine jj_bipush hC dX1_digest_82 (v := nI 8) (by decide) ?_
          refine jj_icmp_geF hC dX1_digest_84 (tgt := 113) (by decide) (nI_ge hj (by omega)) ?_
          refine jj_lload_n hC dX1_digest_87 rfl ?_
          refine jj_ldc2 hC dX1_digest_88 mlX1_digest_141 ?_
          refine jj_lmul hC dX1_digest_91 ?_
          refine jj_aload_n hC dX1_digest_92 rfl ?_
          refine jj_get hC 0 4 dX1_digest_93 (by rfl) rfl (by decide) lkX1_digest_13 rfl hinX1_digest (by rfl) ?_
          refine jj_bipush hC dX1_digest_96 (v := nI 8) (by decide) ?_
          refine jj_iload_n hC dX1_digest_98 rfl ?_
          first | refine jj_imulN hC dX1_digest_99 ?_ | refine jj_imul hC dX1_digest_99 ?_
          refine jj_iload hC dX1_digest_100 rfl ?_
          first | refine jj_iaddN hC dX1_digest_102 ?_ | refine jj_iadd hC dX1_digest_102 ?_
          refine jj_iald hC 2 0 dX1_digest_103 (wm_g2 ..) rfl (by omega) (by decide) ?_
          rw [show (8 * i + j) / 8 = i by omega, show (8 * i + j) % 8 = j by omega]
          refine jj_i2l hC dX1_digest_104 ?_
          refine jj_ladd hC dX1_digest_105 ?_
          refine jj_lstore_n hC dX1_digest_106 (by decide) [1, 0, 2, 3] (lv' := [(0, _), (1, .long _), (3, _), (4, _)]) rfl ?_
          refine jj_iincN hC dX1_digest_107 rfl (d9 := 1) (by decide) (by decide) [1, 2, 3, 0] (lv' := [(0, _), (1, _), (3, _), (4, .int _)]) rfl ?_
          refine jj_goto hC dX1_digest_110 (tgt := 80) (by decide) ?_
          exact ih2
      · intro j hj ih2 z1
        refine jj_iload hC dX1_digest_49 rfl ?_
        refine jj_bipush hC dX1_digest_51 (v := nI 7) (by decide) ?_
        refine jj_icmp_geF hC dX1_digest_53 (tgt := 77) (by decide) (nI_ge hj (by omega)) ?_
        refine jj_lload_n hC dX1_digest_56 rfl ?_
        refine jj_ldc2 hC dX1_digest_57 mlX1_digest_141 ?_
        refine jj_lmul hC dX1_digest_60 ?_
        refine jj_aload_n hC dX1_digest_61 rfl ?_
        refine jj_iload_n hC dX1_digest_62 rfl ?_
        refine jj_iload hC dX1_digest_63 rfl ?_
        refine jj_calli hC (mm_collectorTold _ _ b c1 c2 c3 v (nI 0) z1 hI i j hi hj) gX1_digest_X1_collectorTold rfl 2 (by decide +kernel) ⟨by decide, by decide, by decide, by decide⟩ 0 1 (by rfl) rfl rfl rfl rfl (Nat.le_of_ble_eq_true rfl) dX1_digest_65 (fun r u hp => ?_)
        obtain rfl := hp
        revert u
        intro z2
        refine jj_i2l hC dX1_digest_68 ?_
        refine jj_ladd hC dX1_digest_69 ?_
        refine jj_lstore_n hC dX1_digest_70 (by decide) [1, 0, 2, 3] (lv' := [(0, _), (1, .long _), (3, _), (4, _)]) rfl ?_
        refine jj_iincN hC dX1_digest_71 rfl (d9 := 1) (by decide) (by decide) [1, 2, 3, 0] (lv' := [(0, _), (1, _), (3, _), (4, .int _)]) rfl ?_
        refine jj_goto hC dX1_digest_74 (tgt := 49) (by decide) ?_
        exact ih2 _
  · intro i hi ih z1
    refine jj_iload_n hC dX1_digest_11 rfl ?_
    refine jj_bipush hC dX1_digest_12 (v := nI 7) (by decide) ?_
    refine jj_icmp_geF hC dX1_digest_14 (tgt := 36) (by decide) (nI_ge hi (by omega)) ?_
    refine jj_lload_n hC dX1_digest_17 rfl ?_
    refine jj_ldc2 hC dX1_digest_18 mlX1_digest_141 ?_
    refine jj_lmul hC dX1_digest_21 ?_
    refine jj_aload_n hC dX1_digest_22 rfl ?_
    refine jj_iload_n hC dX1_digest_23 rfl ?_
    refine jj_calli hC (mm_counted _ _ b c1 c2 c3 v (nI 0) z1 hI i hi) gX1_digest_X1_counted rfl 1 (by decide +kernel) ⟨by decide, by decide, by decide, by decide⟩ 0 1 (by rfl) rfl rfl rfl rfl (Nat.le_of_ble_eq_true rfl) dX1_digest_24 (fun r u hp => ?_)
    obtain rfl := hp
    revert u
    intro z2
    refine jj_i2l hC dX1_digest_27 ?_
    refine jj_ladd hC dX1_digest_28 ?_
    refine jj_lstore_n hC dX1_digest_29 (by decide) [1, 0, 2] (lv' := [(0, _), (1, .long _), (3, _)]) rfl ?_
    refine jj_iincN hC dX1_digest_30 rfl (d9 := 1) (by decide) (by decide) [1, 2, 0] (lv' := [(0, _), (1, _), (3, .int _)]) rfl ?_
    refine jj_goto hC dX1_digest_33 (tgt := 11) (by decide) ?_
    exact ih _
