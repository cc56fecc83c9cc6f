theorem ts_getapp {W : va_W} {x : Nat × va_E} {k : Nat} (h : W.length = k) : (W ++ [x])[k]? = some x := by
  subst h
  simp
theorem ts_setapp {W : va_W} {x y : Nat × va_E} {k : Nat} (h : W.length = k) : (W ++ [x]).set k y = W ++ [y] := by
  subst h
  simp
theorem ts_gL {W X : va_W} {y : Nat × va_E} {k : Nat} (h : W[k]? = some y) : (W ++ X)[k]? = some y := by
  rw [List.getElem?_append_left (List.getElem?_eq_some_iff.mp h).1]
  exact h
theorem ts_sL {W X : va_W} {y : Nat × va_E} {k : Nat} {W' : va_W} (hk : k < W.length) (h : W.set k y = W') : (W ++ X).set k y = W' ++ X := by
  rw [List.set_append_left _ _ hk, h]
theorem wm_len (b : Nat → Nat) (c1 : ClassId) (v : ts_V) (th : Int32) (z : Nat → Int32) : (wm b c1 v th z).length = 7 := rfl
theorem ts_fcol {v : ts_V} (hw0 : ts_wk v (ts_n v) = 0) (c s u m t : Nat) : (fun i => ts_col (ts_n' (ts_fd v c s u m t) (ts_n v)) (i % 7) (i / 7)) = va_cpy (upd (upd (upd (upd (upd (upd (upd (fun _ => 0) 0 (nI s)) 1 (nI u)) 2 (nI m)) 3 (nI t)) 4 (nI c)) 5 (-1)) 6 (nI 0)) (fun i => ts_col v (i % 7) (i / 7)) 0 (7 * ts_n v) 7 := by
  funext i
  unfold va_cpy
  by_cases h : 7 * ts_n v ≤ i ∧ i < 7 * ts_n v + 7
  · rw [if_pos h]
    obtain ⟨w, hw, rfl⟩ : ∃ w, w < 7 ∧ i = 7 * ts_n v + w := ⟨i - 7 * ts_n v, by omega, by omega⟩
    rw [show (7 * ts_n v + w) % 7 = w by omega, show (7 * ts_n v + w) / 7 = ts_n v by omega, show 0 + (7 * ts_n v + w - 7 * ts_n v) = w by omega]
    have key : ∀ w, w < 7 → ts_col (ts_n' (ts_fd v c s u m t) (ts_n v)) w (ts_n v) = upd (upd (upd (upd (upd (upd (upd (fun _ => 0) 0 (nI s)) 1 (nI u)) 2 (nI m)) 3 (nI t)) 4 (nI c)) 5 (-1)) 6 (nI 0) w := by
      refine ts_7 ?_ ?_ ?_ ?_ ?_ ?_ ?_
      all_goals simp [ts_col, ts_fd, va_up, upd, ts_n', ts_se', ts_nu', ts_ha', ts_st', ts_ow', ts_ti', ts_n, ts_se, ts_nu, ts_ha, ts_st, ts_ow, ts_ti, ts_wk]
      exact hw0
    exact key w hw
  · rw [if_neg h]
    have hne : ¬ i / 7 = ts_n v := by omega
    have key : ∀ w, w < 7 → ts_col (ts_n' (ts_fd v c s u m t) (ts_n v)) w (i / 7) = ts_col v w (i / 7) := by
      refine ts_7 ?_ ?_ ?_ ?_ ?_ ?_ ?_
      all_goals
        have hne2 : ¬ i / 7 = v.1.1 := hne
        simp [ts_col, ts_fd, va_up, hne2, ts_n', ts_se', ts_nu', ts_ha', ts_st', ts_ow', ts_ti', ts_n, ts_se, ts_nu, ts_ha, ts_st, ts_ow, ts_ti, ts_wk]
    exact key _ (Nat.mod_lt _ (by decide))
theorem ahX1_find : Cond.arrayClass .int ∈ wsX1_find := by decide +kernel
theorem cpm1X1_find : Cond.methodLink RX1 57 arraycopyName ∈ wsX1_find := by decide +kernel
theorem cpm2X1_find : Cond.native arraycopyName ∈ wsX1_find := by decide +kernel
theorem cpm3X1_find : Cond.static arraycopyName ∈ wsX1_find := by decide +kernel
theorem cpm4X1_find : Cond.initialized "java/lang/System" ∈ wsX1_find := by decide +kernel
theorem lkX1_find_28 : Cond.fieldLink RX1 28 RX1 (TX1 0).2.1 (TX1 0).2.2.1 ∈ wsX1_find := by decide +kernel
theorem lkX1_find_39 : Cond.fieldLink RX1 39 RX1 (TX1 2).2.1 (TX1 2).2.2.1 ∈ wsX1_find := by decide +kernel
theorem lkX1_find_9 : Cond.fieldLink RX1 9 RX1 (TX1 3).2.1 (TX1 3).2.2.1 ∈ wsX1_find := by decide +kernel
theorem hinX1_find : ∀ w ∈ wsX10, w ∈ wsX1_find := by decide +kernel
set_option maxRecDepth 100000 in
set_option maxHeartbeats 4000000 in
theorem mo_find (l : Launch) (D : va_G) (b : Nat → Nat) (c1 c2 c3 : ClassId) (v : ts_V) (th : Int32) (z : Nat → Int32) (hI : ts_I v) (x0 x1 x2 x3 x4 : Int32) : jj_M l D (ts_T c1 c2 c3) yX1_find wsX1_find rX1_find [.ref (b 0), .int x0, .int x1, .int x2, .int x3, .int x4] (wm b c1 v th z) (Nat → Int32) (fun r _ => r = ts_if (((ts_req (ts_in x0 (ts_k v)) jj_IO).or (ts_req (ts_in x1 8 && (ts_in x2 6 && (ts_in x3 20 && ts_in x4 10))) jj_IA)).or (ts_req (decide (ts_n v < 36)) jj_IS)) (nI (ts_n v)) (nI 0)) (fun u => wm b c1 (ts_if (((ts_req (ts_in x0 (ts_k v)) jj_IO).or (ts_req (ts_in x1 8 && (ts_in x2 6 && (ts_in x3 20 && ts_in x4 10))) jj_IA)).or (ts_req (decide (ts_n v < 36)) jj_IS)) ((ts_fd v (ts_N x0) (ts_N x1) (ts_N x2) (ts_N x3) (ts_N x4))) v) (ts_cd 1 2 3 (((ts_req (ts_in x0 (ts_k v)) jj_IO).or (ts_req (ts_in x1 8 && (ts_in x2 6 && (ts_in x3 20 && ts_in x4 10))) jj_IA)).or (ts_req (decide (ts_n v < 36)) jj_IS))) u) := by
  obtain ⟨hn, hk, hth, hwk, hli, hgr⟩ := id hI
  refine jj_met (cc := cX1_find) (nL := 7) (by decide) rfl (Nat.le_of_ble_eq_true rfl) (fun E Q hC hEl hED hD0 hret => ?_)
  show jj_J E 0 0 Q (wm b c1 v th z) 0 [(0, .ref (b 0)), (1, .int x0), (2, .int x1), (3, .int x2), (4, .int x3), (5, .int x4)] []
  refine jj_aload_n hC dX1_find_0 rfl ?_
  refine jj_iconst hC dX1_find_1 (v := nI 0) (by decide) ?_
  refine jj_put hC 0 0 dX1_find_2 (by rfl) rfl (by decide) lkX1_find_28 rfl hinX1_find tyX1_ok nmX1 rfl rfl rfl rfl (Nat.le_of_ble_eq_true rfl) (wm_p0 ..) ?_
  refine jj_aload_n hC dX1_find_5 rfl ?_
  refine jj_iload_n hC dX1_find_6 rfl ?_
  refine jj_calli hC (mm_isCollector _ _ b c1 c2 c3 v (nI 0) z hI x0) gX1_find_X1_isCollector rfl 1 (by decide +kernel) ⟨by decide, by decide, by decide, by decide⟩ 0 1 (by rfl) rfl rfl rfl rfl (Nat.le_of_ble_eq_true rfl) dX1_find_7 (fun r u hp => ?_)
  obtain rfl := hp
  refine jj_if_neB hC dX1_find_10 (tgt := 19) (by decide) (fun c10t => ?_) (fun c10f => ?_)
  · refine jj_iload_n hC dX1_find_19 rfl ?_
    refine jj_scalliN hC (mm_isSet _ _ c1 c2 c3 x1) gX1_find_X1_isSet rfl 1 (by decide +kernel) ⟨by decide, by decide, by decide, by decide⟩ rfl rfl rfl (Nat.le_of_ble_eq_true rfl) dX1_find_20 (fun r u hp => ?_)
    obtain rfl := hp
    refine jj_if_eqB hC dX1_find_23 (tgt := 57) (by decide) (fun c23t => ?_) (fun c23f => ?_)
    · refine jj_aload_n hC dX1_find_57 rfl ?_
      refine jj_iconst hC dX1_find_58 (v := nI 2) (by decide) ?_
      refine jj_calli hC (mm_fail _ _ b c1 c2 c3 v (nI 0) z (nI 2)) gX1_find_X1_fail rfl 1 (by decide +kernel) ⟨by decide, by decide, by decide, by decide⟩ 0 1 (by rfl) rfl rfl rfl rfl (Nat.le_of_ble_eq_true rfl) dX1_find_59 (fun r u hp => ?_)
      obtain rfl := hp
      have eO : (((ts_req (ts_in x0 (ts_k v)) jj_IO).or (ts_req (ts_in x1 8 && (ts_in x2 6 && (ts_in x3 20 && ts_in x4 10))) jj_IA)).or (ts_req (decide (ts_n v < 36)) jj_IS)) = some jj_IA := by
        first
          | (simp [ts_req, c10t, c23t]; done)
          | (simp [ts_req, c10t, c23t]
             repeat' split
             all_goals simp_all)
      rw [eO, ts_cdIA] at hret
      exact jj_widen (Nat.le_of_ble_eq_true rfl) (Nat.le_of_ble_eq_true rfl) (hret _ _ _ z dX1_find_62 (by rfl) rfl)
    · refine jj_iload_n hC dX1_find_26 rfl ?_
      refine jj_iconst hC dX1_find_27 (v := nI 0) (by decide) ?_
      refine jj_iconst hC dX1_find_28 (v := nI 5) (by decide) ?_
      refine jj_scalliN hC (mm_isInN _ _ c1 c2 c3 x2 5 (by decide)) gX1_find_X1_isIn rfl 3 (by decide +kernel) ⟨by decide, by decide, by decide, by decide⟩ rfl rfl rfl (Nat.le_of_ble_eq_true rfl) dX1_find_29 (fun r u hp => ?_)
      obtain rfl := hp
      refine jj_if_eqB hC dX1_find_32 (tgt := 57) (by decide) (fun c32t => ?_) (fun c32f => ?_)
      · refine jj_aload_n hC dX1_find_57 rfl ?_
        refine jj_iconst hC dX1_find_58 (v := nI 2) (by decide) ?_
        refine jj_calli hC (mm_fail _ _ b c1 c2 c3 v (nI 0) z (nI 2)) gX1_find_X1_fail rfl 1 (by decide +kernel) ⟨by decide, by decide, by decide, by decide⟩ 0 1 (by rfl) rfl rfl rfl rfl (Nat.le_of_ble_eq_true rfl) dX1_find_59 (fun r u hp => ?_)
        obtain rfl := hp
        have eO : (((ts_req (ts_in x0 (ts_k v)) jj_IO).or (ts_req (ts_in x1 8 && (ts_in x2 6 && (ts_in x3 20 && ts_in x4 10))) jj_IA)).or (ts_req (decide (ts_n v < 36)) jj_IS)) = some jj_IA := by
          first
            | (simp [ts_req, c10t, c23f, c32t]; done)
            | (simp [ts_req, c10t, c23f, c32t]
               repeat' split
               all_goals simp_all)
        rw [eO, ts_cdIA] at hret
        exact jj_widen (Nat.le_of_ble_eq_true rfl) (Nat.le_of_ble_eq_true rfl) (hret _ _ _ z dX1_find_62 (by rfl) rfl)
      · refine jj_iload hC dX1_find_35 rfl ?_
        refine jj_iconst hC dX1_find_37 (v := nI 0) (by decide) ?_
        refine jj_bipush hC dX1_find_38 (v := nI 19) (by decide) ?_
        refine jj_scalliN hC (mm_isInN _ _ c1 c2 c3 x3 19 (by decide)) gX1_find_X1_isIn rfl 3 (by decide +kernel) ⟨by decide, by decide, by decide, by decide⟩ rfl rfl rfl (Nat.le_of_ble_eq_true rfl) dX1_find_40 (fun r u hp => ?_)
        obtain rfl := hp
        refine jj_if_eqB hC dX1_find_43 (tgt := 57) (by decide) (fun c43t => ?_) (fun c43f => ?_)
        · refine jj_aload_n hC dX1_find_57 rfl ?_
          refine jj_iconst hC dX1_find_58 (v := nI 2) (by decide) ?_
          refine jj_calli hC (mm_fail _ _ b c1 c2 c3 v (nI 0) z (nI 2)) gX1_find_X1_fail rfl 1 (by decide +kernel) ⟨by decide, by decide, by decide, by decide⟩ 0 1 (by rfl) rfl rfl rfl rfl (Nat.le_of_ble_eq_true rfl) dX1_find_59 (fun r u hp => ?_)
          obtain rfl := hp
          have eO : (((ts_req (ts_in x0 (ts_k v)) jj_IO).or (ts_req (ts_in x1 8 && (ts_in x2 6 && (ts_in x3 20 && ts_in x4 10))) jj_IA)).or (ts_req (decide (ts_n v < 36)) jj_IS)) = some jj_IA := by
            first
              | (simp [ts_req, c10t, c23f, c32f, c43t]; done)
              | (simp [ts_req, c10t, c23f, c32f, c43t]
                 repeat' split
                 all_goals simp_all)
          rw [eO, ts_cdIA] at hret
          exact jj_widen (Nat.le_of_ble_eq_true rfl) (Nat.le_of_ble_eq_true rfl) (hret _ _ _ z dX1_find_62 (by rfl) rfl)
        · refine jj_iload hC dX1_find_46 rfl ?_
          refine jj_iconst hC dX1_find_48 (v := nI 0) (by decide) ?_
          refine jj_bipush hC dX1_find_49 (v := nI 9) (by decide) ?_
          refine jj_scalliN hC (mm_isInN _ _ c1 c2 c3 x4 9 (by decide)) gX1_find_X1_isIn rfl 3 (by decide +kernel) ⟨by decide, by decide, by decide, by decide⟩ rfl rfl rfl (Nat.le_of_ble_eq_true rfl) dX1_find_51 (fun r u hp => ?_)
          obtain rfl := hp
          refine jj_if_neB hC dX1_find_54 (tgt := 63) (by decide) (fun c54t => ?_) (fun c54f => ?_)
          · obtain ⟨j0, hj0, rfl⟩ := ts_in_of c10t (by omega)
            have eNj0 : ts_N (nI j0) = j0 := ts_N_nI (by omega)
            obtain ⟨j1, hj1, rfl⟩ := ts_in_of c23f (by omega)
            have eNj1 : ts_N (nI j1) = j1 := ts_N_nI (by omega)
            obtain ⟨j2, hj2, rfl⟩ := ts_in_of c32f (by omega)
            have eNj2 : ts_N (nI j2) = j2 := ts_N_nI (by omega)
            obtain ⟨j3, hj3, rfl⟩ := ts_in_of c43f (by omega)
            have eNj3 : ts_N (nI j3) = j3 := ts_N_nI (by omega)
            obtain ⟨j4, hj4, rfl⟩ := ts_in_of c54t (by omega)
            have eNj4 : ts_N (nI j4) = j4 := ts_N_nI (by omega)
            refine jj_aload_n hC dX1_find_63 rfl ?_
            refine jj_get hC 0 2 dX1_find_64 (by rfl) rfl (by decide) lkX1_find_39 rfl hinX1_find (by rfl) ?_
            refine jj_bipush hC dX1_find_67 (v := nI 36) (by decide) ?_
            first | refine jj_icmp_neN hC dX1_find_69 (tgt := 78) (by decide) (by omega) (by omega) (fun c69t => ?_) (fun c69f => ?_) | refine jj_icmp_ne hC dX1_find_69 (tgt := 78) (by decide) (fun c69t => ?_) (fun c69f => ?_)
            · have hlt : ts_n v < 36 := by omega
              refine jj_bipush hC dX1_find_78 (v := nI 7) (by decide) ?_
              refine jj_newaI (N := 7) hC 0 rfl ahX1_find (by decide) (by rfl) (by decide) ⟨by decide, by decide⟩ dX1_find_80 (fun q => ?_)
              refine jj_dup hC dX1_find_82 rfl ?_
              refine jj_iconst hC dX1_find_83 (v := nI 0) (by decide) ?_
              refine jj_iload_n hC dX1_find_84 rfl ?_
              refine jj_iast hC 7 0 dX1_find_85 (ts_getapp (wm_len ..)) rfl (by decide) (by decide) (ts_setapp (wm_len ..)) ?_
              refine jj_dup hC dX1_find_86 rfl ?_
              refine jj_iconst hC dX1_find_87 (v := nI 1) (by decide) ?_
              refine jj_iload_n hC dX1_find_88 rfl ?_
              refine jj_iast hC 7 0 dX1_find_89 (ts_getapp (wm_len ..)) rfl (by decide) (by decide) (ts_setapp (wm_len ..)) ?_
              refine jj_dup hC dX1_find_90 rfl ?_
              refine jj_iconst hC dX1_find_91 (v := nI 2) (by decide) ?_
              refine jj_iload hC dX1_find_92 rfl ?_
              refine jj_iast hC 7 0 dX1_find_94 (ts_getapp (wm_len ..)) rfl (by decide) (by decide) (ts_setapp (wm_len ..)) ?_
              refine jj_dup hC dX1_find_95 rfl ?_
              refine jj_iconst hC dX1_find_96 (v := nI 3) (by decide) ?_
              refine jj_iload hC dX1_find_97 rfl ?_
              refine jj_iast hC 7 0 dX1_find_99 (ts_getapp (wm_len ..)) rfl (by decide) (by decide) (ts_setapp (wm_len ..)) ?_
              refine jj_dup hC dX1_find_100 rfl ?_
              refine jj_iconst hC dX1_find_101 (v := nI 4) (by decide) ?_
              refine jj_iload_n hC dX1_find_102 rfl ?_
              refine jj_iast hC 7 0 dX1_find_103 (ts_getapp (wm_len ..)) rfl (by decide) (by decide) (ts_setapp (wm_len ..)) ?_
              refine jj_dup hC dX1_find_104 rfl ?_
              refine jj_iconst hC dX1_find_105 (v := nI 5) (by decide) ?_
              refine jj_iconst hC dX1_find_106 (v := -1) (by decide) ?_
              refine jj_iast hC 7 0 dX1_find_107 (ts_getapp (wm_len ..)) rfl (by decide) (by decide) (ts_setapp (wm_len ..)) ?_
              refine jj_dup hC dX1_find_108 rfl ?_
              refine jj_bipush hC dX1_find_109 (v := nI 6) (by decide) ?_
              refine jj_iconst hC dX1_find_111 (v := nI 0) (by decide) ?_
              refine jj_iast hC 7 0 dX1_find_112 (ts_getapp (wm_len ..)) rfl (by decide) (by decide) (ts_setapp (wm_len ..)) ?_
              refine jj_astore hC dX1_find_113 (by decide) [1, 2, 3, 4, 5, 6, 0] (lv' := [(0, _), (1, _), (2, _), (3, _), (4, _), (5, _), (6, .ref _)]) rfl ?_
              refine jj_aload hC dX1_find_115 rfl ?_
              refine jj_iconst hC dX1_find_117 (v := nI 0) (by decide) ?_
              refine jj_aload_n hC dX1_find_118 rfl ?_
              refine jj_get hC 0 3 dX1_find_119 (ts_gL (by rfl)) rfl (by decide) lkX1_find_9 rfl hinX1_find (by rfl) ?_
              refine jj_bipush hC dX1_find_122 (v := nI 7) (by decide) ?_
              refine jj_aload_n hC dX1_find_124 rfl ?_
              refine jj_get hC 0 2 dX1_find_125 (ts_gL (by rfl)) rfl (by decide) lkX1_find_39 rfl hinX1_find (by rfl) ?_
              first | refine jj_imulN hC dX1_find_128 ?_ | refine jj_imul hC dX1_find_128 ?_
              refine jj_bipush hC dX1_find_129 (v := nI 7) (by decide) ?_
              refine jj_copy hC cpm1X1_find cpm2X1_find cpm3X1_find cpm4X1_find 7 1 0 0 (ts_getapp (wm_len ..)) (ts_gL (wm_g1 ..)) rfl rfl (by decide) (by omega) (by decide) (by decide) (by omega) ⟨by decide, by decide⟩ dX1_find_131 (ts_sL (by rw [wm_len]; decide) (wm_s1 b c1 v (nI 0) z (ts_n' (ts_fd v j0 j1 j2 j3 j4) (ts_n v)) _ rfl rfl (ts_fcol (hwk _ (Nat.le_refl _)) j0 j1 j2 j3 j4))) ?_
              refine jj_drop ?_
              refine jj_aload_n hC dX1_find_134 rfl ?_
              refine jj_dup hC dX1_find_135 rfl ?_
              refine jj_get hC 0 2 dX1_find_136 (by rfl) rfl (by decide) lkX1_find_39 rfl hinX1_find (by rfl) ?_
              refine jj_iconst hC dX1_find_139 (v := nI 1) (by decide) ?_
              first | refine jj_iaddN hC dX1_find_140 ?_ | refine jj_iadd hC dX1_find_140 ?_
              refine jj_put hC 0 2 dX1_find_141 (by rfl) rfl (by decide) lkX1_find_39 rfl hinX1_find tyX1_ok nmX1 rfl rfl rfl rfl (Nat.le_of_ble_eq_true rfl) (wm_p2 ..) ?_
              refine jj_aload_n hC dX1_find_144 rfl ?_
              refine jj_get hC 0 2 dX1_find_145 (by rfl) rfl (by decide) lkX1_find_39 rfl hinX1_find (by rfl) ?_
              refine jj_iconst hC dX1_find_148 (v := nI 1) (by decide) ?_
              refine jj_isub hC dX1_find_149 ?_
              simp only [eNj0, eNj1, eNj2, eNj3, eNj4] at hret
              have eO : (((ts_req (ts_in (nI j0) (ts_k v)) jj_IO).or (ts_req (ts_in (nI j1) 8 && (ts_in (nI j2) 6 && (ts_in (nI j3) 20 && ts_in (nI j4) 10))) jj_IA)).or (ts_req (decide (ts_n v < 36)) jj_IS)) = none := by simp [ts_req, c10t, c23f, c32f, c43f, c54t, c69t, hlt]
              rw [eO] at hret
              exact hret _ _ _ z dX1_find_150 (by rfl) (nI_pred _)
            · refine jj_aload_n hC dX1_find_72 rfl ?_
              refine jj_iconst hC dX1_find_73 (v := nI 3) (by decide) ?_
              refine jj_calli hC (mm_fail _ _ b c1 c2 c3 v (nI 0) z (nI 3)) gX1_find_X1_fail rfl 1 (by decide +kernel) ⟨by decide, by decide, by decide, by decide⟩ 0 1 (by rfl) rfl rfl rfl rfl (Nat.le_of_ble_eq_true rfl) dX1_find_74 (fun r u hp => ?_)
              obtain rfl := hp
              simp only [eNj0, eNj1, eNj2, eNj3, eNj4] at hret
              have eO : (((ts_req (ts_in (nI j0) (ts_k v)) jj_IO).or (ts_req (ts_in (nI j1) 8 && (ts_in (nI j2) 6 && (ts_in (nI j3) 20 && ts_in (nI j4) 10))) jj_IA)).or (ts_req (decide (ts_n v < 36)) jj_IS)) = some jj_IS := by
                first
                  | (simp [ts_req, c10t, c23f, c32f, c43f, c54t, c69f]; done)
                  | (simp [ts_req, c10t, c23f, c32f, c43f, c54t, c69f]
                     repeat' split
                     all_goals simp_all)
              rw [eO, ts_cdIS] at hret
              exact jj_widen (Nat.le_of_ble_eq_true rfl) (Nat.le_of_ble_eq_true rfl) (hret _ _ _ z dX1_find_77 (by rfl) rfl)
          · refine jj_aload_n hC dX1_find_57 rfl ?_
            refine jj_iconst hC dX1_find_58 (v := nI 2) (by decide) ?_
            refine jj_calli hC (mm_fail _ _ b c1 c2 c3 v (nI 0) z (nI 2)) gX1_find_X1_fail rfl 1 (by decide +kernel) ⟨by decide, by decide, by decide, by decide⟩ 0 1 (by rfl) rfl rfl rfl rfl (Nat.le_of_ble_eq_true rfl) dX1_find_59 (fun r u hp => ?_)
            obtain rfl := hp
            have eO : (((ts_req (ts_in x0 (ts_k v)) jj_IO).or (ts_req (ts_in x1 8 && (ts_in x2 6 && (ts_in x3 20 && ts_in x4 10))) jj_IA)).or (ts_req (decide (ts_n v < 36)) jj_IS)) = some jj_IA := by
              first
                | (simp [ts_req, c10t, c23f, c32f, c43f, c54f]; done)
                | (simp [ts_req, c10t, c23f, c32f, c43f, c54f]
                   repeat' split
                   all_goals simp_all)
            rw [eO, ts_cdIA] at hret
            exact jj_widen (Nat.le_of_ble_eq_true rfl) (Nat.le_of_ble_eq_true rfl) (hret _ _ _ z dX1_find_62 (by rfl) rfl)
  · refine jj_aload_n hC dX1_find_13 rfl ?_
    refine jj_iconst hC dX1_find_14 (v := nI 1) (by decide) ?_
    refine jj_calli hC (mm_fail _ _ b c1 c2 c3 v (nI 0) z (nI 1)) gX1_find_X1_fail rfl 1 (by decide +kernel) ⟨by decide, by decide, by decide, by decide⟩ 0 1 (by rfl) rfl rfl rfl rfl (Nat.le_of_ble_eq_true rfl) dX1_find_15 (fun r u hp => ?_)
    obtain rfl := hp
    have eO : (((ts_req (ts_in x0 (ts_k v)) jj_IO).or (ts_req (ts_in x1 8 && (ts_in x2 6 && (ts_in x3 20 && ts_in x4 10))) jj_IA)).or (ts_req (decide (ts_n v < 36)) jj_IS)) = some jj_IO := by
      first
        | (simp [ts_req, c10f]; done)
        | (simp [ts_req, c10f]
           repeat' split
           all_goals simp_all)
    rw [eO, ts_cdIO] at hret
    exact jj_widen (Nat.le_of_ble_eq_true rfl) (Nat.le_of_ble_eq_true rfl) (hret _ _ _ z dX1_find_18 (by rfl) rfl)
theorem ts_r1 {E : jj_E} {k n : Nat} {Q : State → Prop} {ws : va_W} {lv : List (Nat × Value)} {rest : List Value} {nL : Nat} {ret : Option FieldType} {Ts : List Cond} {own : String} {rm : Room} {tys : List (ClassId × FieldType)} (hC : jj_C cX1_ring nL ret Ts own rm tys E) {x : Int32} (hk : jj_J E k n Q ws 143 lv (.int (nI (ts_one x)) :: rest)) : jj_J E k n Q ws 135 lv (.int x :: rest) := by
  refine jj_if_le hC dX1_ring_135 (tgt := 142) (by decide) (fun c => ?_) (fun c => ?_)
  · refine jj_iconst hC dX1_ring_142 (v := nI 0) (by decide) ?_
    rw [show ts_one x = 0 from if_neg (ts_i32_nlt c)] at hk
    exact hk
  · refine jj_iconst hC dX1_ring_138 (v := nI 1) (by decide) ?_
    refine jj_goto hC dX1_ring_139 (tgt := 143) (by decide) ?_
    rw [show ts_one x = 1 from if_pos (ts_i32_nle c)] at hk
    exact hk
theorem ahX1_ring : Cond.arrayClass .int ∈ wsX1_ring := by decide +kernel
theorem lkX1_ring_28 : Cond.fieldLink RX1 28 RX1 (TX1 0).2.1 (TX1 0).2.2.1 ∈ wsX1_ring := by decide +kernel
theorem hinX1_ring : ∀ w ∈ wsX10, w ∈ wsX1_ring := by decide +kernel
set_option maxRecDepth 100000 in
set_option maxHeartbeats 4000000 in
theorem mo_ring (l : Launch) (D : va_G) (b : Nat → Nat) (c1 c2 c3 : ClassId) (v : ts_V) (th : Int32) (z : Nat → Int32) (hI : ts_I v) (x0 x1 x2 : Int32) : jj_M l D (ts_T c1 c2 c3) yX1_ring wsX1_ring rX1_ring [.ref (b 0), .int x0, .int x1, .int x2] (wm b c1 v th z) (Nat → Int32) (fun r _ => r = ts_if ((((((ts_req (ts_in x0 (ts_n v)) jj_IO).or (ts_req (ts_in x1 (ts_n v)) jj_IO)).or (ts_req (ts_in x2 (ts_n v)) jj_IO)).or (ts_req (decide (¬ ts_ow v (ts_N x0) = ts_ow v (ts_N x1))) jj_IA)).or (ts_req (decide (¬ ts_ow v (ts_N x1) = ts_ow v (ts_N x2))) jj_IA)).or (ts_req (decide (¬ ts_ow v (ts_N x2) = ts_ow v (ts_N x0))) jj_IA)) (nI (ts_one (ts_gain v (ts_N x0) (ts_N x1)) + ts_one (ts_gain v (ts_N x1) (ts_N x2)) + ts_one (ts_gain v (ts_N x2) (ts_N x0)))) (nI 0)) (fun u => wm b c1 (ts_if ((((((ts_req (ts_in x0 (ts_n v)) jj_IO).or (ts_req (ts_in x1 (ts_n v)) jj_IO)).or (ts_req (ts_in x2 (ts_n v)) jj_IO)).or (ts_req (decide (¬ ts_ow v (ts_N x0) = ts_ow v (ts_N x1))) jj_IA)).or (ts_req (decide (¬ ts_ow v (ts_N x1) = ts_ow v (ts_N x2))) jj_IA)).or (ts_req (decide (¬ ts_ow v (ts_N x2) = ts_ow v (ts_N x0))) jj_IA)) (v) v) (ts_cd 1 2 0 ((((((ts_req (ts_in x0 (ts_n v)) jj_IO).or (ts_req (ts_in x1 (ts_n v)) jj_IO)).or (ts_req (ts_in x2 (ts_n v)) jj_IO)).or (ts_req (decide (¬ ts_ow v (ts_N x0) = ts_ow v (ts_N x1))) jj_IA)).or (ts_req (decide (¬ ts_ow v (ts_N x1) = ts_ow v (ts_N x2))) jj_IA)).or (ts_req (decide (¬ ts_ow v (ts_N x2) = ts_ow v (ts_N x0))) jj_IA))) u) := by
  obtain ⟨hn, hk, hth, hwk, hli, hgr⟩ := id hI
  refine jj_met (cc := cX1_ring) (nL := 7) (by decide) rfl (Nat.le_of_ble_eq_true rfl) (fun E Q hC hEl hED hD0 hret => ?_)
  show jj_J E 0 0 Q (wm b c1 v th z) 0 [(0, .ref (b 0)), (1, .int x0), (2, .int x1), (3, .int x2)] []
  refine jj_aload_n hC dX1_ring_0 rfl ?_
  refine jj_iconst hC dX1_ring_1 (v := nI 0) (by decide) ?_
  refine jj_put hC 0 0 dX1_ring_2 (by rfl) rfl (by decide) lkX1_ring_28 rfl hinX1_ring tyX1_ok nmX1 rfl rfl rfl rfl (Nat.le_of_ble_eq_true rfl) (wm_p0 ..) ?_
  refine jj_aload_n hC dX1_ring_5 rfl ?_
  refine jj_iload_n hC dX1_ring_6 rfl ?_
  refine jj_calli hC (mm_isThimble _ _ b c1 c2 c3 v (nI 0) z hI x0) gX1_ring_X1_isThimble rfl 1 (by decide +kernel) ⟨by decide, by decide, by decide, by decide⟩ 0 1 (by rfl) rfl rfl rfl rfl (Nat.le_of_ble_eq_true rfl) dX1_ring_7 (fun r u hp => ?_)
  obtain rfl := hp
  refine jj_if_eqB hC dX1_ring_10 (tgt := 29) (by decide) (fun c10t => ?_) (fun c10f => ?_)
  · refine jj_aload_n hC dX1_ring_29 rfl ?_
    refine jj_iconst hC dX1_ring_30 (v := nI 1) (by decide) ?_
    refine jj_calli hC (mm_fail _ _ b c1 c2 c3 v (nI 0) z (nI 1)) gX1_ring_X1_fail rfl 1 (by decide +kernel) ⟨by decide, by decide, by decide, by decide⟩ 0 1 (by rfl) rfl rfl rfl rfl (Nat.le_of_ble_eq_true rfl) dX1_ring_31 (fun r u hp => ?_)
    obtain rfl := hp
    have eO : ((((((ts_req (ts_in x0 (ts_n v)) jj_IO).or (ts_req (ts_in x1 (ts_n v)) jj_IO)).or (ts_req (ts_in x2 (ts_n v)) jj_IO)).or (ts_req (decide (¬ ts_ow v (ts_N x0) = ts_ow v (ts_N x1))) jj_IA)).or (ts_req (decide (¬ ts_ow v (ts_N x1) = ts_ow v (ts_N x2))) jj_IA)).or (ts_req (decide (¬ ts_ow v (ts_N x2) = ts_ow v (ts_N x0))) jj_IA)) = some jj_IO := by
      first
        | (simp [ts_req, c10t]; done)
        | (simp [ts_req, c10t]
           repeat' split
           all_goals simp_all)
    rw [eO, ts_cdIO] at hret
    exact jj_widen (Nat.le_of_ble_eq_true rfl) (Nat.le_of_ble_eq_true rfl) (hret _ _ _ z dX1_ring_34 (by rfl) rfl)
  · refine jj_aload_n hC dX1_ring_13 rfl ?_
    refine jj_iload_n hC dX1_ring_14 rfl ?_
    refine jj_calli hC (mm_isThimble _ _ b c1 c2 c3 v (nI 0) z hI x1) gX1_ring_X1_isThimble rfl 1 (by decide +kernel) ⟨by decide, by decide, by decide, by decide⟩ 0 1 (by rfl) rfl rfl rfl rfl (Nat.le_of_ble_eq_true rfl) dX1_ring_15 (fun r u hp => ?_)
    obtain rfl := hp
    refine jj_if_eqB hC dX1_ring_18 (tgt := 29) (by decide) (fun c18t => ?_) (fun c18f => ?_)
    · refine jj_aload_n hC dX1_ring_29 rfl ?_
      refine jj_iconst hC dX1_ring_30 (v := nI 1) (by decide) ?_
      refine jj_calli hC (mm_fail _ _ b c1 c2 c3 v (nI 0) z (nI 1)) gX1_ring_X1_fail rfl 1 (by decide +kernel) ⟨by decide, by decide, by decide, by decide⟩ 0 1 (by rfl) rfl rfl rfl rfl (Nat.le_of_ble_eq_true rfl) dX1_ring_31 (fun r u hp => ?_)
      obtain rfl := hp
      have eO : ((((((ts_req (ts_in x0 (ts_n v)) jj_IO).or (ts_req (ts_in x1 (ts_n v)) jj_IO)).or (ts_req (ts_in x2 (ts_n v)) jj_IO)).or (ts_req (decide (¬ ts_ow v (ts_N x0) = ts_ow v (ts_N x1))) jj_IA)).or (ts_req (decide (¬ ts_ow v (ts_N x1) = ts_ow v (ts_N x2))) jj_IA)).or (ts_req (decide (¬ ts_ow v (ts_N x2) = ts_ow v (ts_N x0))) jj_IA)) = some jj_IO := by
        first
          | (simp [ts_req, c10f, c18t]; done)
          | (simp [ts_req, c10f, c18t]
             repeat' split
             all_goals simp_all)
      rw [eO, ts_cdIO] at hret
      exact jj_widen (Nat.le_of_ble_eq_true rfl) (Nat.le_of_ble_eq_true rfl) (hret _ _ _ z dX1_ring_34 (by rfl) rfl)
    · refine jj_aload_n hC dX1_ring_21 rfl ?_
      refine jj_iload_n hC dX1_ring_22 rfl ?_
      refine jj_calli hC (mm_isThimble _ _ b c1 c2 c3 v (nI 0) z hI x2) gX1_ring_X1_isThimble rfl 1 (by decide +kernel) ⟨by decide, by decide, by decide, by decide⟩ 0 1 (by rfl) rfl rfl rfl rfl (Nat.le_of_ble_eq_true rfl) dX1_ring_23 (fun r u hp => ?_)
      obtain rfl := hp
      refine jj_if_neB hC dX1_ring_26 (tgt := 35) (by decide) (fun c26t => ?_) (fun c26f => ?_)
      · obtain ⟨j0, hj0, rfl⟩ := ts_in_of c10f (by omega)
        have eNj0 : ts_N (nI j0) = j0 := ts_N_nI (by omega)
        obtain ⟨j1, hj1, rfl⟩ := ts_in_of c18f (by omega)
        have eNj1 : ts_N (nI j1) = j1 := ts_N_nI (by omega)
        obtain ⟨j2, hj2, rfl⟩ := ts_in_of c26t (by omega)
        have eNj2 : ts_N (nI j2) = j2 := ts_N_nI (by omega)
        have hb0 := hth j0 hj0
        have hb1 := hth j1 hj1
        have hb2 := hth j2 hj2
        refine jj_aload_n hC dX1_ring_35 rfl ?_
        refine jj_iload_n hC dX1_ring_36 rfl ?_
        refine jj_iconst hC dX1_ring_37 (v := nI 4) (by decide) ?_
        refine jj_calli hC (mm_th4 _ _ b c1 c2 c3 v (nI 0) z j0 (by omega)) gX1_ring_X1_th rfl 2 (by decide +kernel) ⟨by decide, by decide, by decide, by decide⟩ 0 1 (by rfl) rfl rfl rfl rfl (Nat.le_of_ble_eq_true rfl) dX1_ring_38 (fun r u hp => ?_)
        obtain rfl := hp
        refine jj_aload_n hC dX1_ring_41 rfl ?_
        refine jj_iload_n hC dX1_ring_42 rfl ?_
        refine jj_iconst hC dX1_ring_43 (v := nI 4) (by decide) ?_
        refine jj_calli hC (mm_th4 _ _ b c1 c2 c3 v (nI 0) z j1 (by omega)) gX1_ring_X1_th rfl 2 (by decide +kernel) ⟨by decide, by decide, by decide, by decide⟩ 0 1 (by rfl) rfl rfl rfl rfl (Nat.le_of_ble_eq_true rfl) dX1_ring_44 (fun r u hp => ?_)
        obtain rfl := hp
        first | refine jj_icmp_eqN hC dX1_ring_47 (tgt := 80) (by decide) (by omega) (by omega) (fun c47t => ?_) (fun c47f => ?_) | refine jj_icmp_eq hC dX1_ring_47 (tgt := 80) (by decide) (fun c47t => ?_) (fun c47f => ?_)
        · refine jj_aload_n hC dX1_ring_80 rfl ?_
          refine jj_iconst hC dX1_ring_81 (v := nI 2) (by decide) ?_
          refine jj_calli hC (mm_fail _ _ b c1 c2 c3 v (nI 0) z (nI 2)) gX1_ring_X1_fail rfl 1 (by decide +kernel) ⟨by decide, by decide, by decide, by decide⟩ 0 1 (by rfl) rfl rfl rfl rfl (Nat.le_of_ble_eq_true rfl) dX1_ring_82 (fun r u hp => ?_)
          obtain rfl := hp
          simp only [eNj0, eNj1, eNj2] at hret
          have eO : ((((((ts_req (ts_in (nI j0) (ts_n v)) jj_IO).or (ts_req (ts_in (nI j1) (ts_n v)) jj_IO)).or (ts_req (ts_in (nI j2) (ts_n v)) jj_IO)).or (ts_req (decide (¬ ts_ow v j0 = ts_ow v j1)) jj_IA)).or (ts_req (decide (¬ ts_ow v j1 = ts_ow v j2)) jj_IA)).or (ts_req (decide (¬ ts_ow v j2 = ts_ow v j0)) jj_IA)) = some jj_IA := by
            first
              | (simp [ts_req, c10f, c18f, c26t, c47t]; done)
              | (simp [ts_req, c10f, c18f, c26t, c47t]
                 repeat' split
                 all_goals simp_all)
          rw [eO, ts_cdIA] at hret
          exact jj_widen (Nat.le_of_ble_eq_true rfl) (Nat.le_of_ble_eq_true rfl) (hret _ _ _ z dX1_ring_85 (by rfl) rfl)
        · refine jj_aload_n hC dX1_ring_50 rfl ?_
          refine jj_iload_n hC dX1_ring_51 rfl ?_
          refine jj_iconst hC dX1_ring_52 (v := nI 4) (by decide) ?_
          refine jj_calli hC (mm_th4 _ _ b c1 c2 c3 v (nI 0) z j0 (by omega)) gX1_ring_X1_th rfl 2 (by decide +kernel) ⟨by decide, by decide, by decide, by decide⟩ 0 1 (by rfl) rfl rfl rfl rfl (Nat.le_of_ble_eq_true rfl) dX1_ring_53 (fun r u hp => ?_)
          obtain rfl := hp
          refine jj_aload_n hC dX1_ring_56 rfl ?_
          refine jj_iload_n hC dX1_ring_57 rfl ?_
          refine jj_iconst hC dX1_ring_58 (v := nI 4) (by decide) ?_
          refine jj_calli hC (mm_th4 _ _ b c1 c2 c3 v (nI 0) z j2 (by omega)) gX1_ring_X1_th rfl 2 (by decide +kernel) ⟨by decide, by decide, by decide, by decide⟩ 0 1 (by rfl) rfl rfl rfl rfl (Nat.le_of_ble_eq_true rfl) dX1_ring_59 (fun r u hp => ?_)
          obtain rfl := hp
          first | refine jj_icmp_eqN hC dX1_ring_62 (tgt := 80) (by decide) (by omega) (by omega) (fun c62t => ?_) (fun c62f => ?_) | refine jj_icmp_eq hC dX1_ring_62 (tgt := 80) (by decide) (fun c62t => ?_) (fun c62f => ?_)
          · refine jj_aload_n hC dX1_ring_80 rfl ?_
            refine jj_iconst hC dX1_ring_81 (v := nI 2) (by decide) ?_
            refine jj_calli hC (mm_fail _ _ b c1 c2 c3 v (nI 0) z (nI 2)) gX1_ring_X1_fail rfl 1 (by decide +kernel) ⟨by decide, by decide, by decide, by decide⟩ 0 1 (by rfl) rfl rfl rfl rfl (Nat.le_of_ble_eq_true rfl) dX1_ring_82 (fun r u hp => ?_)
            obtain rfl := hp
            simp only [eNj0, eNj1, eNj2] at hret
            have eO : ((((((ts_req (ts_in (nI j0) (ts_n v)) jj_IO).or (ts_req (ts_in (nI j1) (ts_n v)) jj_IO)).or (ts_req (ts_in (nI j2) (ts_n v)) jj_IO)).or (ts_req (decide (¬ ts_ow v j0 = ts_ow v j1)) jj_IA)).or (ts_req (decide (¬ ts_ow v j1 = ts_ow v j2)) jj_IA)).or (ts_req (decide (¬ ts_ow v j2 = ts_ow v j0)) jj_IA)) = some jj_IA := by
              first
                | (simp [ts_req, c10f, c18f, c26t, c47f, c62t.symm, show ¬ ts_ow v j1 = ts_ow v j0 from fun q => c47f q.symm]; done)
                | (simp [ts_req, c10f, c18f, c26t, c47f, c62t.symm, show ¬ ts_ow v j1 = ts_ow v j0 from fun q => c47f q.symm]
                   repeat' split
                   all_goals simp_all)
            rw [eO, ts_cdIA] at hret
            exact jj_widen (Nat.le_of_ble_eq_true rfl) (Nat.le_of_ble_eq_true rfl) (hret _ _ _ z dX1_ring_85 (by rfl) rfl)
          · refine jj_aload_n hC dX1_ring_65 rfl ?_
            refine jj_iload_n hC dX1_ring_66 rfl ?_
            refine jj_iconst hC dX1_ring_67 (v := nI 4) (by decide) ?_
            refine jj_calli hC (mm_th4 _ _ b c1 c2 c3 v (nI 0) z j1 (by omega)) gX1_ring_X1_th rfl 2 (by decide +kernel) ⟨by decide, by decide, by decide, by decide⟩ 0 1 (by rfl) rfl rfl rfl rfl (Nat.le_of_ble_eq_true rfl) dX1_ring_68 (fun r u hp => ?_)
            obtain rfl := hp
            refine jj_aload_n hC dX1_ring_71 rfl ?_
            refine jj_iload_n hC dX1_ring_72 rfl ?_
            refine jj_iconst hC dX1_ring_73 (v := nI 4) (by decide) ?_
            refine jj_calli hC (mm_th4 _ _ b c1 c2 c3 v (nI 0) z j2 (by omega)) gX1_ring_X1_th rfl 2 (by decide +kernel) ⟨by decide, by decide, by decide, by decide⟩ 0 1 (by rfl) rfl rfl rfl rfl (Nat.le_of_ble_eq_true rfl) dX1_ring_74 (fun r u hp => ?_)
            obtain rfl := hp
            first | refine jj_icmp_neN hC dX1_ring_77 (tgt := 86) (by decide) (by omega) (by omega) (fun c77t => ?_) (fun c77f => ?_) | refine jj_icmp_ne hC dX1_ring_77 (tgt := 86) (by decide) (fun c77t => ?_) (fun c77f => ?_)
            · have n20 : ¬ ts_ow v j2 = ts_ow v j0 := fun q => c62f q.symm
              refine jj_iconst hC dX1_ring_86 (v := nI 3) (by decide) ?_
              refine jj_newaI (N := 3) hC 0 rfl ahX1_ring (by decide) (by rfl) (by decide) ⟨by decide, by decide⟩ dX1_ring_87 (fun q => ?_)
              refine jj_dup hC dX1_ring_89 rfl ?_
              refine jj_iconst hC dX1_ring_90 (v := nI 0) (by decide) ?_
              refine jj_iload_n hC dX1_ring_91 rfl ?_
              refine jj_iast hC 7 0 dX1_ring_92 (ts_getapp (wm_len ..)) rfl (by decide) (by decide) (ts_setapp (wm_len ..)) ?_
              refine jj_dup hC dX1_ring_93 rfl ?_
              refine jj_iconst hC dX1_ring_94 (v := nI 1) (by decide) ?_
              refine jj_iload_n hC dX1_ring_95 rfl ?_
              refine jj_iast hC 7 0 dX1_ring_96 (ts_getapp (wm_len ..)) rfl (by decide) (by decide) (ts_setapp (wm_len ..)) ?_
              refine jj_dup hC dX1_ring_97 rfl ?_
              refine jj_iconst hC dX1_ring_98 (v := nI 2) (by decide) ?_
              refine jj_iload_n hC dX1_ring_99 rfl ?_
              refine jj_iast hC 7 0 dX1_ring_100 (ts_getapp (wm_len ..)) rfl (by decide) (by decide) (ts_setapp (wm_len ..)) ?_
              refine jj_astore hC dX1_ring_101 (by decide) [1, 2, 3, 4, 0] (lv' := [(0, _), (1, _), (2, _), (3, _), (4, .ref _)]) rfl ?_
              refine jj_iconst hC dX1_ring_103 (v := nI 0) (by decide) ?_
              refine jj_istore hC dX1_ring_104 (by decide) [1, 2, 3, 4, 5, 0] (lv' := [(0, _), (1, _), (2, _), (3, _), (4, _), (5, .int _)]) rfl ?_
              refine jj_iconst hC dX1_ring_106 (v := nI 0) (by decide) ?_
              refine jj_istore hC dX1_ring_107 (by decide) [1, 2, 3, 4, 5, 6, 0] (lv' := [(0, _), (1, _), (2, _), (3, _), (4, _), (5, _), (6, .int _)]) rfl ?_
              refine jj_iload hC dX1_ring_109 rfl ?_
              refine jj_iconst hC dX1_ring_111 (v := nI 3) (by decide) ?_
              refine jj_icmp_geF hC dX1_ring_112 (tgt := 152) (by decide) (by decide) ?_
              refine jj_iload hC dX1_ring_115 rfl ?_
              refine jj_aload_n hC dX1_ring_117 rfl ?_
              refine jj_aload hC dX1_ring_118 rfl ?_
              refine jj_iload hC dX1_ring_120 rfl ?_
              refine jj_iald hC 7 0 dX1_ring_122 (ts_getapp (wm_len ..)) rfl (by omega) (by decide) ?_
              refine jj_topi (y := nI j0) rfl ?_
              refine jj_aload hC dX1_ring_123 rfl ?_
              refine jj_iload hC dX1_ring_125 rfl ?_
              refine jj_iconst hC dX1_ring_127 (v := nI 1) (by decide) ?_
              first | refine jj_iaddN hC dX1_ring_128 ?_ | refine jj_iadd hC dX1_ring_128 ?_
              refine jj_iconst hC dX1_ring_129 (v := nI 3) (by decide) ?_
              refine jj_iremN hC dX1_ring_130 (by omega) (by omega) (by omega) ?_
              refine jj_iald hC 7 0 dX1_ring_131 (ts_getapp (wm_len ..)) rfl (by omega) (by decide) ?_
              refine jj_topi (y := nI j1) rfl ?_
              refine jj_calliL hC (mm_gain _ _ b c1 c2 c3 v (nI 0) z hI j0 j1 hj0 hj1 c47f) gX1_ring_X1_gain rfl 2 (by decide +kernel) ⟨by decide, by decide, by decide, by decide⟩ 0 1 (by rfl) rfl rfl rfl rfl (Nat.le_of_ble_eq_true rfl) dX1_ring_132 (fun r u hp => ?_)
              obtain rfl := hp
              revert u
              intro z1
              refine ts_r1 hC ?_
              first | refine jj_iaddN hC dX1_ring_143 ?_ | refine jj_iadd hC dX1_ring_143 ?_
              refine jj_istore hC dX1_ring_144 (by decide) [1, 2, 3, 4, 5, 0, 6] (lv' := [(0, _), (1, _), (2, _), (3, _), (4, _), (5, .int _), (6, _)]) rfl ?_
              refine jj_iincN hC dX1_ring_146 rfl (d9 := 1) (by decide) (by decide) [1, 2, 3, 4, 5, 6, 0] (lv' := [(0, _), (1, _), (2, _), (3, _), (4, _), (5, _), (6, .int _)]) rfl ?_
              refine jj_goto hC dX1_ring_149 (tgt := 109) (by decide) ?_
              refine jj_iload hC dX1_ring_109 rfl ?_
              refine jj_iconst hC dX1_ring_111 (v := nI 3) (by decide) ?_
              refine jj_icmp_geF hC dX1_ring_112 (tgt := 152) (by decide) (by decide) ?_
              refine jj_iload hC dX1_ring_115 rfl ?_
              refine jj_aload_n hC dX1_ring_117 rfl ?_
              refine jj_aload hC dX1_ring_118 rfl ?_
              refine jj_iload hC dX1_ring_120 rfl ?_
              refine jj_iald hC 7 0 dX1_ring_122 (ts_getapp (wm_len ..)) rfl (by omega) (by decide) ?_
              refine jj_topi (y := nI j1) rfl ?_
              refine jj_aload hC dX1_ring_123 rfl ?_
              refine jj_iload hC dX1_ring_125 rfl ?_
              refine jj_iconst hC dX1_ring_127 (v := nI 1) (by decide) ?_
              first | refine jj_iaddN hC dX1_ring_128 ?_ | refine jj_iadd hC dX1_ring_128 ?_
              refine jj_iconst hC dX1_ring_129 (v := nI 3) (by decide) ?_
              refine jj_iremN hC dX1_ring_130 (by omega) (by omega) (by omega) ?_
              refine jj_iald hC 7 0 dX1_ring_131 (ts_getapp (wm_len ..)) rfl (by omega) (by decide) ?_
              refine jj_topi (y := nI j2) rfl ?_
              refine jj_calliL hC (mm_gain _ _ b c1 c2 c3 v (nI 0) z1 hI j1 j2 hj1 hj2 c77t) gX1_ring_X1_gain rfl 2 (by decide +kernel) ⟨by decide, by decide, by decide, by decide⟩ 0 1 (by rfl) rfl rfl rfl rfl (Nat.le_of_ble_eq_true rfl) dX1_ring_132 (fun r u hp => ?_)
              obtain rfl := hp
              revert u
              intro z2
              refine ts_r1 hC ?_
              first | refine jj_iaddN hC dX1_ring_143 ?_ | refine jj_iadd hC dX1_ring_143 ?_
              refine jj_istore hC dX1_ring_144 (by decide) [1, 2, 3, 4, 5, 0, 6] (lv' := [(0, _), (1, _), (2, _), (3, _), (4, _), (5, .int _), (6, _)]) rfl ?_
              refine jj_iincN hC dX1_ring_146 rfl (d9 := 1) (by decide) (by decide) [1, 2, 3, 4, 5, 6, 0] (lv' := [(0, _), (1, _), (2, _), (3, _), (4, _), (5, _), (6, .int _)]) rfl ?_
              refine jj_goto hC dX1_ring_149 (tgt := 109) (by decide) ?_
              refine jj_iload hC dX1_ring_109 rfl ?_
              refine jj_iconst hC dX1_ring_111 (v := nI 3) (by decide) ?_
              refine jj_icmp_geF hC dX1_ring_112 (tgt := 152) (by decide) (by decide) ?_
              refine jj_iload hC dX1_ring_115 rfl ?_
              refine jj_aload_n hC dX1_ring_117 rfl ?_
              refine jj_aload hC dX1_ring_118 rfl ?_
              refine jj_iload hC dX1_ring_120 rfl ?_
              refine jj_iald hC 7 0 dX1_ring_122 (ts_getapp (wm_len ..)) rfl (by omega) (by decide) ?_
              refine jj_topi (y := nI j2) rfl ?_
              refine jj_aload hC dX1_ring_123 rfl ?_
              refine jj_iload hC dX1_ring_125 rfl ?_
              refine jj_iconst hC dX1_ring_127 (v := nI 1) (by decide) ?_
              first | refine jj_iaddN hC dX1_ring_128 ?_ | refine jj_iadd hC dX1_ring_128 ?_
              refine jj_iconst hC dX1_ring_129 (v := nI 3) (by decide) ?_
              refine jj_iremN hC dX1_ring_130 (by omega) (by omega) (by omega) ?_
              refine jj_iald hC 7 0 dX1_ring_131 (ts_getapp (wm_len ..)) rfl (by omega) (by decide) ?_
              refine jj_topi (y := nI j0) rfl ?_
              refine jj_calliL hC (mm_gain _ _ b c1 c2 c3 v (nI 0) z2 hI j2 j0 hj2 hj0 n20) gX1_ring_X1_gain rfl 2 (by decide +kernel) ⟨by decide, by decide, by decide, by decide⟩ 0 1 (by rfl) rfl rfl rfl rfl (Nat.le_of_ble_eq_true rfl) dX1_ring_132 (fun r u hp => ?_)
              obtain rfl := hp
              revert u
              intro z3
              refine ts_r1 hC ?_
              first | refine jj_iaddN hC dX1_ring_143 ?_ | refine jj_iadd hC dX1_ring_143 ?_
              refine jj_istore hC dX1_ring_144 (by decide) [1, 2, 3, 4, 5, 0, 6] (lv' := [(0, _), (1, _), (2, _), (3, _), (4, _), (5, .int _), (6, _)]) rfl ?_
              refine jj_iincN hC dX1_ring_146 rfl (d9 := 1) (by decide) (by decide) [1, 2, 3, 4, 5, 6, 0] (lv' := [(0, _), (1, _), (2, _), (3, _), (4, _), (5, _), (6, .int _)]) rfl ?_
              refine jj_goto hC dX1_ring_149 (tgt := 109) (by decide) ?_
              refine jj_iload hC dX1_ring_109 rfl ?_
              refine jj_iconst hC dX1_ring_111 (v := nI 3) (by decide) ?_
              refine jj_icmp_geT hC dX1_ring_112 (tgt := 152) (by decide) (by decide) ?_
              refine jj_iload hC dX1_ring_152 rfl ?_
              refine jj_drop ?_
              simp only [eNj0, eNj1, eNj2] at hret
              have eO : ((((((ts_req (ts_in (nI j0) (ts_n v)) jj_IO).or (ts_req (ts_in (nI j1) (ts_n v)) jj_IO)).or (ts_req (ts_in (nI j2) (ts_n v)) jj_IO)).or (ts_req (decide (¬ ts_ow v j0 = ts_ow v j1)) jj_IA)).or (ts_req (decide (¬ ts_ow v j1 = ts_ow v j2)) jj_IA)).or (ts_req (decide (¬ ts_ow v j2 = ts_ow v j0)) jj_IA)) = none := by simp [ts_req, c10f, c18f, c26t, c47f, c62f, c77t, n20]
              rw [eO] at hret
              exact hret _ _ _ z3 dX1_ring_154 (by rfl) (by rw [Nat.zero_add]; rfl)
            · refine jj_aload_n hC dX1_ring_80 rfl ?_
              refine jj_iconst hC dX1_ring_81 (v := nI 2) (by decide) ?_
              refine jj_calli hC (mm_fail _ _ b c1 c2 c3 v (nI 0) z (nI 2)) gX1_ring_X1_fail rfl 1 (by decide +kernel) ⟨by decide, by decide, by decide, by decide⟩ 0 1 (by rfl) rfl rfl rfl rfl (Nat.le_of_ble_eq_true rfl) dX1_ring_82 (fun r u hp => ?_)
              obtain rfl := hp
              simp only [eNj0, eNj1, eNj2] at hret
              have eO : ((((((ts_req (ts_in (nI j0) (ts_n v)) jj_IO).or (ts_req (ts_in (nI j1) (ts_n v)) jj_IO)).or (ts_req (ts_in (nI j2) (ts_n v)) jj_IO)).or (ts_req (decide (¬ ts_ow v j0 = ts_ow v j1)) jj_IA)).or (ts_req (decide (¬ ts_ow v j1 = ts_ow v j2)) jj_IA)).or (ts_req (decide (¬ ts_ow v j2 = ts_ow v j0)) jj_IA)) = some jj_IA := by
                first
                  | (simp [ts_req, c10f, c18f, c26t, c47f, c62f, c77f]; done)
                  | (simp [ts_req, c10f, c18f, c26t, c47f, c62f, c77f]
                     repeat' split
                     all_goals simp_all)
              rw [eO, ts_cdIA] at hret
              exact jj_widen (Nat.le_of_ble_eq_true rfl) (Nat.le_of_ble_eq_true rfl) (hret _ _ _ z dX1_ring_85 (by rfl) rfl)
      · refine jj_aload_n hC dX1_ring_29 rfl ?_
        refine jj_iconst hC dX1_ring_30 (v := nI 1) (by decide) ?_
        refine jj_calli hC (mm_fail _ _ b c1 c2 c3 v (nI 0) z (nI 1)) gX1_ring_X1_fail rfl 1 (by decide +kernel) ⟨by decide, by decide, by decide, by decide⟩ 0 1 (by rfl) rfl rfl rfl rfl (Nat.le_of_ble_eq_true rfl) dX1_ring_31 (fun r u hp => ?_)
        obtain rfl := hp
        have eO : ((((((ts_req (ts_in x0 (ts_n v)) jj_IO).or (ts_req (ts_in x1 (ts_n v)) jj_IO)).or (ts_req (ts_in x2 (ts_n v)) jj_IO)).or (ts_req (decide (¬ ts_ow v (ts_N x0) = ts_ow v (ts_N x1))) jj_IA)).or (ts_req (decide (¬ ts_ow v (ts_N x1) = ts_ow v (ts_N x2))) jj_IA)).or (ts_req (decide (¬ ts_ow v (ts_N x2) = ts_ow v (ts_N x0))) jj_IA)) = some jj_IO := by
          first
            | (simp [ts_req, c10f, c18f, c26f]; done)
            | (simp [ts_req, c10f, c18f, c26f]
               repeat' split
               all_goals simp_all)
        rw [eO, ts_cdIO] at hret
        exact jj_widen (Nat.le_of_ble_eq_true rfl) (Nat.le_of_ble_eq_true rfl) (hret _ _ _ z dX1_ring_34 (by rfl) rfl)
