/-! arguments in their bounds, and what is thrown -/
def ts_in (x : Int32) (N : Nat) : Bool := decide (0 ≤ x.toInt ∧ x.toInt < (N : Int))
theorem ts_in_of {x : Int32} {N : Nat} (h : ts_in x N = true) (hN : N < 2 ^ 31) : ∃ j : Nat, j < N ∧ x = nI j := by
  have h1 : 0 ≤ x.toInt ∧ x.toInt < (N : Int) := by simpa [ts_in] using h
  exact vp_in_of (vp_in_iff.mpr h1) hN
theorem ts_in_nI {j N : Nat} (hj : j < 2 ^ 31) : ts_in (nI j) N = decide (j < N) := by
  unfold ts_in
  rw [nI_toInt hj]
  by_cases h : j < N
  · simp [h]
  · simp [h]
theorem ts_in_neg {x : Int32} {N : Nat} (h : x < 0) : ts_in x N = false := by
  unfold ts_in
  rw [Int32.lt_iff_toInt_lt, Int32.toInt_zero] at h
  simp
  omega
theorem ts_in_big {x : Int32} {N : Nat} (hN : N < 2 ^ 31) (h : nI N ≤ x) : ts_in x N = false := by
  unfold ts_in
  rw [Int32.le_iff_toInt_le, nI_toInt hN] at h
  simp
  omega
theorem ts_in_yes {x : Int32} {N : Nat} (hN : N < 2 ^ 31) (h1 : ¬ x < 0) (h2 : ¬ nI N ≤ x) : ts_in x N = true := by
  unfold ts_in
  rw [Int32.le_iff_toInt_le, nI_toInt hN] at h2
  rw [Int32.lt_iff_toInt_lt, Int32.toInt_zero] at h1
  simp
  omega
def ts_req (b : Bool) (Ex : String) : Option String := if b then none else some Ex
theorem xbad_IO : ∀ w ∈ (vx_atS RX0 211 "java/lang/IndexOutOfBoundsException" jj_nm).filter (fun w => !goodWord w), w ∈ [Cond.castable "java/lang/IndexOutOfBoundsException" "java/lang/IndexOutOfBoundsException", .declares ⟨"java/lang/RuntimeException", "<init>", "(Ljava/lang/String;)V"⟩, .declares ⟨"java/lang/Exception", "<init>", "(Ljava/lang/String;)V"⟩, .declares ⟨"java/lang/Throwable", "<init>", "(Ljava/lang/String;)V"⟩] := by decide +kernel
theorem xot_IO_207 : ∀ w ∈ Cond.classLink RX0 207 "java/lang/IndexOutOfBoundsException" :: Cond.initialized "java/lang/IndexOutOfBoundsException" :: vx_atS RX0 211 "java/lang/IndexOutOfBoundsException" jj_nm, vx_ot w = true := by decide +kernel
theorem xbad_IA : ∀ w ∈ (vx_atS RX0 74 "java/lang/IllegalArgumentException" jj_nm).filter (fun w => !goodWord w), w ∈ [Cond.castable "java/lang/IllegalArgumentException" "java/lang/IllegalArgumentException", .declares ⟨"java/lang/RuntimeException", "<init>", "(Ljava/lang/String;)V"⟩, .declares ⟨"java/lang/Exception", "<init>", "(Ljava/lang/String;)V"⟩, .declares ⟨"java/lang/Throwable", "<init>", "(Ljava/lang/String;)V"⟩] := by decide +kernel
theorem xot_IA_70 : ∀ w ∈ Cond.classLink RX0 70 "java/lang/IllegalArgumentException" :: Cond.initialized "java/lang/IllegalArgumentException" :: vx_atS RX0 74 "java/lang/IllegalArgumentException" jj_nm, vx_ot w = true := by decide +kernel
theorem xbad_IS : ∀ w ∈ (vx_atS RX0 53 "java/lang/IllegalStateException" jj_nm).filter (fun w => !goodWord w), w ∈ [Cond.castable "java/lang/IllegalStateException" "java/lang/IllegalStateException", .declares ⟨"java/lang/RuntimeException", "<init>", "(Ljava/lang/String;)V"⟩, .declares ⟨"java/lang/Exception", "<init>", "(Ljava/lang/String;)V"⟩, .declares ⟨"java/lang/Throwable", "<init>", "(Ljava/lang/String;)V"⟩] := by decide +kernel
theorem xot_IS_49 : ∀ w ∈ Cond.classLink RX0 49 "java/lang/IllegalStateException" :: Cond.initialized "java/lang/IllegalStateException" :: vx_atS RX0 53 "java/lang/IllegalStateException" jj_nm, vx_ot w = true := by decide +kernel
set_option maxRecDepth 100000 in
set_option maxHeartbeats 4000000 in
theorem xm_isBelow (l : Launch) (D : va_G) (c1 c2 c3 : ClassId) (x : Int32) (N : Nat) (hN : N < 2 ^ 31) : jj_M l D (ts_T c1 c2 c3) yX0_isBelow wsX0_isBelow rX0_isBelow [.int x, .int (nI N)] ([]) Unit (fun r _ => r = ts_b (ts_in x N)) (fun _ => []) := by
  refine jj_met (cc := cX0_isBelow) (nL := 2) (by decide) rfl (Nat.le_of_ble_eq_true rfl) (fun E Q hC hEl hED hD0 hret => ?_)
  show jj_J E 0 0 Q ([]) 0 [(0, .int x), (1, .int (nI N))] []
  refine jj_iload_n hC dX0_isBelow_0 rfl ?_
  refine jj_if_lt hC dX0_isBelow_1 (tgt := 13) (by decide) (fun c1 => ?_) (fun c1 => ?_)
  · refine jj_iconst hC dX0_isBelow_13 (v := nI 0) (by decide) ?_
    exact hret _ _ _ () dX0_isBelow_14 (by rfl) (by first | (rw [ts_in_neg (by assumption)]; rfl) | (rw [ts_in_big hN (by assumption)]; rfl) | (rw [ts_in_yes hN (by first | assumption | (rename_i q; rw [Int32.le_iff_toInt_le] at q; rw [Int32.lt_iff_toInt_lt]; omega)) (by first | assumption | (rename_i q; rw [Int32.lt_iff_toInt_lt] at q; rw [Int32.le_iff_toInt_le]; omega))]; rfl))
  · refine jj_iload_n hC dX0_isBelow_4 rfl ?_
    refine jj_iload_n hC dX0_isBelow_5 rfl ?_
    refine jj_icmp_ge hC dX0_isBelow_6 (tgt := 13) (by decide) (fun c6 => ?_) (fun c6 => ?_)
    · refine jj_iconst hC dX0_isBelow_13 (v := nI 0) (by decide) ?_
      exact hret _ _ _ () dX0_isBelow_14 (by rfl) (by first | (rw [ts_in_neg (by assumption)]; rfl) | (rw [ts_in_big hN (by assumption)]; rfl) | (rw [ts_in_yes hN (by first | assumption | (rename_i q; rw [Int32.le_iff_toInt_le] at q; rw [Int32.lt_iff_toInt_lt]; omega)) (by first | assumption | (rename_i q; rw [Int32.lt_iff_toInt_lt] at q; rw [Int32.le_iff_toInt_le]; omega))]; rfl))
    · refine jj_iconst hC dX0_isBelow_9 (v := nI 1) (by decide) ?_
      refine jj_goto hC dX0_isBelow_10 (tgt := 14) (by decide) ?_
      exact hret _ _ _ () dX0_isBelow_14 (by rfl) (by first | (rw [ts_in_neg (by assumption)]; rfl) | (rw [ts_in_big hN (by assumption)]; rfl) | (rw [ts_in_yes hN (by first | assumption | (rename_i q; rw [Int32.le_iff_toInt_le] at q; rw [Int32.lt_iff_toInt_lt]; omega)) (by first | assumption | (rename_i q; rw [Int32.lt_iff_toInt_lt] at q; rw [Int32.le_iff_toInt_le]; omega))]; rfl))
theorem lkX0_requireCollector_45 : Cond.fieldLink RX0 45 RX0 (TX0 1).2.1 (TX0 1).2.2.1 ∈ wsX0_requireCollector := by decide +kernel
theorem hinX0_requireCollector : ∀ w ∈ wsX00, w ∈ wsX0_requireCollector := by decide +kernel
set_option maxRecDepth 100000 in
set_option maxHeartbeats 4000000 in
theorem xp_requireCollector (l : Launch) (D : va_G) (a : Nat → Nat) (c1 c2 c3 : ClassId) (v : ts_V) (g : Nat → Int32) (h : Int32) (hI : ts_I v) (x : Int32) (hq : (ts_in x (ts_k v)) = true) : jj_Mv l D (ts_T c1 c2 c3) yX0_requireCollector wsX0_requireCollector pX0_requireCollector [.ref (a 0), .int x] (wx a c1 c2 v g h) Unit (fun _ => True) (fun _ => wx a c1 c2 v g h) := by
  obtain ⟨hn, hk, hth, hwk, hli, hgr⟩ := id hI
  refine jj_metv (cc := cX0_requireCollector) (nL := 2) (by decide) rfl (Nat.le_of_ble_eq_true rfl) (fun E Q hC hEl hED hD0 hnm hret => ?_)
  show jj_J E 0 0 Q (wx a c1 c2 v g h) 0 [(0, .ref (a 0)), (1, .int x)] []
  refine jj_iload_n hC dX0_requireCollector_0 rfl ?_
  refine jj_aload_n hC dX0_requireCollector_1 rfl ?_
  refine jj_get hC 0 1 dX0_requireCollector_2 (by rfl) rfl (by decide) lkX0_requireCollector_45 rfl hinX0_requireCollector (by rfl) ?_
  refine jj_scalliN hC (xm_isBelow _ _ c1 c2 c3 x (ts_k v) (by omega)) gX0_requireCollector_X0_isBelow rfl 2 (by decide +kernel) ⟨by decide, by decide, by decide, by decide⟩ rfl rfl rfl (Nat.le_of_ble_eq_true rfl) dX0_requireCollector_5 (fun r u hp => ?_)
  obtain rfl := hp
  refine jj_if_neT hC dX0_requireCollector_8 (tgt := 21) (by decide) (by rw [hq]; decide) ?_
  exact hret _ _ () dX0_requireCollector_21 trivial
theorem xkX0_requireCollector_207 : Cond.classLink RX0 207 "java/lang/IndexOutOfBoundsException" ∈ wsX0_requireCollector := by decide +kernel
theorem xiX0_requireCollector_IO : Cond.initialized "java/lang/IndexOutOfBoundsException" ∈ wsX0_requireCollector := by decide +kernel
theorem xgX0_requireCollector_211 : ∀ w ∈ (vx_atS RX0 211 "java/lang/IndexOutOfBoundsException" jj_nm).filter goodWord, w ∈ wsX0_requireCollector := by decide +kernel
set_option maxRecDepth 100000 in
set_option maxHeartbeats 4000000 in
theorem xm_requireCollector (l : Launch) (D : va_G) (a : Nat → Nat) (c1 c2 c3 : ClassId) (v : ts_V) (g : Nat → Int32) (h : Int32) (hl : l.stackTraces = false) (hI : ts_I v) (x : Int32) : jj_Mxv l D (ts_T c1 c2 c3) yX0_requireCollector wsX0_requireCollector rX0_requireCollector [.ref (a 0), .int x] (wx a c1 c2 v g h) (ts_req (ts_in x (ts_k v)) jj_IO) := by
  obtain ⟨hn, hk, hth, hwk, hli, hgr⟩ := id hI
  refine jj_metxv (cc := cX0_requireCollector) (nL := 2) hl rfl (by decide) rfl (Nat.le_of_ble_eq_true rfl) (fun E Q hC hEl hED hD0 hH hV hret hthr hnew => ?_)
  subst hEl
  show jj_J E 0 0 Q (wx a c1 c2 v g h) 0 [(0, .ref (a 0)), (1, .int x)] []
  refine jj_iload_n hC dX0_requireCollector_0 rfl ?_
  refine jj_aload_n hC dX0_requireCollector_1 rfl ?_
  refine jj_get hC 0 1 dX0_requireCollector_2 (by rfl) rfl (by decide) lkX0_requireCollector_45 rfl hinX0_requireCollector (by rfl) ?_
  refine jj_scalliN hC (xm_isBelow _ _ c1 c2 c3 x (ts_k v) (by omega)) gX0_requireCollector_X0_isBelow rfl 2 (by decide +kernel) ⟨by decide, by decide, by decide, by decide⟩ rfl rfl rfl (Nat.le_of_ble_eq_true rfl) dX0_requireCollector_5 (fun r u hp => ?_)
  obtain rfl := hp
  refine jj_if_neB hC dX0_requireCollector_8 (tgt := 21) (by decide) (fun c8 => ?_) (fun c8 => ?_)
  · refine jj_widen (k' := 1) (n' := 6) (by decide) (by decide) ?_
    exact hret _ _ (by simp [ts_req, c8]) dX0_requireCollector_21
  · exact hnew _ _ 11 207 209 211 "java/lang/IndexOutOfBoundsException" "no such collector" _ _ (by simp [ts_req, c8]) (by decide) (by decide) (by decide +kernel) (Or.inl rfl) xkX0_requireCollector_207 xiX0_requireCollector_IO xgX0_requireCollector_211 xbad_IO xot_IO_207 dX0_requireCollector_11 dX0_requireCollector_14 dX0_requireCollector_15 dX0_requireCollector_17 dX0_requireCollector_20 (by decide) (Nat.le_of_ble_eq_true rfl)
theorem lkX0_requireThimble_75 : Cond.fieldLink RX0 75 RX0 (TX0 2).2.1 (TX0 2).2.2.1 ∈ wsX0_requireThimble := by decide +kernel
theorem hinX0_requireThimble : ∀ w ∈ wsX00, w ∈ wsX0_requireThimble := by decide +kernel
set_option maxRecDepth 100000 in
set_option maxHeartbeats 4000000 in
theorem xp_requireThimble (l : Launch) (D : va_G) (a : Nat → Nat) (c1 c2 c3 : ClassId) (v : ts_V) (g : Nat → Int32) (h : Int32) (hI : ts_I v) (x : Int32) (hq : (ts_in x (ts_n v)) = true) : jj_Mv l D (ts_T c1 c2 c3) yX0_requireThimble wsX0_requireThimble pX0_requireThimble [.ref (a 0), .int x] (wx a c1 c2 v g h) Unit (fun _ => True) (fun _ => wx a c1 c2 v g h) := by
  obtain ⟨hn, hk, hth, hwk, hli, hgr⟩ := id hI
  refine jj_metv (cc := cX0_requireThimble) (nL := 2) (by decide) rfl (Nat.le_of_ble_eq_true rfl) (fun E Q hC hEl hED hD0 hnm hret => ?_)
  show jj_J E 0 0 Q (wx a c1 c2 v g h) 0 [(0, .ref (a 0)), (1, .int x)] []
  refine jj_iload_n hC dX0_requireThimble_0 rfl ?_
  refine jj_aload_n hC dX0_requireThimble_1 rfl ?_
  refine jj_get hC 0 2 dX0_requireThimble_2 (by rfl) rfl (by decide) lkX0_requireThimble_75 rfl hinX0_requireThimble (by rfl) ?_
  refine jj_scalliN hC (xm_isBelow _ _ c1 c2 c3 x (ts_n v) (by omega)) gX0_requireThimble_X0_isBelow rfl 2 (by decide +kernel) ⟨by decide, by decide, by decide, by decide⟩ rfl rfl rfl (Nat.le_of_ble_eq_true rfl) dX0_requireThimble_5 (fun r u hp => ?_)
  obtain rfl := hp
  refine jj_if_neT hC dX0_requireThimble_8 (tgt := 21) (by decide) (by rw [hq]; decide) ?_
  exact hret _ _ () dX0_requireThimble_21 trivial
theorem xkX0_requireThimble_207 : Cond.classLink RX0 207 "java/lang/IndexOutOfBoundsException" ∈ wsX0_requireThimble := by decide +kernel
theorem xiX0_requireThimble_IO : Cond.initialized "java/lang/IndexOutOfBoundsException" ∈ wsX0_requireThimble := by decide +kernel
theorem xgX0_requireThimble_211 : ∀ w ∈ (vx_atS RX0 211 "java/lang/IndexOutOfBoundsException" jj_nm).filter goodWord, w ∈ wsX0_requireThimble := by decide +kernel
set_option maxRecDepth 100000 in
set_option maxHeartbeats 4000000 in
theorem xm_requireThimble (l : Launch) (D : va_G) (a : Nat → Nat) (c1 c2 c3 : ClassId) (v : ts_V) (g : Nat → Int32) (h : Int32) (hl : l.stackTraces = false) (hI : ts_I v) (x : Int32) : jj_Mxv l D (ts_T c1 c2 c3) yX0_requireThimble wsX0_requireThimble rX0_requireThimble [.ref (a 0), .int x] (wx a c1 c2 v g h) (ts_req (ts_in x (ts_n v)) jj_IO) := by
  obtain ⟨hn, hk, hth, hwk, hli, hgr⟩ := id hI
  refine jj_metxv (cc := cX0_requireThimble) (nL := 2) hl rfl (by decide) rfl (Nat.le_of_ble_eq_true rfl) (fun E Q hC hEl hED hD0 hH hV hret hthr hnew => ?_)
  subst hEl
  show jj_J E 0 0 Q (wx a c1 c2 v g h) 0 [(0, .ref (a 0)), (1, .int x)] []
  refine jj_iload_n hC dX0_requireThimble_0 rfl ?_
  refine jj_aload_n hC dX0_requireThimble_1 rfl ?_
  refine jj_get hC 0 2 dX0_requireThimble_2 (by rfl) rfl (by decide) lkX0_requireThimble_75 rfl hinX0_requireThimble (by rfl) ?_
  refine jj_scalliN hC (xm_isBelow _ _ c1 c2 c3 x (ts_n v) (by omega)) gX0_requireThimble_X0_isBelow rfl 2 (by decide +kernel) ⟨by decide, by decide, by decide, by decide⟩ rfl rfl rfl (Nat.le_of_ble_eq_true rfl) dX0_requireThimble_5 (fun r u hp => ?_)
  obtain rfl := hp
  refine jj_if_neB hC dX0_requireThimble_8 (tgt := 21) (by decide) (fun c8 => ?_) (fun c8 => ?_)
  · refine jj_widen (k' := 1) (n' := 6) (by decide) (by decide) ?_
    exact hret _ _ (by simp [ts_req, c8]) dX0_requireThimble_21
  · exact hnew _ _ 11 207 212 211 "java/lang/IndexOutOfBoundsException" "no such thimble" _ _ (by simp [ts_req, c8]) (by decide) (by decide) (by decide +kernel) (Or.inl rfl) xkX0_requireThimble_207 xiX0_requireThimble_IO xgX0_requireThimble_211 xbad_IO xot_IO_207 dX0_requireThimble_11 dX0_requireThimble_14 dX0_requireThimble_15 dX0_requireThimble_17 dX0_requireThimble_20 (by decide) (Nat.le_of_ble_eq_true rfl)
set_option maxRecDepth 100000 in
set_option maxHeartbeats 4000000 in
theorem xp_requireSet (l : Launch) (D : va_G) (c1 c2 c3 : ClassId) (x : Int32) (hq : (ts_in x 8) = true) : jj_Mv l D (ts_T c1 c2 c3) yX0_requireSet wsX0_requireSet pX0_requireSet [.int x] ([]) Unit (fun _ => True) (fun _ => []) := by
  refine jj_metv (cc := cX0_requireSet) (nL := 1) (by decide) rfl (Nat.le_of_ble_eq_true rfl) (fun E Q hC hEl hED hD0 hnm hret => ?_)
  show jj_J E 0 0 Q ([]) 0 [(0, .int x)] []
  refine jj_iload_n hC dX0_requireSet_0 rfl ?_
  refine jj_bipush hC dX0_requireSet_1 (v := nI 8) (by decide) ?_
  refine jj_scalliN hC (xm_isBelow _ _ c1 c2 c3 x 8 (by decide)) gX0_requireSet_X0_isBelow rfl 2 (by decide +kernel) ⟨by decide, by decide, by decide, by decide⟩ rfl rfl rfl (Nat.le_of_ble_eq_true rfl) dX0_requireSet_3 (fun r u hp => ?_)
  obtain rfl := hp
  refine jj_if_neT hC dX0_requireSet_6 (tgt := 19) (by decide) (by rw [hq]; decide) ?_
  exact hret _ _ () dX0_requireSet_19 trivial
theorem xkX0_requireSet_207 : Cond.classLink RX0 207 "java/lang/IndexOutOfBoundsException" ∈ wsX0_requireSet := by decide +kernel
theorem xiX0_requireSet_IO : Cond.initialized "java/lang/IndexOutOfBoundsException" ∈ wsX0_requireSet := by decide +kernel
theorem xgX0_requireSet_211 : ∀ w ∈ (vx_atS RX0 211 "java/lang/IndexOutOfBoundsException" jj_nm).filter goodWord, w ∈ wsX0_requireSet := by decide +kernel
set_option maxRecDepth 100000 in
set_option maxHeartbeats 4000000 in
theorem xm_requireSet (l : Launch) (D : va_G) (c1 c2 c3 : ClassId) (hl : l.stackTraces = false) (x : Int32) : jj_Mxv l D (ts_T c1 c2 c3) yX0_requireSet wsX0_requireSet rX0_requireSet [.int x] ([]) (ts_req (ts_in x 8) jj_IO) := by
  refine jj_metxv (cc := cX0_requireSet) (nL := 1) hl rfl (by decide) rfl (Nat.le_of_ble_eq_true rfl) (fun E Q hC hEl hED hD0 hH hV hret hthr hnew => ?_)
  subst hEl
  show jj_J E 0 0 Q ([]) 0 [(0, .int x)] []
  refine jj_iload_n hC dX0_requireSet_0 rfl ?_
  refine jj_bipush hC dX0_requireSet_1 (v := nI 8) (by decide) ?_
  refine jj_scalliN hC (xm_isBelow _ _ c1 c2 c3 x 8 (by decide)) gX0_requireSet_X0_isBelow rfl 2 (by decide +kernel) ⟨by decide, by decide, by decide, by decide⟩ rfl rfl rfl (Nat.le_of_ble_eq_true rfl) dX0_requireSet_3 (fun r u hp => ?_)
  obtain rfl := hp
  refine jj_if_neB hC dX0_requireSet_6 (tgt := 19) (by decide) (fun c6 => ?_) (fun c6 => ?_)
  · refine jj_widen (k' := 1) (n' := 6) (by decide) (by decide) ?_
    exact hret _ _ (by simp [ts_req, c6]) dX0_requireSet_19
  · exact hnew _ _ 9 207 214 211 "java/lang/IndexOutOfBoundsException" "a set is 0 to 7" _ _ (by simp [ts_req, c6]) (by decide) (by decide) (by decide +kernel) (Or.inl rfl) xkX0_requireSet_207 xiX0_requireSet_IO xgX0_requireSet_211 xbad_IO xot_IO_207 dX0_requireSet_9 dX0_requireSet_12 dX0_requireSet_13 dX0_requireSet_15 dX0_requireSet_18 (by decide) (Nat.le_of_ble_eq_true rfl)
set_option maxRecDepth 100000 in
set_option maxHeartbeats 4000000 in
theorem xp_requireRow (l : Launch) (D : va_G) (c1 c2 c3 : ClassId) (x : Int32) (N : Nat) (hN : N < 2 ^ 31) (hq : (ts_in x N) = true) : jj_Mv l D (ts_T c1 c2 c3) yX0_requireRow wsX0_requireRow pX0_requireRow [.int x, .int (nI N)] ([]) Unit (fun _ => True) (fun _ => []) := by
  refine jj_metv (cc := cX0_requireRow) (nL := 2) (by decide) rfl (Nat.le_of_ble_eq_true rfl) (fun E Q hC hEl hED hD0 hnm hret => ?_)
  show jj_J E 0 0 Q ([]) 0 [(0, .int x), (1, .int (nI N))] []
  refine jj_iload_n hC dX0_requireRow_0 rfl ?_
  refine jj_iload_n hC dX0_requireRow_1 rfl ?_
  refine jj_scalliN hC (xm_isBelow _ _ c1 c2 c3 x N hN) gX0_requireRow_X0_isBelow rfl 2 (by decide +kernel) ⟨by decide, by decide, by decide, by decide⟩ rfl rfl rfl (Nat.le_of_ble_eq_true rfl) dX0_requireRow_2 (fun r u hp => ?_)
  obtain rfl := hp
  refine jj_if_neT hC dX0_requireRow_5 (tgt := 18) (by decide) (by rw [hq]; decide) ?_
  exact hret _ _ () dX0_requireRow_18 trivial
theorem xkX0_requireRow_207 : Cond.classLink RX0 207 "java/lang/IndexOutOfBoundsException" ∈ wsX0_requireRow := by decide +kernel
theorem xiX0_requireRow_IO : Cond.initialized "java/lang/IndexOutOfBoundsException" ∈ wsX0_requireRow := by decide +kernel
theorem xgX0_requireRow_211 : ∀ w ∈ (vx_atS RX0 211 "java/lang/IndexOutOfBoundsException" jj_nm).filter goodWord, w ∈ wsX0_requireRow := by decide +kernel
set_option maxRecDepth 100000 in
set_option maxHeartbeats 4000000 in
theorem xm_requireRow (l : Launch) (D : va_G) (c1 c2 c3 : ClassId) (hl : l.stackTraces = false) (x : Int32) (N : Nat) (hN : N < 2 ^ 31) : jj_Mxv l D (ts_T c1 c2 c3) yX0_requireRow wsX0_requireRow rX0_requireRow [.int x, .int (nI N)] ([]) (ts_req (ts_in x N) jj_IO) := by
  refine jj_metxv (cc := cX0_requireRow) (nL := 2) hl rfl (by decide) rfl (Nat.le_of_ble_eq_true rfl) (fun E Q hC hEl hED hD0 hH hV hret hthr hnew => ?_)
  subst hEl
  show jj_J E 0 0 Q ([]) 0 [(0, .int x), (1, .int (nI N))] []
  refine jj_iload_n hC dX0_requireRow_0 rfl ?_
  refine jj_iload_n hC dX0_requireRow_1 rfl ?_
  refine jj_scalliN hC (xm_isBelow _ _ c1 c2 c3 x N hN) gX0_requireRow_X0_isBelow rfl 2 (by decide +kernel) ⟨by decide, by decide, by decide, by decide⟩ rfl rfl rfl (Nat.le_of_ble_eq_true rfl) dX0_requireRow_2 (fun r u hp => ?_)
  obtain rfl := hp
  refine jj_if_neB hC dX0_requireRow_5 (tgt := 18) (by decide) (fun c5 => ?_) (fun c5 => ?_)
  · refine jj_widen (k' := 1) (n' := 6) (by decide) (by decide) ?_
    exact hret _ _ (by simp [ts_req, c5]) dX0_requireRow_18
  · exact hnew _ _ 8 207 216 211 "java/lang/IndexOutOfBoundsException" "this is not told" _ _ (by simp [ts_req, c5]) (by decide) (by decide) (by decide +kernel) (Or.inl rfl) xkX0_requireRow_207 xiX0_requireRow_IO xgX0_requireRow_211 xbad_IO xot_IO_207 dX0_requireRow_8 dX0_requireRow_11 dX0_requireRow_12 dX0_requireRow_14 dX0_requireRow_17 (by decide) (Nat.le_of_ble_eq_true rfl)
theorem lkX0_requireTwoOwners_22 : Cond.fieldLink RX0 22 RX0 (TX0 9).2.1 (TX0 9).2.2.1 ∈ wsX0_requireTwoOwners := by decide +kernel
theorem hinX0_requireTwoOwners : ∀ w ∈ wsX00, w ∈ wsX0_requireTwoOwners := by decide +kernel
set_option maxRecDepth 100000 in
set_option maxHeartbeats 4000000 in
theorem xp_requireTwoOwners (l : Launch) (D : va_G) (a : Nat → Nat) (c1 c2 c3 : ClassId) (v : ts_V) (g : Nat → Int32) (h : Int32) (hI : ts_I v) (x y : Nat) (hx : x < ts_n v) (hy : y < ts_n v) (hq : (decide (¬ ts_ow v x = ts_ow v y)) = true) : jj_Mv l D (ts_T c1 c2 c3) yX0_requireTwoOwners wsX0_requireTwoOwners pX0_requireTwoOwners [.ref (a 0), .int (nI x), .int (nI y)] (wx a c1 c2 v g h) Unit (fun _ => True) (fun _ => wx a c1 c2 v g h) := by
  obtain ⟨hn, hk, hth, hwk, hli, hgr⟩ := id hI
  have hbx := hth x hx
  have hby := hth y hy
  refine jj_metv (cc := cX0_requireTwoOwners) (nL := 3) (by decide) rfl (Nat.le_of_ble_eq_true rfl) (fun E Q hC hEl hED hD0 hnm hret => ?_)
  show jj_J E 0 0 Q (wx a c1 c2 v g h) 0 [(0, .ref (a 0)), (1, .int (nI x)), (2, .int (nI y))] []
  refine jj_aload_n hC dX0_requireTwoOwners_0 rfl ?_
  refine jj_get hC 0 9 dX0_requireTwoOwners_1 (by rfl) rfl (by decide) lkX0_requireTwoOwners_22 rfl hinX0_requireTwoOwners (by rfl) ?_
  refine jj_iload_n hC dX0_requireTwoOwners_4 rfl ?_
  refine jj_iald hC 5 0 dX0_requireTwoOwners_5 (wx_g5 ..) rfl (by omega) (by decide) ?_
  refine jj_aload_n hC dX0_requireTwoOwners_6 rfl ?_
  refine jj_get hC 0 9 dX0_requireTwoOwners_7 (by rfl) rfl (by decide) lkX0_requireTwoOwners_22 rfl hinX0_requireTwoOwners (by rfl) ?_
  refine jj_iload_n hC dX0_requireTwoOwners_10 rfl ?_
  refine jj_iald hC 5 0 dX0_requireTwoOwners_11 (wx_g5 ..) rfl (by omega) (by decide) ?_
  refine jj_icmp_neT hC dX0_requireTwoOwners_12 (tgt := 25) (by decide) (fun e => (of_decide_eq_true hq) ((nI_eq (by omega) (by omega)).mp e)) ?_
  exact hret _ _ () dX0_requireTwoOwners_25 trivial
theorem xkX0_requireTwoOwners_70 : Cond.classLink RX0 70 "java/lang/IllegalArgumentException" ∈ wsX0_requireTwoOwners := by decide +kernel
theorem xiX0_requireTwoOwners_IA : Cond.initialized "java/lang/IllegalArgumentException" ∈ wsX0_requireTwoOwners := by decide +kernel
theorem xgX0_requireTwoOwners_74 : ∀ w ∈ (vx_atS RX0 74 "java/lang/IllegalArgumentException" jj_nm).filter goodWord, w ∈ wsX0_requireTwoOwners := by decide +kernel
set_option maxRecDepth 100000 in
set_option maxHeartbeats 4000000 in
theorem xm_requireTwoOwners (l : Launch) (D : va_G) (a : Nat → Nat) (c1 c2 c3 : ClassId) (v : ts_V) (g : Nat → Int32) (h : Int32) (hl : l.stackTraces = false) (hI : ts_I v) (x y : Nat) (hx : x < ts_n v) (hy : y < ts_n v) : jj_Mxv l D (ts_T c1 c2 c3) yX0_requireTwoOwners wsX0_requireTwoOwners rX0_requireTwoOwners [.ref (a 0), .int (nI x), .int (nI y)] (wx a c1 c2 v g h) (ts_req (decide (¬ ts_ow v x = ts_ow v y)) jj_IA) := by
  obtain ⟨hn, hk, hth, hwk, hli, hgr⟩ := id hI
  have hbx := hth x hx
  have hby := hth y hy
  refine jj_metxv (cc := cX0_requireTwoOwners) (nL := 3) hl rfl (by decide) rfl (Nat.le_of_ble_eq_true rfl) (fun E Q hC hEl hED hD0 hH hV hret hthr hnew => ?_)
  subst hEl
  show jj_J E 0 0 Q (wx a c1 c2 v g h) 0 [(0, .ref (a 0)), (1, .int (nI x)), (2, .int (nI y))] []
  refine jj_aload_n hC dX0_requireTwoOwners_0 rfl ?_
  refine jj_get hC 0 9 dX0_requireTwoOwners_1 (by rfl) rfl (by decide) lkX0_requireTwoOwners_22 rfl hinX0_requireTwoOwners (by rfl) ?_
  refine jj_iload_n hC dX0_requireTwoOwners_4 rfl ?_
  refine jj_iald hC 5 0 dX0_requireTwoOwners_5 (wx_g5 ..) rfl (by omega) (by decide) ?_
  refine jj_aload_n hC dX0_requireTwoOwners_6 rfl ?_
  refine jj_get hC 0 9 dX0_requireTwoOwners_7 (by rfl) rfl (by decide) lkX0_requireTwoOwners_22 rfl hinX0_requireTwoOwners (by rfl) ?_
  refine jj_iload_n hC dX0_requireTwoOwners_10 rfl ?_
  refine jj_iald hC 5 0 dX0_requireTwoOwners_11 (wx_g5 ..) rfl (by omega) (by decide) ?_
  first | refine jj_icmp_neN hC dX0_requireTwoOwners_12 (tgt := 25) (by decide) (by omega) (by omega) (fun c12 => ?_) (fun c12 => ?_) | refine jj_icmp_ne hC dX0_requireTwoOwners_12 (tgt := 25) (by decide) (fun c12 => ?_) (fun c12 => ?_)
  · refine jj_widen (k' := 1) (n' := 6) (by decide) (by decide) ?_
    exact hret _ _ (by simp [ts_req, c12]) dX0_requireTwoOwners_25
  · exact hnew _ _ 15 70 218 74 "java/lang/IllegalArgumentException" "both belong to the same collector" _ _ (by simp [ts_req, c12]) (by decide) (by decide) (by decide +kernel) (Or.inr (Or.inl rfl)) xkX0_requireTwoOwners_70 xiX0_requireTwoOwners_IA xgX0_requireTwoOwners_74 xbad_IA xot_IA_70 dX0_requireTwoOwners_15 dX0_requireTwoOwners_18 dX0_requireTwoOwners_19 dX0_requireTwoOwners_21 dX0_requireTwoOwners_24 (by decide) (Nat.le_of_ble_eq_true rfl)
set_option maxRecDepth 100000 in
set_option maxHeartbeats 4000000 in
theorem xp_requireAtHome (l : Launch) (D : va_G) (a : Nat → Nat) (c1 c2 c3 : ClassId) (v : ts_V) (g : Nat → Int32) (h : Int32) (x : Nat) (hx : x < 36) (hq : (!(ts_lt v x)) = true) : jj_Mv l D (ts_T c1 c2 c3) yX0_requireAtHome wsX0_requireAtHome pX0_requireAtHome [.ref (a 0), .int (nI x)] (wx a c1 c2 v g h) Unit (fun _ => True) (fun _ => wx a c1 c2 v g h) := by
  refine jj_metv (cc := cX0_requireAtHome) (nL := 2) (by decide) rfl (Nat.le_of_ble_eq_true rfl) (fun E Q hC hEl hED hD0 hnm hret => ?_)
  show jj_J E 0 0 Q (wx a c1 c2 v g h) 0 [(0, .ref (a 0)), (1, .int (nI x))] []
  refine jj_aload_n hC dX0_requireAtHome_0 rfl ?_
  refine jj_iload_n hC dX0_requireAtHome_1 rfl ?_
  refine jj_calli hC (xm_isLent _ _ a c1 c2 c3 v g h x hx) gX0_requireAtHome_X0_isLent rfl 1 (by decide +kernel) ⟨by decide, by decide, by decide, by decide⟩ 0 0 (by rfl) rfl rfl rfl rfl (Nat.le_of_ble_eq_true rfl) dX0_requireAtHome_2 (fun r u hp => ?_)
  obtain rfl := hp
  refine jj_if_eqT hC dX0_requireAtHome_5 (tgt := 18) (by decide) (by rw [show ts_lt v x = false by simpa using hq]; decide) ?_
  exact hret _ _ () dX0_requireAtHome_18 trivial
theorem xkX0_requireAtHome_49 : Cond.classLink RX0 49 "java/lang/IllegalStateException" ∈ wsX0_requireAtHome := by decide +kernel
theorem xiX0_requireAtHome_IS : Cond.initialized "java/lang/IllegalStateException" ∈ wsX0_requireAtHome := by decide +kernel
theorem xgX0_requireAtHome_53 : ∀ w ∈ (vx_atS RX0 53 "java/lang/IllegalStateException" jj_nm).filter goodWord, w ∈ wsX0_requireAtHome := by decide +kernel
set_option maxRecDepth 100000 in
set_option maxHeartbeats 4000000 in
theorem xm_requireAtHome (l : Launch) (D : va_G) (a : Nat → Nat) (c1 c2 c3 : ClassId) (v : ts_V) (g : Nat → Int32) (h : Int32) (hl : l.stackTraces = false) (x : Nat) (hx : x < 36) : jj_Mxv l D (ts_T c1 c2 c3) yX0_requireAtHome wsX0_requireAtHome rX0_requireAtHome [.ref (a 0), .int (nI x)] (wx a c1 c2 v g h) (ts_req (!(ts_lt v x)) jj_IS) := by
  refine jj_metxv (cc := cX0_requireAtHome) (nL := 2) hl rfl (by decide) rfl (Nat.le_of_ble_eq_true rfl) (fun E Q hC hEl hED hD0 hH hV hret hthr hnew => ?_)
  subst hEl
  show jj_J E 0 0 Q (wx a c1 c2 v g h) 0 [(0, .ref (a 0)), (1, .int (nI x))] []
  refine jj_aload_n hC dX0_requireAtHome_0 rfl ?_
  refine jj_iload_n hC dX0_requireAtHome_1 rfl ?_
  refine jj_calli hC (xm_isLent _ _ a c1 c2 c3 v g h x hx) gX0_requireAtHome_X0_isLent rfl 1 (by decide +kernel) ⟨by decide, by decide, by decide, by decide⟩ 0 0 (by rfl) rfl rfl rfl rfl (Nat.le_of_ble_eq_true rfl) dX0_requireAtHome_2 (fun r u hp => ?_)
  obtain rfl := hp
  refine jj_if_eqB hC dX0_requireAtHome_5 (tgt := 18) (by decide) (fun c5 => ?_) (fun c5 => ?_)
  · refine jj_widen (k' := 1) (n' := 6) (by decide) (by decide) ?_
    exact hret _ _ (by simp [ts_req, c5]) dX0_requireAtHome_18
  · exact hnew _ _ 8 49 224 53 "java/lang/IllegalStateException" "the thimble is lent" _ _ (by simp [ts_req, c5]) (by decide) (by decide) (by decide +kernel) (Or.inr (Or.inr rfl)) xkX0_requireAtHome_49 xiX0_requireAtHome_IS xgX0_requireAtHome_53 xbad_IS xot_IS_49 dX0_requireAtHome_8 dX0_requireAtHome_11 dX0_requireAtHome_12 dX0_requireAtHome_14 dX0_requireAtHome_17 (by decide) (Nat.le_of_ble_eq_true rfl)
