/-! ===== the law's loop ===== -/
theorem ts_cI {args : Array Value} {s : State} (h : (Cond.arrayClass .int).before args s = true) : ∃ c : ClassId, ArrOfT s c .int ∧ va_RA s c .int := by
  obtain ⟨c, k, comp, h1, h2, h3⟩ := Cond.arrayClass_spec h
  exact ⟨c, fun n z => ⟨fun k h => (by cases h), k, h2, comp, h3⟩, h1⟩
theorem ts_cJ {args : Array Value} {s : State} (h : (Cond.arrayClass .long).before args s = true) : ∃ c : ClassId, ArrOfT s c .long ∧ va_RA s c .long := by
  obtain ⟨c, k, comp, h1, h2, h3⟩ := Cond.arrayClass_spec h
  exact ⟨c, fun n z => ⟨fun k h => (by cases h), k, h2, comp, h3⟩, h1⟩
theorem ts_cA {args : Array Value} {s : State} (h : (Cond.arrayOver (.array .int)).before args s = true) : ∃ c : ClassId, ArrOfT s c (.array .int) ∧ va_RA s c (.array .int) := by
  obtain ⟨comp, c, k, h1, h2, h3, h4⟩ := Cond.arrayOver_specA h
  exact ⟨c, fun n z => ⟨fun k h => (by cases h), k, h2, comp, h3⟩, h4⟩
theorem ts_str {args : Array Value} {s : State} {k : Nat} {tx : String} (h1 : (Cond.stringRef RX0 k tx).before args s = true) (h2 : (Cond.exactly (.string RX0 k) "java/lang/String").before args s = true) : ∃ a : Nat, vk_R RX0 k tx a s := by
  obtain ⟨a, c, cA, kA, q1, q2, q3, q4, q5, q6, -⟩ := Cond.exactly_spec (args := args) (first := s) (o := none) (s := s) (idx := []) (t := .string RX0 k) (cls := "java/lang/String") h2
  exact ⟨a, vk_R.of h1 q1⟩
theorem jj_swapw {E : jj_E} {k n : Nat} {Q : State → Prop} {wa wb wc : va_W} {pc : Nat} {lv : List (Nat × Value)} {rest : List Value} (h : jj_J E k n Q ((wa ++ wc) ++ wb) pc lv rest) : jj_J E k n Q ((wa ++ wb) ++ wc) pc lv rest := fun H locs ls hP hD hS hl => h H locs ls hP.swap hD.swap hS hl
set_option maxRecDepth 100000 in
set_option maxHeartbeats 4000000 in
theorem law_loop {E : jj_E} {Q : State → Prop} {sb L : Nat} {xs : Nat → Int32} {c1 c2 c3 : ClassId} (B9 : jj_L E sb L xs c1 c2 c3) (a bb : Nat → Nat) (o : Nat) (hend : ∀ (ws : va_W) (lv : List (Nat × Value)), jj_J E 601024 7293034 Q ws 1314 lv [.int (nI 1)]) : ∀ k, k ≤ L / 6 → ∀ (v : ts_V) (g : Nat → Int32) (h : Int32) (y : Nat → Int64) (th : Int32) (z : Nat → Int32), ts_I v → jj_J E (34 + 2 * k) (826 + 13 * k) Q ((wx a c1 c2 v g h ++ ts_oa c3 o y) ++ wm bb c1 v th z) 23 [(0, .ref sb), (1, .ref (a 0)), (2, .ref (bb 0)), (3, .ref o), (4, .int (nI (6 * k)))] [] := by
  obtain ⟨hC, hl, hH, hV, hN, hX, hbl, hbA, hL⟩ := id B9
  refine jj_for (P := fun k => ∀ (v : ts_V) (g : Nat → Int32) (h : Int32) (y : Nat → Int64) (th : Int32) (z : Nat → Int32), ts_I v → jj_J E (34 + 2 * k) (826 + 13 * k) Q ((wx a c1 c2 v g h ++ ts_oa c3 o y) ++ wm bb c1 v th z) 23 [(0, .ref sb), (1, .ref (a 0)), (2, .ref (bb 0)), (3, .ref o), (4, .int (nI (6 * k)))] []) (N := L / 6) ?_ ?_
  · intro v g h y th z hI
    refine jj_iload hC dL_law_23 rfl ?_
    refine jj_aload_n hC dL_law_25 rfl ?_
    refine jj_slen hC hX hbl hbA dL_law_26 ?_
    refine jj_bipush hC dL_law_27 (v := nI 6) (by decide) ?_
    refine jj_isub hC dL_law_29 ?_
    refine jj_icmp_gtT hC dL_law_30 (tgt := 1313) (by decide) (by rw [Int32.lt_iff_toInt_lt, pk_sub_toInt (by omega) (by omega), nI_toInt (by omega)]; omega) ?_
    refine jj_iconst hC dL_law_1313 (v := nI 1) (by decide) ?_
    exact jj_widen (by omega) (by omega) (hend _ _)
  · intro k hk ih v g h y th z hI
    have hb : ∀ (v : ts_V) (g : Nat → Int32) (h : Int32) (y : Nat → Int64) (th : Int32) (z : Nat → Int32), ts_I v → jj_J E (34 + 2 * k + 2) (826 + 13 * k + 13) Q ((wx a c1 c2 v g h ++ ts_oa c3 o y) ++ wm bb c1 v th z) 1307 [(0, .ref sb), (1, .ref (a 0)), (2, .ref (bb 0)), (3, .ref o), (4, .int (nI (6 * k)))] [] := by
      intro v g h y th z hI
      refine jj_iincN hC dL_law_1307 rfl (d9 := 6) (by decide) (by decide) [1, 2, 3, 4, 0] (lv' := [(0, _), (1, _), (2, _), (3, _), (4, .int _)]) rfl ?_
      refine jj_goto hC dL_law_1310 (tgt := 23) (by decide) ?_
      refine jj_widen (by omega) (by omega) (ih v g h y th z hI)
    refine jj_iload hC dL_law_23 rfl ?_
    refine jj_aload_n hC dL_law_25 rfl ?_
    refine jj_slen hC hX hbl hbA dL_law_26 ?_
    refine jj_bipush hC dL_law_27 (v := nI 6) (by decide) ?_
    refine jj_isub hC dL_law_29 ?_
    refine jj_icmp_gtF hC dL_law_30 (tgt := 1313) (by decide) (by rw [Int32.lt_iff_toInt_lt, pk_sub_toInt (by omega) (by omega), nI_toInt (by omega)]; omega) ?_
    refine jj_aload_n hC dL_law_33 rfl ?_
    refine jj_iload hC dL_law_34 rfl ?_
    refine jj_sld hC hX hbl hbA (by omega) (by omega) dL_law_36 ?_
    refine jj_bipush hC dL_law_37 (v := nI 31) (by decide) ?_
    refine jj_iand hC dL_law_39 ?_
    obtain ⟨j, hj, ej⟩ := pk_andE (xs (6 * k)) (m := nI 31) 5 (by decide)
    refine jj_topi ej ?_
    by_cases h19 : j < 19
    · rcases (show j = 0 ∨ j = 1 ∨ j = 2 ∨ j = 3 ∨ j = 4 ∨ j = 5 ∨ j = 6 ∨ j = 7 ∨ j = 8 ∨ j = 9 ∨ j = 10 ∨ j = 11 ∨ j = 12 ∨ j = 13 ∨ j = 14 ∨ j = 15 ∨ j = 16 ∨ j = 17 ∨ j = 18 by omega) with rfl | rfl | rfl | rfl | rfl | rfl | rfl | rfl | rfl | rfl | rfl | rfl | rfl | rfl | rfl | rfl | rfl | rfl | rfl
      · refine jj_tableIn hC dL_law_40 (by decide) (by decide) (off := 92) (by decide) (tgt := 132) (by decide) ?_
        exact la_join B9 a bb o hI (by omega) ⟨by omega, by omega⟩ hb
      · refine jj_tableIn hC dL_law_40 (by decide) (by decide) (off := 136) (by decide) (tgt := 176) (by decide) ?_
        exact la_find B9 a bb o hI (by omega) ⟨by omega, by omega⟩ hb
      · refine jj_tableIn hC dL_law_40 (by decide) (by decide) (off := 240) (by decide) (tgt := 280) (by decide) ?_
        exact la_like B9 a bb o hI (by omega) ⟨by omega, by omega⟩ hb
      · refine jj_tableIn hC dL_law_40 (by decide) (by decide) (off := 320) (by decide) (tgt := 360) (by decide) ?_
        exact la_collector B9 a bb o hI (by omega) ⟨by omega, by omega⟩ hb
      · refine jj_tableIn hC dL_law_40 (by decide) (by decide) (off := 388) (by decide) (tgt := 428) (by decide) ?_
        exact la_grudge B9 a bb o hI (by omega) ⟨by omega, by omega⟩ hb
      · refine jj_tableIn hC dL_law_40 (by decide) (by decide) (off := 456) (by decide) (tgt := 496) (by decide) ?_
        exact la_thimble B9 a bb o hI (by omega) ⟨by omega, by omega⟩ hb
      · refine jj_tableIn hC dL_law_40 (by decide) (by decide) (off := 524) (by decide) (tgt := 564) (by decide) ?_
        exact la_gains B9 a bb o hI (by omega) ⟨by omega, by omega⟩ hb
      · refine jj_tableIn hC dL_law_40 (by decide) (by decide) (off := 592) (by decide) (tgt := 632) (by decide) ?_
        exact la_swap B9 a bb o hI (by omega) ⟨by omega, by omega⟩ hb
      · refine jj_tableIn hC dL_law_40 (by decide) (by decide) (off := 660) (by decide) (tgt := 700) (by decide) ?_
        exact la_best B9 a bb o hI (by omega) ⟨by omega, by omega⟩ hb
      · refine jj_tableIn hC dL_law_40 (by decide) (by decide) (off := 728) (by decide) (tgt := 768) (by decide) ?_
        exact la_ring B9 a bb o hI (by omega) ⟨by omega, by omega⟩ hb
      · refine jj_tableIn hC dL_law_40 (by decide) (by decide) (off := 808) (by decide) (tgt := 848) (by decide) ?_
        exact la_fair B9 a bb o hI (by omega) ⟨by omega, by omega⟩ hb
      · refine jj_tableIn hC dL_law_40 (by decide) (by decide) (off := 864) (by decide) (tgt := 904) (by decide) ?_
        exact la_lend B9 a bb o hI (by omega) ⟨by omega, by omega⟩ hb
      · refine jj_tableIn hC dL_law_40 (by decide) (by decide) (off := 932) (by decide) (tgt := 972) (by decide) ?_
        exact la_shows B9 a bb o hI (by omega) ⟨by omega, by omega⟩ hb
      · refine jj_tableIn hC dL_law_40 (by decide) (by decide) (off := 988) (by decide) (tgt := 1028) (by decide) ?_
        exact la_lacks B9 a bb o hI (by omega) ⟨by omega, by omega⟩ hb
      · refine jj_tableIn hC dL_law_40 (by decide) (by decide) (off := 1044) (by decide) (tgt := 1084) (by decide) ?_
        exact la_finest B9 a bb o hI (by omega) ⟨by omega, by omega⟩ hb
      · refine jj_tableIn hC dL_law_40 (by decide) (by decide) (off := 1100) (by decide) (tgt := 1140) (by decide) ?_
        exact la_pass B9 a bb o hI (by omega) ⟨by omega, by omega⟩ hb
      · refine jj_tableIn hC dL_law_40 (by decide) (by decide) (off := 1156) (by decide) (tgt := 1196) (by decide) ?_
        exact la_count B9 a bb o hI (by omega) ⟨by omega, by omega⟩ hb
      · refine jj_tableIn hC dL_law_40 (by decide) (by decide) (off := 1212) (by decide) (tgt := 1252) (by decide) ?_
        exact la_mean B9 a bb o hI (by omega) ⟨by omega, by omega⟩ hb
      · refine jj_tableIn hC dL_law_40 (by decide) (by decide) (off := 1253) (by decide) (tgt := 1293) (by decide) ?_
        exact la_digest B9 a bb o hI (by omega) ⟨by omega, by omega⟩ hb
    · refine jj_tableOut hC dL_law_40 (Or.inr (by rw [nI_toInt (by omega)]; omega)) (tgt := 1307) (by decide) ?_
      exact jj_widen (by omega) (by omega) (hb v g h y th z hI)
