/-! the mean, the digest -/
theorem ts_nn (a b : Int32) (hb : b.toInt ≠ 0) : vf_n64 (FP.ddiv (FP.i2d a) (FP.i2d b)) := by
  have a1 := Jvm.FP.Core.fromInt_mag (Jvm.FP.Core.toNat_i2d a) (j := 31) (K := 1054) (Jvm.FP.Core.int32_abs a) (by decide) (by decide)
  have b1 := Jvm.FP.Core.fromInt_mag (Jvm.FP.Core.toNat_i2d b) (j := 31) (K := 1054) (Jvm.FP.Core.int32_abs b) (by decide) (by decide)
  have b2 := Jvm.FP.Core.fromInt_ge (Jvm.FP.Core.toNat_i2d b) hb
  have h := Jvm.FP.Core.ddiv_mag (a := Jvm.FP.Core.i2d a) (b := Jvm.FP.Core.i2d b) (K := 1055) (L := 1023) (by omega) (by omega) (by omega) (by decide) (by decide)
  show (Jvm.FP.Core.ddiv (Jvm.FP.Core.i2d a) (Jvm.FP.Core.i2d b)) &&& 0x7fffffffffffffff ≤ 0x7ff0000000000000
  rw [UInt64.le_iff_toNat_le, UInt64.toNat_and, show (0x7fffffffffffffff : UInt64).toNat = 2 ^ 63 - 1 from rfl, Nat.and_two_pow_sub_one_eq_mod, show (0x7ff0000000000000 : UInt64).toNat = 2047 * 2 ^ 52 from rfl]
  omega
def ts_me (v : ts_V) : UInt64 := if ts_n v = 0 then FP.dconst0 else FP.ddiv (FP.i2d (nI (ts_all v))) (FP.i2d (nI (ts_n v)))
def ts_fo (f : Nat → Int32) (d : Int64) : Nat → Int64
  | 0 => d
  | n + 1 => ts_fo f d n * 31 + (f n).toInt64
def ts_fL (f : Int64 → Nat → Int64) (d : Int64) : Nat → Int64
  | 0 => d
  | n + 1 => f (ts_fL f d n) n
def ts_dc (v : ts_V) (d : Int64) (c : Nat) : Int64 := ts_fo (fun o => nI (ts_gr v c o)) (ts_fo (fun s => nI (ts_li v c s)) (ts_fo (fun w => ts_ct v c w) d 7) 8) (ts_k v)
def ts_dt (v : ts_V) (d : Int64) (t : Nat) : Int64 := ts_fo (fun w => ts_col v w t) d 6
def ts_dg (v : ts_V) : Int64 := ts_fL (ts_dt v) (ts_fL (ts_dc v) (ts_fo (ts_cn v) 761 7) (ts_k v)) (ts_n v)
theorem lkX0_mean_75 : Cond.fieldLink RX0 75 RX0 (TX0 2).2.1 (TX0 2).2.2.1 ∈ wsX0_mean := by decide +kernel
theorem hinX0_mean : ∀ w ∈ wsX00, w ∈ wsX0_mean := by decide +kernel
set_option maxRecDepth 100000 in
set_option maxHeartbeats 4000000 in
theorem xm_mean (l : Launch) (D : va_G) (a : Nat → Nat) (c1 c2 c3 : ClassId) (v : ts_V) (g : Nat → Int32) (h : Int32) (hI : ts_I v) : jj_Md l D (ts_T c1 c2 c3) yX0_mean wsX0_mean rX0_mean [.ref (a 0)] (wx a c1 c2 v g h) ((Nat → Int32) × Int32) (fun x _ => x = ts_me v) (fun u => wx a c1 c2 v u.1 u.2) := by
  obtain ⟨hn, hk, hth, hwk, hli, hgr⟩ := id hI
  refine jj_metd (cc := cX0_mean) (nL := 1) (by decide) rfl (Nat.le_of_ble_eq_true rfl) (fun E Q hC hEl hED hD0 hret => ?_)
  show jj_J E 0 0 Q (wx a c1 c2 v g h) 0 [(0, .ref (a 0))] []
  refine jj_aload_n hC dX0_mean_0 rfl ?_
  refine jj_get hC 0 2 dX0_mean_1 (by rfl) rfl (by decide) lkX0_mean_75 rfl hinX0_mean (by rfl) ?_
  refine jj_if_ne hC dX0_mean_4 (tgt := 9) (by decide) (fun c4 => ?_) (fun c4 => ?_)
  · have h0 : ts_n v ≠ 0 := fun e => c4 (by rw [e]; rfl)
    refine jj_aload_n hC dX0_mean_9 rfl ?_
    refine jj_calli hC (xm_worthOfAll _ _ a c1 c2 c3 v g h hI) gX0_mean_X0_worthOfAll rfl 0 (by decide +kernel) ⟨by decide, by decide, by decide, by decide⟩ 0 0 (by rfl) rfl rfl rfl rfl (Nat.le_of_ble_eq_true rfl) dX0_mean_10 (fun r u hp => ?_)
    obtain rfl := hp
    refine jj_i2d hC dX0_mean_13 ?_
    refine jj_aload_n hC dX0_mean_14 rfl ?_
    refine jj_get hC 0 2 dX0_mean_15 (by rfl) rfl (by decide) lkX0_mean_75 rfl hinX0_mean (by rfl) ?_
    refine jj_i2d hC dX0_mean_18 ?_
    refine jj_ddiv hC dX0_mean_19 (ts_nn _ _ (by rw [nI_toInt (by omega)]; omega)) ?_
    exact hret _ _ _ u dX0_mean_20 (by unfold ts_me; rw [if_neg h0])
  · have h0 : ts_n v = 0 := by have e := congrArg Int32.toInt c4; rw [nI_toInt (by omega)] at e; exact Int.ofNat_eq_zero.mp e
    refine jj_dconst0 hC dX0_mean_7 ?_
    exact hret _ _ _ (g, h) dX0_mean_8 (by unfold ts_me; rw [if_pos h0])
theorem mlX0_digestWithThimble_189 : Cond.constantLong RX0 189 (31) ∈ wsX0_digestWithThimble := by decide +kernel
set_option maxRecDepth 100000 in
set_option maxHeartbeats 4000000 in
theorem xm_digestWithThimble (l : Launch) (D : va_G) (a : Nat → Nat) (c1 c2 c3 : ClassId) (v : ts_V) (g : Nat → Int32) (h : Int32) (hI : ts_I v) (d : Int64) (t : Nat) (ht : t < ts_n v) : jj_Ml l D (ts_T c1 c2 c3) yX0_digestWithThimble wsX0_digestWithThimble pX0_digestWithThimble [.ref (a 0), .long d, .int (nI t)] (wx a c1 c2 v g h) Unit (fun x _ => x = ts_dt v d t) (fun _ => wx a c1 c2 v g h) := by
  obtain ⟨hn, hk, hth, hwk, hli, hgr⟩ := id hI
  refine jj_metl (cc := cX0_digestWithThimble) (nL := 7) (by decide) rfl (Nat.le_of_ble_eq_true rfl) (fun E Q hC hEl hED hD0 hret => ?_)
  show jj_J E 0 0 Q (wx a c1 c2 v g h) 0 [(0, .ref (a 0)), (1, .long d), (3, .int (nI t))] []
  refine jj_lload_n hC dX0_digestWithThimble_0 rfl ?_
  refine jj_lstore hC dX0_digestWithThimble_1 (by decide) [1, 2, 3, 0] (lv' := [(0, _), (1, _), (3, _), (4, .long _)]) rfl ?_
  refine jj_iconst hC dX0_digestWithThimble_3 (v := nI 0) (by decide) ?_
  refine jj_istore hC dX0_digestWithThimble_4 (by decide) [1, 2, 3, 4, 0] (lv' := [(0, _), (1, _), (3, _), (4, _), (6, .int _)]) rfl ?_
  refine jj_for (P := fun i => jj_J E 0 0 Q (wx a c1 c2 v g h) 6 [(0, .ref (a 0)), (1, .long d), (3, .int (nI t)), (4, .long (ts_fo (fun w => ts_col v w t) d i)), (6, .int (nI i))] []) (N := 6) ?_ ?_ 0 (Nat.zero_le _)
  · refine jj_iload hC dX0_digestWithThimble_6 rfl ?_
    refine jj_bipush hC dX0_digestWithThimble_8 (v := nI 6) (by decide) ?_
    refine jj_icmp_geT hC dX0_digestWithThimble_10 (tgt := 36) (by decide) (nI_le (Nat.le_refl _) (by omega)) ?_
    refine jj_lload hC dX0_digestWithThimble_36 rfl ?_
    exact hret _ _ _ () dX0_digestWithThimble_38 rfl
  · intro i hi ih
    refine jj_iload hC dX0_digestWithThimble_6 rfl ?_
    refine jj_bipush hC dX0_digestWithThimble_8 (v := nI 6) (by decide) ?_
    refine jj_icmp_geF hC dX0_digestWithThimble_10 (tgt := 36) (by decide) (nI_ge hi (by omega)) ?_
    refine jj_lload hC dX0_digestWithThimble_13 rfl ?_
    refine jj_ldc2 hC dX0_digestWithThimble_15 mlX0_digestWithThimble_189 ?_
    refine jj_lmul hC dX0_digestWithThimble_18 ?_
    refine jj_aload_n hC dX0_digestWithThimble_19 rfl ?_
    refine jj_iload_n hC dX0_digestWithThimble_20 rfl ?_
    refine jj_iload hC dX0_digestWithThimble_21 rfl ?_
    refine jj_calli hC (xp_thimble _ _ a c1 c2 c3 v g h hI t i ht hi) gX0_digestWithThimble_X0_thimble rfl 2 (by decide +kernel) ⟨by decide, by decide, by decide, by decide⟩ 0 0 (by rfl) rfl rfl rfl rfl (Nat.le_of_ble_eq_true rfl) dX0_digestWithThimble_23 (fun r u hp => ?_)
    obtain rfl := hp
    refine jj_i2l hC dX0_digestWithThimble_26 ?_
    refine jj_ladd hC dX0_digestWithThimble_27 ?_
    refine jj_lstore hC dX0_digestWithThimble_28 (by decide) [1, 2, 3, 0, 4] (lv' := [(0, _), (1, _), (3, _), (4, .long _), (6, _)]) rfl ?_
    refine jj_iincN hC dX0_digestWithThimble_30 rfl (d9 := 1) (by decide) (by decide) [1, 2, 3, 4, 0] (lv' := [(0, _), (1, _), (3, _), (4, _), (6, .int _)]) rfl ?_
    refine jj_goto hC dX0_digestWithThimble_33 (tgt := 6) (by decide) ?_
    exact ih
theorem mlX0_digestWithCollector_189 : Cond.constantLong RX0 189 (31) ∈ wsX0_digestWithCollector := by decide +kernel
theorem lkX0_digestWithCollector_33 : Cond.fieldLink RX0 33 RX0 (TX0 12).2.1 (TX0 12).2.2.1 ∈ wsX0_digestWithCollector := by decide +kernel
theorem lkX0_digestWithCollector_45 : Cond.fieldLink RX0 45 RX0 (TX0 1).2.1 (TX0 1).2.2.1 ∈ wsX0_digestWithCollector := by decide +kernel
theorem lkX0_digestWithCollector_36 : Cond.fieldLink RX0 36 RX0 (TX0 13).2.1 (TX0 13).2.2.1 ∈ wsX0_digestWithCollector := by decide +kernel
theorem hinX0_digestWithCollector : ∀ w ∈ wsX00, w ∈ wsX0_digestWithCollector := by decide +kernel
set_option maxRecDepth 100000 in
set_option maxHeartbeats 4000000 in
theorem xm_digestWithCollector (l : Launch) (D : va_G) (a : Nat → Nat) (c1 c2 c3 : ClassId) (v : ts_V) (g : Nat → Int32) (h : Int32) (hI : ts_I v) (d : Int64) (c : Nat) (hc : c < ts_k v) : jj_Ml l D (ts_T c1 c2 c3) yX0_digestWithCollector wsX0_digestWithCollector pX0_digestWithCollector [.ref (a 0), .long d, .int (nI c)] (wx a c1 c2 v g h) ((Nat → Int32) × Int32) (fun x _ => x = ts_dc v d c) (fun u => wx a c1 c2 v u.1 u.2) := by
  obtain ⟨hn, hk, hth, hwk, hli, hgr⟩ := id hI
  refine jj_metl (cc := cX0_digestWithCollector) (nL := 7) (by decide) rfl (Nat.le_of_ble_eq_true rfl) (fun E Q hC hEl hED hD0 hret => ?_)
  show jj_J E 0 0 Q (wx a c1 c2 v g h) 0 [(0, .ref (a 0)), (1, .long d), (3, .int (nI c))] []
  refine jj_lload_n hC dX0_digestWithCollector_0 rfl ?_
  refine jj_lstore hC dX0_digestWithCollector_1 (by decide) [1, 2, 3, 0] (lv' := [(0, _), (1, _), (3, _), (4, .long _)]) rfl ?_
  refine jj_iconst hC dX0_digestWithCollector_3 (v := nI 0) (by decide) ?_
  refine jj_istore hC dX0_digestWithCollector_4 (by decide) [1, 2, 3, 4, 0] (lv' := [(0, _), (1, _), (3, _), (4, _), (6, .int _)]) rfl ?_
  refine jj_for (P := fun i => ∀ (g1 : Nat → Int32) (h1 : Int32), jj_J E 0 0 Q (wx a c1 c2 v g1 h1) 6 [(0, .ref (a 0)), (1, .long d), (3, .int (nI c)), (4, .long (ts_fo (fun w => ts_ct v c w) d i)), (6, .int (nI i))] []) (N := 7) ?_ ?_ 0 (Nat.zero_le _) _ _
  · intro g1 h1
    refine jj_iload hC dX0_digestWithCollector_6 rfl ?_
    refine jj_bipush hC dX0_digestWithCollector_8 (v := nI 7) (by decide) ?_
    refine jj_icmp_geT hC dX0_digestWithCollector_10 (tgt := 36) (by decide) (nI_le (Nat.le_refl _) (by omega)) ?_
    refine jj_iconst hC dX0_digestWithCollector_36 (v := nI 0) (by decide) ?_
    refine jj_istore hC dX0_digestWithCollector_37 (by decide) [1, 2, 3, 4, 0] (lv' := [(0, _), (1, _), (3, _), (4, _), (6, .int _)]) rfl ?_
    refine jj_for (P := fun i => jj_J E 0 0 Q (wx a c1 c2 v g1 h1) 39 [(0, .ref (a 0)), (1, .long d), (3, .int (nI c)), (4, .long (ts_fo (fun s => nI (ts_li v c s)) (ts_fo (fun w => ts_ct v c w) d 7) i)), (6, .int (nI i))] []) (N := 8) ?_ ?_ 0 (Nat.zero_le _)
    · refine jj_iload hC dX0_digestWithCollector_39 rfl ?_
      refine jj_bipush hC dX0_digestWithCollector_41 (v := nI 8) (by decide) ?_
      refine jj_icmp_geT hC dX0_digestWithCollector_43 (tgt := 71) (by decide) (nI_le (Nat.le_refl _) (by omega)) ?_
      refine jj_iconst hC dX0_digestWithCollector_71 (v := nI 0) (by decide) ?_
      refine jj_istore hC dX0_digestWithCollector_72 (by decide) [1, 2, 3, 4, 0] (lv' := [(0, _), (1, _), (3, _), (4, _), (6, .int _)]) rfl ?_
      refine jj_for (P := fun i => jj_J E 0 0 Q (wx a c1 c2 v g1 h1) 74 [(0, .ref (a 0)), (1, .long d), (3, .int (nI c)), (4, .long (ts_fo (fun o => nI (ts_gr v c o)) (ts_fo (fun s => nI (ts_li v c s)) (ts_fo (fun w => ts_ct v c w) d 7) 8) i)), (6, .int (nI i))] []) (N := ts_k v) ?_ ?_ 0 (Nat.zero_le _)
      · refine jj_iload hC dX0_digestWithCollector_74 rfl ?_
        refine jj_aload_n hC dX0_digestWithCollector_76 rfl ?_
        refine jj_get hC 0 1 dX0_digestWithCollector_77 (by rfl) rfl (by decide) lkX0_digestWithCollector_45 rfl hinX0_digestWithCollector (by rfl) ?_
        refine jj_icmp_geT hC dX0_digestWithCollector_80 (tgt := 108) (by decide) (nI_le (Nat.le_refl _) (by omega)) ?_
        refine jj_lload hC dX0_digestWithCollector_108 rfl ?_
        exact hret _ _ _ (g1, h1) dX0_digestWithCollector_110 rfl
      · intro i hi ih
        refine jj_iload hC dX0_digestWithCollector_74 rfl ?_
        refine jj_aload_n hC dX0_digestWithCollector_76 rfl ?_
        refine jj_get hC 0 1 dX0_digestWithCollector_77 (by rfl) rfl (by decide) lkX0_digestWithCollector_45 rfl hinX0_digestWithCollector (by rfl) ?_
        refine jj_icmp_geF hC dX0_digestWithCollector_80 (tgt := 108) (by decide) (nI_ge hi (by omega)) ?_
        refine jj_lload hC dX0_digestWithCollector_83 rfl ?_
        refine jj_ldc2 hC dX0_digestWithCollector_85 mlX0_digestWithCollector_189 ?_
        refine jj_lmul hC dX0_digestWithCollector_88 ?_
        refine jj_aload_n hC dX0_digestWithCollector_89 rfl ?_
        refine jj_get hC 0 13 dX0_digestWithCollector_90 (by rfl) rfl (by decide) lkX0_digestWithCollector_36 rfl hinX0_digestWithCollector (by rfl) ?_
        refine jj_iload_n hC dX0_digestWithCollector_93 rfl ?_
        refine jj_aald hC 9 1 dX0_digestWithCollector_94 (wx_g9 ..) rfl rfl (by omega) (by decide) (if_pos (by omega)) ?_
        refine jj_iload hC dX0_digestWithCollector_95 rfl ?_
        refine jj_iald hC _ 0 dX0_digestWithCollector_97 (wx_ggr _ _ _ _ _ _ _ (by omega)) rfl (by omega) (by decide) ?_
        refine jj_i2l hC dX0_digestWithCollector_98 ?_
        refine jj_ladd hC dX0_digestWithCollector_99 ?_
        refine jj_lstore hC dX0_digestWithCollector_100 (by decide) [1, 2, 3, 0, 4] (lv' := [(0, _), (1, _), (3, _), (4, .long _), (6, _)]) rfl ?_
        refine jj_iincN hC dX0_digestWithCollector_102 rfl (d9 := 1) (by decide) (by decide) [1, 2, 3, 4, 0] (lv' := [(0, _), (1, _), (3, _), (4, _), (6, .int _)]) rfl ?_
        refine jj_goto hC dX0_digestWithCollector_105 (tgt := 74) (by decide) ?_
        exact ih
    · intro i hi ih
      refine jj_iload hC dX0_digestWithCollector_39 rfl ?_
      refine jj_bipush hC dX0_digestWithCollector_41 (v := nI 8) (by decide) ?_
      refine jj_icmp_geF hC dX0_digestWithCollector_43 (tgt := 71) (by decide) (nI_ge hi (by omega)) ?_
      refine jj_lload hC dX0_digestWithCollector_46 rfl ?_
      refine jj_ldc2 hC dX0_digestWithCollector_48 mlX0_digestWithCollector_189 ?_
      refine jj_lmul hC dX0_digestWithCollector_51 ?_
      refine jj_aload_n hC dX0_digestWithCollector_52 rfl ?_
      refine jj_get hC 0 12 dX0_digestWithCollector_53 (by rfl) rfl (by decide) lkX0_digestWithCollector_33 rfl hinX0_digestWithCollector (by rfl) ?_
      refine jj_iload_n hC dX0_digestWithCollector_56 rfl ?_
      refine jj_aald hC 8 1 dX0_digestWithCollector_57 (wx_g8 ..) rfl rfl (by omega) (by decide) (if_pos (by omega)) ?_
      refine jj_iload hC dX0_digestWithCollector_58 rfl ?_
      refine jj_iald hC _ 0 dX0_digestWithCollector_60 (wx_gli _ _ _ _ _ _ _ (by omega)) rfl (by omega) (by decide) ?_
      refine jj_i2l hC dX0_digestWithCollector_61 ?_
      refine jj_ladd hC dX0_digestWithCollector_62 ?_
      refine jj_lstore hC dX0_digestWithCollector_63 (by decide) [1, 2, 3, 0, 4] (lv' := [(0, _), (1, _), (3, _), (4, .long _), (6, _)]) rfl ?_
      refine jj_iincN hC dX0_digestWithCollector_65 rfl (d9 := 1) (by decide) (by decide) [1, 2, 3, 4, 0] (lv' := [(0, _), (1, _), (3, _), (4, _), (6, .int _)]) rfl ?_
      refine jj_goto hC dX0_digestWithCollector_68 (tgt := 39) (by decide) ?_
      exact ih
  · intro i hi ih g1 h1
    refine jj_iload hC dX0_digestWithCollector_6 rfl ?_
    refine jj_bipush hC dX0_digestWithCollector_8 (v := nI 7) (by decide) ?_
    refine jj_icmp_geF hC dX0_digestWithCollector_10 (tgt := 36) (by decide) (nI_ge hi (by omega)) ?_
    refine jj_lload hC dX0_digestWithCollector_13 rfl ?_
    refine jj_ldc2 hC dX0_digestWithCollector_15 mlX0_digestWithCollector_189 ?_
    refine jj_lmul hC dX0_digestWithCollector_18 ?_
    refine jj_aload_n hC dX0_digestWithCollector_19 rfl ?_
    refine jj_iload_n hC dX0_digestWithCollector_20 rfl ?_
    refine jj_iload hC dX0_digestWithCollector_21 rfl ?_
    refine jj_calli hC (xp_collector _ _ a c1 c2 c3 v g1 h1 hI c i hc hi) gX0_digestWithCollector_X0_collector rfl 2 (by decide +kernel) ⟨by decide, by decide, by decide, by decide⟩ 0 0 (by rfl) rfl rfl rfl rfl (Nat.le_of_ble_eq_true rfl) dX0_digestWithCollector_23 (fun r u hp => ?_)
    obtain rfl := hp
    obtain ⟨g2, h2⟩ := u
    refine jj_i2l hC dX0_digestWithCollector_26 ?_
    refine jj_ladd hC dX0_digestWithCollector_27 ?_
    refine jj_lstore hC dX0_digestWithCollector_28 (by decide) [1, 2, 3, 0, 4] (lv' := [(0, _), (1, _), (3, _), (4, .long _), (6, _)]) rfl ?_
    refine jj_iincN hC dX0_digestWithCollector_30 rfl (d9 := 1) (by decide) (by decide) [1, 2, 3, 4, 0] (lv' := [(0, _), (1, _), (3, _), (4, _), (6, .int _)]) rfl ?_
    refine jj_goto hC dX0_digestWithCollector_33 (tgt := 6) (by decide) ?_
    exact ih _ _
theorem mlX0_digest_187 : Cond.constantLong RX0 187 (761) ∈ wsX0_digest := by decide +kernel
theorem mlX0_digest_189 : Cond.constantLong RX0 189 (31) ∈ wsX0_digest := by decide +kernel
theorem lkX0_digest_45 : Cond.fieldLink RX0 45 RX0 (TX0 1).2.1 (TX0 1).2.2.1 ∈ wsX0_digest := by decide +kernel
theorem lkX0_digest_75 : Cond.fieldLink RX0 75 RX0 (TX0 2).2.1 (TX0 2).2.2.1 ∈ wsX0_digest := by decide +kernel
theorem hinX0_digest : ∀ w ∈ wsX00, w ∈ wsX0_digest := by decide +kernel
set_option maxRecDepth 100000 in
set_option maxHeartbeats 4000000 in
theorem xm_digest (l : Launch) (D : va_G) (a : Nat → Nat) (c1 c2 c3 : ClassId) (v : ts_V) (g : Nat → Int32) (h : Int32) (hI : ts_I v) : jj_Ml l D (ts_T c1 c2 c3) yX0_digest wsX0_digest pX0_digest [.ref (a 0)] (wx a c1 c2 v g h) ((Nat → Int32) × Int32) (fun x _ => x = ts_dg v) (fun u => wx a c1 c2 v u.1 u.2) := by
  obtain ⟨hn, hk, hth, hwk, hli, hgr⟩ := id hI
  refine jj_metl (cc := cX0_digest) (nL := 4) (by decide) rfl (Nat.le_of_ble_eq_true rfl) (fun E Q hC hEl hED hD0 hret => ?_)
  show jj_J E 0 0 Q (wx a c1 c2 v g h) 0 [(0, .ref (a 0))] []
  refine jj_ldc2 hC dX0_digest_0 mlX0_digest_187 ?_
  refine jj_lstore_n hC dX0_digest_3 (by decide) [1, 0] (lv' := [(0, _), (1, .long _)]) rfl ?_
  refine jj_iconst hC dX0_digest_4 (v := nI 0) (by decide) ?_
  refine jj_istore_n hC dX0_digest_5 (by decide) [1, 2, 0] (lv' := [(0, _), (1, _), (3, .int _)]) rfl ?_
  refine jj_for (P := fun i => ∀ (g1 : Nat → Int32) (h1 : Int32), jj_J E 0 0 Q (wx a c1 c2 v g1 h1) 6 [(0, .ref (a 0)), (1, .long (ts_fo (ts_cn v) 761 i)), (3, .int (nI i))] []) (N := 7) ?_ ?_ 0 (Nat.zero_le _) _ _
  · intro g1 h1
    refine jj_iload_n hC dX0_digest_6 rfl ?_
    refine jj_bipush hC dX0_digest_7 (v := nI 7) (by decide) ?_
    refine jj_icmp_geT hC dX0_digest_9 (tgt := 31) (by decide) (nI_le (Nat.le_refl _) (by omega)) ?_
    refine jj_iconst hC dX0_digest_31 (v := nI 0) (by decide) ?_
    refine jj_istore_n hC dX0_digest_32 (by decide) [1, 2, 0] (lv' := [(0, _), (1, _), (3, .int _)]) rfl ?_
    refine jj_for (P := fun i => ∀ (g1 : Nat → Int32) (h1 : Int32), jj_J E 0 0 Q (wx a c1 c2 v g1 h1) 33 [(0, .ref (a 0)), (1, .long (ts_fL (ts_dc v) (ts_fo (ts_cn v) 761 7) i)), (3, .int (nI i))] []) (N := ts_k v) ?_ ?_ 0 (Nat.zero_le _) _ _
    · intro g1 h1
      refine jj_iload_n hC dX0_digest_33 rfl ?_
      refine jj_aload_n hC dX0_digest_34 rfl ?_
      refine jj_get hC 0 1 dX0_digest_35 (by rfl) rfl (by decide) lkX0_digest_45 rfl hinX0_digest (by rfl) ?_
      refine jj_icmp_geT hC dX0_digest_38 (tgt := 54) (by decide) (nI_le (Nat.le_refl _) (by omega)) ?_
      refine jj_iconst hC dX0_digest_54 (v := nI 0) (by decide) ?_
      refine jj_istore_n hC dX0_digest_55 (by decide) [1, 2, 0] (lv' := [(0, _), (1, _), (3, .int _)]) rfl ?_
      refine jj_for (P := fun i => jj_J E 0 0 Q (wx a c1 c2 v g1 h1) 56 [(0, .ref (a 0)), (1, .long (ts_fL (ts_dt v) (ts_fL (ts_dc v) (ts_fo (ts_cn v) 761 7) (ts_k v)) i)), (3, .int (nI i))] []) (N := ts_n v) ?_ ?_ 0 (Nat.zero_le _)
      · refine jj_iload_n hC dX0_digest_56 rfl ?_
        refine jj_aload_n hC dX0_digest_57 rfl ?_
        refine jj_get hC 0 2 dX0_digest_58 (by rfl) rfl (by decide) lkX0_digest_75 rfl hinX0_digest (by rfl) ?_
        refine jj_icmp_geT hC dX0_digest_61 (tgt := 77) (by decide) (nI_le (Nat.le_refl _) (by omega)) ?_
        refine jj_lload_n hC dX0_digest_77 rfl ?_
        exact hret _ _ _ (g1, h1) dX0_digest_78 rfl
      · intro i hi ih
        refine jj_iload_n hC dX0_digest_56 rfl ?_
        refine jj_aload_n hC dX0_digest_57 rfl ?_
        refine jj_get hC 0 2 dX0_digest_58 (by rfl) rfl (by decide) lkX0_digest_75 rfl hinX0_digest (by rfl) ?_
        refine jj_icmp_geF hC dX0_digest_61 (tgt := 77) (by decide) (nI_ge hi (by omega)) ?_
        refine jj_aload_n hC dX0_digest_64 rfl ?_
        refine jj_lload_n hC dX0_digest_65 rfl ?_
        refine jj_iload_n hC dX0_digest_66 rfl ?_
        refine jj_calll hC (xm_digestWithThimble _ _ a c1 c2 c3 v g1 h1 hI _ i hi) gX0_digest_X0_digestWithThimble rfl 2 (by decide +kernel) ⟨by decide, by decide, by decide, by decide⟩ 0 0 (by rfl) rfl rfl rfl rfl (Nat.le_of_ble_eq_true rfl) dX0_digest_67 (fun r u hp => ?_)
        obtain rfl := hp
        refine jj_lstore_n hC dX0_digest_70 (by decide) [1, 0, 2] (lv' := [(0, _), (1, .long _), (3, _)]) rfl ?_
        refine jj_iincN hC dX0_digest_71 rfl (d9 := 1) (by decide) (by decide) [1, 2, 0] (lv' := [(0, _), (1, _), (3, .int _)]) rfl ?_
        refine jj_goto hC dX0_digest_74 (tgt := 56) (by decide) ?_
        exact ih
    · intro i hi ih g1 h1
      refine jj_iload_n hC dX0_digest_33 rfl ?_
      refine jj_aload_n hC dX0_digest_34 rfl ?_
      refine jj_get hC 0 1 dX0_digest_35 (by rfl) rfl (by decide) lkX0_digest_45 rfl hinX0_digest (by rfl) ?_
      refine jj_icmp_geF hC dX0_digest_38 (tgt := 54) (by decide) (nI_ge hi (by omega)) ?_
      refine jj_aload_n hC dX0_digest_41 rfl ?_
      refine jj_lload_n hC dX0_digest_42 rfl ?_
      refine jj_iload_n hC dX0_digest_43 rfl ?_
      refine jj_calll hC (xm_digestWithCollector _ _ a c1 c2 c3 v g1 h1 hI _ i hi) gX0_digest_X0_digestWithCollector rfl 2 (by decide +kernel) ⟨by decide, by decide, by decide, by decide⟩ 0 0 (by rfl) rfl rfl rfl rfl (Nat.le_of_ble_eq_true rfl) dX0_digest_44 (fun r u hp => ?_)
      obtain rfl := hp
      obtain ⟨g2, h2⟩ := u
      refine jj_lstore_n hC dX0_digest_47 (by decide) [1, 0, 2] (lv' := [(0, _), (1, .long _), (3, _)]) rfl ?_
      refine jj_iincN hC dX0_digest_48 rfl (d9 := 1) (by decide) (by decide) [1, 2, 0] (lv' := [(0, _), (1, _), (3, .int _)]) rfl ?_
      refine jj_goto hC dX0_digest_51 (tgt := 33) (by decide) ?_
      exact ih _ _
  · intro i hi ih g1 h1
    refine jj_iload_n hC dX0_digest_6 rfl ?_
    refine jj_bipush hC dX0_digest_7 (v := nI 7) (by decide) ?_
    refine jj_icmp_geF hC dX0_digest_9 (tgt := 31) (by decide) (nI_ge hi (by omega)) ?_
    refine jj_lload_n hC dX0_digest_12 rfl ?_
    refine jj_ldc2 hC dX0_digest_13 mlX0_digest_189 ?_
    refine jj_lmul hC dX0_digest_16 ?_
    refine jj_aload_n hC dX0_digest_17 rfl ?_
    refine jj_iload_n hC dX0_digest_18 rfl ?_
    refine jj_calli hC (xp_count _ _ a c1 c2 c3 v g1 h1 hI i hi) gX0_digest_X0_count rfl 1 (by decide +kernel) ⟨by decide, by decide, by decide, by decide⟩ 0 0 (by rfl) rfl rfl rfl rfl (Nat.le_of_ble_eq_true rfl) dX0_digest_19 (fun r u hp => ?_)
    obtain rfl := hp
    obtain ⟨g2, h2⟩ := u
    refine jj_i2l hC dX0_digest_22 ?_
    refine jj_ladd hC dX0_digest_23 ?_
    refine jj_lstore_n hC dX0_digest_24 (by decide) [1, 0, 2] (lv' := [(0, _), (1, .long _), (3, _)]) rfl ?_
    refine jj_iincN hC dX0_digest_25 rfl (d9 := 1) (by decide) (by decide) [1, 2, 0] (lv' := [(0, _), (1, _), (3, .int _)]) rfl ?_
    refine jj_goto hC dX0_digest_28 (tgt := 6) (by decide) ?_
    exact ih _ _
