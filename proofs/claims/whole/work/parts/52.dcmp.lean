theorem ts_ord {w : FP.Core.Datum} (h : w ≠ FP.Core.Datum.nan) : FP.Core.order w w = some Ordering.eq := by
  cases w with
  | nan => exact absurd rfl h
  | inf s =>
    show some (compare (FP.Core.signed s 1) (FP.Core.signed s 1)) = some Ordering.eq
    congr 1
    exact Std.ReflCmp.compare_self
  | fin s c q =>
    show some (compare (FP.Core.signed s (FP.Core.inUnits c q (min q q))) (FP.Core.signed s (FP.Core.inUnits c q (min q q)))) = some Ordering.eq
    congr 1
    exact Std.ReflCmp.compare_self
theorem ts_dcmp {x : UInt64} (h : vf_n64 x) (op : CmpOp) : Op.cmpValue (FP.dcmp x x) op = 0 := by
  have h2 : x.toNat % 2 ^ 63 ≤ 2047 * 2 ^ 52 := by
    have h1 : x &&& 0x7fffffffffffffff ≤ 0x7ff0000000000000 := h
    rw [UInt64.le_iff_toNat_le, UInt64.toNat_and, show (0x7fffffffffffffff : UInt64).toNat = 2 ^ 63 - 1 from rfl, Nat.and_two_pow_sub_one_eq_mod, show (0x7ff0000000000000 : UInt64).toNat = 2047 * 2 ^ 52 from rfl] at h1
    exact h1
  have h3 : FP.Core.decode FP.Core.b64 x.toNat ≠ FP.Core.Datum.nan := by
    unfold FP.Core.decode
    split
    · rename_i he
      split
      · exact fun q => by cases q
      · rename_i ht
        exfalso
        apply ht
        have he2 : x.toNat / 2 ^ 52 % 2048 = 2047 := he
        show x.toNat % 2 ^ 52 = 0
        omega
    · split
      · exact fun q => by cases q
      · exact fun q => by cases q
  have h4 : FP.dcmp x x = some Ordering.eq := ts_ord h3
  rw [h4]
  rfl
theorem ts_me_nn {v : ts_V} (hI : ts_I v) : vf_n64 (ts_me v) := by
  unfold ts_me
  split
  · unfold vf_n64
    decide
  · rename_i h0
    exact ts_nn _ _ (by
      have hn := hI.1
      rw [nI_toInt (by omega)]
      omega)
