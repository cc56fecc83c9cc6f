/-! ===== the best swap is one that both agree to; what calls leave keeps ts_I ===== -/
def ts_bgood (v : ts_V) (c o x y : Nat) : Prop := x < ts_n v ∧ y < ts_n v ∧ ts_home v x c = true ∧ ts_home v y o = true ∧ ts_en v (ts_gain v x y) c o = true ∧ ts_en v (ts_gain v y x) o c = true
def ts_bok (v : ts_V) (c o : Nat) (s : Int32 × Int32) : Prop := s = (-1, 0) ∨ ∃ x y : Nat, ts_bgood v c o x y ∧ s = (nI (36 * x + y), ts_gain v x y + ts_gain v y x)
theorem ts_bin_ok {v : ts_V} {c o x : Nat} {s : Int32 × Int32} (hx : x < ts_n v) (hh : ts_home v x c = true) (hs : ts_bok v c o s) : ∀ y, y ≤ ts_n v → ts_bok v c o (ts_bin v c o x s y)
  | 0, _ => hs
  | y + 1, hy => by
    have ih := ts_bin_ok hx hh hs y (by omega)
    rw [ts_bin, ts_bstep]
    split
    · rename_i h
      exact Or.inr ⟨x, y, ⟨hx, by omega, hh, h.1, h.2.1, h.2.2.1⟩, rfl⟩
    · exact ih
theorem ts_bout_ok {v : ts_V} {c o : Nat} : ∀ x, x ≤ ts_n v → ts_bok v c o (ts_bout v c o x)
  | 0, _ => Or.inl rfl
  | x + 1, hx => by
    have ih := ts_bout_ok (v := v) (c := c) (o := o) x (by omega)
    rw [ts_bout]
    split
    · rename_i h
      exact ts_bin_ok (by omega) h ih _ (Nat.le_refl _)
    · exact ih
theorem ts_best_ok (v : ts_V) (c o : Nat) : ts_best v c o = -1 ∨ ∃ x y : Nat, ts_bgood v c o x y ∧ ts_best v c o = nI (36 * x + y) := by
  rcases ts_bout_ok (v := v) (c := c) (o := o) (ts_n v) (Nat.le_refl _) with h | ⟨x, y, hg, h⟩
  · left
    unfold ts_best
    rw [h]
  · right
    refine ⟨x, y, hg, ?_⟩
    unfold ts_best
    rw [h]
theorem ts_fin_ok (v : ts_V) (c : Nat) : ∀ d o, c < o → o + d = ts_k v → ts_fin v c d o = -1 ∨ ∃ o' x y : Nat, c < o' ∧ o' < ts_k v ∧ ts_bgood v c o' x y ∧ ts_fin v c d o = nI (36 * x + y) ∧ ts_best v c o' = ts_fin v c d o
  | 0, _, _, _ => Or.inl rfl
  | d + 1, o, h, hd => by
    rw [ts_fin]
    split
    · rename_i hb
      rcases ts_best_ok v c o with h2 | ⟨x, y, hg, h2⟩
      · exact absurd h2 hb
      · exact Or.inr ⟨o, x, y, h, by omega, hg, h2, rfl⟩
    · exact ts_fin_ok v c d (o + 1) (by omega) (by omega)
theorem ts_fout_ok (v : ts_V) : ∀ d c, c + d = ts_k v → ts_fout v d c = -1 ∨ ∃ c' o' x y : Nat, c' < o' ∧ o' < ts_k v ∧ ts_bgood v c' o' x y ∧ ts_fout v d c = nI (36 * x + y)
  | 0, _, _ => Or.inl rfl
  | d + 1, c, hd => by
    rw [ts_fout]
    split
    · rename_i hb
      rcases ts_fin_ok v c (ts_k v - (c + 1)) (c + 1) (by omega) (by omega) with h2 | ⟨o, x, y, h3, h4, hg, h2, -⟩
      · exact absurd h2 hb
      · exact Or.inr ⟨c, o, x, y, h3, h4, hg, h2⟩
    · exact ts_fout_ok v d (c + 1) (by omega)
theorem ts_first_ok (v : ts_V) : ts_first v = -1 ∨ ∃ c o x y : Nat, c < o ∧ o < ts_k v ∧ ts_bgood v c o x y ∧ ts_first v = nI (36 * x + y) := ts_fout_ok v (ts_k v) 0 (by omega)
theorem ts_I_soft {v : ts_V} (hI : ts_I v) (c o : Nat) : ts_I (ts_gr' v (ts_soft (ts_gr v) c o)) := by
  obtain ⟨hn, hk, hth, hwk, hli, hgr⟩ := hI
  refine ⟨hn, hk, hth, hwk, hli, fun i j => ?_⟩
  show ts_soft (ts_gr v) c o i j ≤ 9 ∧ ((ts_k v ≤ i ∨ ts_k v ≤ j) → ts_soft (ts_gr v) c o i j = 0)
  unfold ts_soft ts_up2
  have h := hgr i j
  split
  · rename_i e
    obtain ⟨e1, e2⟩ := e
    subst e1
    subst e2
    exact ⟨by omega, fun q => by have := h.2 q; omega⟩
  · exact h
theorem ts_I_rese {v : ts_V} (hI : ts_I v) (c o : Nat) (hc : c < ts_k v) (ho : o < ts_k v) : ts_I (ts_gr' v (ts_rese (ts_gr v) c o)) := by
  obtain ⟨hn, hk, hth, hwk, hli, hgr⟩ := hI
  refine ⟨hn, hk, hth, hwk, hli, fun i j => ?_⟩
  show ts_rese (ts_gr v) c o i j ≤ 9 ∧ ((ts_k v ≤ i ∨ ts_k v ≤ j) → ts_rese (ts_gr v) c o i j = 0)
  unfold ts_rese ts_up2
  have h := hgr i j
  split
  · rename_i e
    obtain ⟨e1, e2⟩ := e
    subst e1
    subst e2
    exact ⟨by omega, fun q => by omega⟩
  · exact h
theorem ts_I_exch {v : ts_V} (hI : ts_I v) (x y : Nat) (hx : x < ts_n v) (hy : y < ts_n v) : ts_I (ts_exch v x y) := by
  obtain ⟨hn, hk, hth, hwk, hli, hgr⟩ := hI
  refine ⟨hn, hk, fun t ht => ?_, hwk, hli, hgr⟩
  have hb := hth t ht
  refine ⟨hb.1, hb.2.1, hb.2.2.1, hb.2.2.2.1, ?_⟩
  show va_up (va_up (ts_ow v) x (ts_ow v y)) y (ts_ow v x) t < ts_k v
  unfold va_up
  have h1 := (hth x hx).2.2.2.2
  have h2 := (hth y hy).2.2.2.2
  split
  · exact h1
  · split
    · exact h2
    · exact hb.2.2.2.2
theorem ts_I_swp {v : ts_V} (hI : ts_I v) (x y : Nat) (hx : x < ts_n v) (hy : y < ts_n v) : ts_I (ts_swp v x y) := by
  have h1 := ts_I_exch hI x y hx hy
  have h2 := ts_I_soft h1 (ts_ow v x) (ts_ow v y)
  have h3 := ts_I_soft h2 (ts_ow v y) (ts_ow v x)
  exact h3
theorem ts_I_rf {v : ts_V} (hI : ts_I v) (x : Int32) : ts_I (ts_rf' v x) := hI
theorem ts_I_rs {v : ts_V} (hI : ts_I v) (x y : Nat) (hx : x < ts_n v) (hy : y < ts_n v) : ts_I (ts_rs v x y).2 := by
  have h1 := (hI.2.2.1 x hx).2.2.2.2
  have h2 := (hI.2.2.1 y hy).2.2.2.2
  unfold ts_rs
  split
  · exact ts_I_swp hI x y hx hy
  · split
    · exact ts_I_rese (ts_I_rf hI _) _ _ h1 h2
    · split
      · exact ts_I_rese (ts_I_rf hI _) _ _ h2 h1
      · exact ts_I_rf hI _
theorem ts_I_jn {v : ts_V} (hI : ts_I v) (h : ts_k v < 7) : ts_I (ts_jn v) := by
  obtain ⟨hn, hk, hth, hwk, hli, hgr⟩ := hI
  refine ⟨hn, h, fun t ht => ?_, hwk, fun c s => ?_, fun c o => ⟨(hgr c o).1, fun q => (hgr c o).2 ?_⟩⟩
  · have hb := hth t ht
    exact ⟨hb.1, hb.2.1, hb.2.2.1, hb.2.2.2.1, Nat.lt_succ_of_lt hb.2.2.2.2⟩
  · have h0 := hli c s
    have h1 := hli (ts_k v) s
    show (if c = ts_k v then (if s < 8 then 1 else ts_li v c s) else ts_li v c s) ≤ 5
    split
    · split <;> omega
    · omega
  · have q2 : ts_k v + 1 ≤ c ∨ ts_k v + 1 ≤ o := q
    omega
theorem ts_I_fd {v : ts_V} (hI : ts_I v) {c s u m t : Nat} (h : ts_n v < 36) (hc : c < ts_k v) (hs : s < 8) (hu : u < 6) (hm : m < 20) (ht : t ≤ 9) : ts_I (ts_fd v c s u m t) := by
  obtain ⟨hn, hk, hth, hwk, hli, hgr⟩ := hI
  refine ⟨h, hk, fun i hi => ?_, fun i hi => ?_, hli, hgr⟩
  · have hi2 : i < ts_n v + 1 := hi
    show va_up (ts_se v) (ts_n v) s i < 8 ∧ va_up (ts_nu v) (ts_n v) u i < 6 ∧ va_up (ts_ha v) (ts_n v) m i < 20 ∧ va_up (ts_st v) (ts_n v) t i ≤ 9 ∧ va_up (ts_ow v) (ts_n v) c i < ts_k v
    unfold va_up
    by_cases e : i = ts_n v
    · simp only [e, if_true]
      exact ⟨hs, hu, hm, ht, hc⟩
    · simp only [e, if_false]
      exact hth i (by omega)
  · have hi2 : ts_n v + 1 ≤ i := hi
    exact hwk i (by omega)
theorem ts_I_li {v : ts_V} (hI : ts_I v) {c s x : Nat} (hx : x ≤ 5) : ts_I (ts_li' v (ts_up2 (ts_li v) c s x)) := by
  obtain ⟨hn, hk, hth, hwk, hli, hgr⟩ := hI
  refine ⟨hn, hk, hth, hwk, fun i j => ?_, hgr⟩
  show ts_up2 (ts_li v) c s x i j ≤ 5
  unfold ts_up2
  have := hli i j
  split <;> omega
theorem ts_I_le {v : ts_V} (hI : ts_I v) {t : Nat} (ht : t < ts_n v) (x y : Int32) : ts_I (ts_wk' (ts_ti' v (va_up (ts_ti v) t x)) (va_up (ts_wk v) t y)) := by
  obtain ⟨hn, hk, hth, hwk, hli, hgr⟩ := hI
  refine ⟨hn, hk, hth, fun i hi => ?_, hli, hgr⟩
  show va_up (ts_wk v) t y i = 0
  have hi2 : ts_n v ≤ i := hi
  unfold va_up
  rw [if_neg (by omega)]
  exact hwk i hi
theorem ts_I_pa {v : ts_V} (hI : ts_I v) : ∀ i, ts_I (ts_pa v i).1
  | 0 => hI
  | i + 1 => ts_I_end (ts_I_pa hI i)
/-- fair: so many at most, so many made -/
def ts_fr (v : ts_V) : Nat → Nat → ts_V × Nat
  | 0, m => (v, m)
  | d + 1, m => if ts_first v = -1 then (v, m) else ts_fr (ts_swp v ((ts_first v).toNatClampNeg / 36) ((ts_first v).toNatClampNeg % 36)) d (m + 1)
theorem ts_bgood_lt {v : ts_V} (hI : ts_I v) {c o x y : Nat} (hg : ts_bgood v c o x y) : 36 * x + y < 36 * 36 ∧ (36 * x + y) / 36 = x ∧ (36 * x + y) % 36 = y := by
  have h1 := hg.1
  have h2 := hg.2.1
  have h3 := hI.1
  omega
theorem ts_first_xy {v : ts_V} (hI : ts_I v) (h : ¬ ts_first v = -1) : ∃ c o x y : Nat, c < o ∧ o < ts_k v ∧ ts_bgood v c o x y ∧ ts_first v = nI (36 * x + y) ∧ (ts_first v).toNatClampNeg / 36 = x ∧ (ts_first v).toNatClampNeg % 36 = y := by
  rcases ts_first_ok v with h2 | ⟨c, o, x, y, h3, h4, hg, h2⟩
  · exact absurd h2 h
  · have hl := ts_bgood_lt hI hg
    refine ⟨c, o, x, y, h3, h4, hg, h2, ?_⟩
    rw [h2, nI_clamp (by omega)]
    exact hl.2
theorem ts_I_fr : ∀ (d m : Nat) (v : ts_V), ts_I v → ts_I (ts_fr v d m).1
  | 0, _, _, hI => hI
  | d + 1, m, v, hI => by
    rw [ts_fr]
    split
    · exact hI
    · rename_i h
      obtain ⟨c, o, x, y, -, -, hg, -, e1, e2⟩ := ts_first_xy hI h
      rw [e1, e2]
      exact ts_I_fr d (m + 1) _ (ts_I_swp hI x y hg.1 hg.2.1)
theorem ts_rg_of {x : Int32} {lo hi : Nat} (h : ts_rg x lo hi = true) (hh : hi + 1 < 2 ^ 31) : ∃ j : Nat, lo ≤ j ∧ j ≤ hi ∧ x = nI j := by
  have h1 : (lo : Int) ≤ x.toInt ∧ x.toInt ≤ (hi : Int) := by simpa [ts_rg] using h
  obtain ⟨j, hj, e⟩ := vp_in_of (x := x) (n := hi + 1) (vp_in_iff.mpr ⟨by omega, by omega⟩) (by omega)
  subst e
  rw [nI_toInt (by omega)] at h1
  exact ⟨j, by omega, by omega, rfl⟩
theorem ts_rg_lo {x : Int32} {lo hi : Nat} (hl : lo < 2 ^ 31) (h : x < nI lo) : ts_rg x lo hi = false := by
  unfold ts_rg
  rw [Int32.lt_iff_toInt_lt, nI_toInt hl] at h
  simp
  omega
theorem ts_rg_hi {x : Int32} {lo hi : Nat} (hl : hi < 2 ^ 31) (h : nI hi < x) : ts_rg x lo hi = false := by
  unfold ts_rg
  rw [Int32.lt_iff_toInt_lt, nI_toInt hl] at h
  simp
  omega
theorem ts_rg_yes {x : Int32} {lo hi : Nat} (hl : lo < 2 ^ 31) (hh : hi < 2 ^ 31) (h1 : ¬ x < nI lo) (h2 : ¬ nI hi < x) : ts_rg x lo hi = true := by
  unfold ts_rg
  rw [Int32.lt_iff_toInt_lt, nI_toInt hl] at h1
  rw [Int32.lt_iff_toInt_lt, nI_toInt hh] at h2
  simp
  omega
