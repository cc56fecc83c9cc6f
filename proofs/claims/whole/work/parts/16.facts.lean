/-! ===== plain facts ===== -/
theorem ts_cnt_congr {p q : Nat → Bool} : ∀ {n : Nat}, (∀ k, k < n → p k = q k) → ts_cnt p n = ts_cnt q n
  | 0, _ => rfl
  | n + 1, h => by rw [ts_cnt, ts_cnt, ts_cnt_congr (fun k hk => h k (by omega)), h n (by omega)]
theorem ts_sum_congr {f g : Nat → Nat} : ∀ {n : Nat}, (∀ k, k < n → f k = g k) → ts_sum f n = ts_sum g n
  | 0, _ => rfl
  | n + 1, h => by rw [ts_sum, ts_sum, ts_sum_congr (fun k hk => h k (by omega)), h n (by omega)]
theorem ts_or_congr {p q : Nat → Bool} {b : Nat → Nat} : ∀ {n : Nat}, (∀ k, k < n → p k = q k) → ts_or p b n = ts_or q b n
  | 0, _ => rfl
  | n + 1, h => by rw [ts_or, ts_or, ts_or_congr (fun k hk => h k (by omega)), h n (by omega)]
theorem ts_gs_congr {p q : Nat → Bool} {se nu st : Nat → Nat} {s k : Nat} : ∀ {n : Nat}, (∀ t, t < n → p t = q t) → ts_gs p se nu st s k n = ts_gs q se nu st s k n
  | 0, _ => rfl
  | n + 1, h => by rw [ts_gs, ts_gs, ts_gs_congr (fun k hk => h k (by omega)), h n (by omega)]
theorem ts_cnt_le (p : Nat → Bool) : ∀ n, ts_cnt p n ≤ n
  | 0 => Nat.le_refl 0
  | n + 1 => by
    have := ts_cnt_le p n
    rw [ts_cnt]
    split <;> omega
theorem ts_sum_le {f : Nat → Nat} {c : Nat} : ∀ {n : Nat}, (∀ k, k < n → f k ≤ c) → ts_sum f n ≤ n * c
  | 0, _ => Nat.zero_le _
  | n + 1, h => by
    have h1 := ts_sum_le (n := n) (fun k hk => h k (by omega))
    have h2 := h n (by omega)
    rw [ts_sum, Nat.succ_mul]
    omega
theorem ts_gs_le {p : Nat → Bool} {se nu st : Nat → Nat} {s k : Nat} : ∀ {n : Nat}, (∀ t, t < n → st t ≤ 9) → ts_gs p se nu st s k n ≤ 10
  | 0, _ => Nat.zero_le _
  | n + 1, h => by
    have h1 := ts_gs_le (p := p) (se := se) (nu := nu) (s := s) (k := k) (n := n) (fun t ht => h t (by omega))
    have h2 := h n (by omega)
    rw [ts_gs]
    split <;> omega
theorem ts_wo_congr {v : ts_V} {p q : Nat → Bool} {li : Nat → Nat} (h : ∀ t, t < ts_n v → p t = q t) : ts_wo v p li = ts_wo v q li := by
  have e : ∀ s k, ts_g v p s k = ts_g v q s k := fun s k => ts_gs_congr h
  have e1 : ∀ s, ts_nums v p s = ts_nums v q s := fun s => ts_cnt_congr (fun k _ => by rw [e])
  have e2 : ∀ s, ts_stts v p s = ts_stts v q s := fun s => ts_sum_congr (fun k _ => by rw [e])
  unfold ts_wo ts_hm
  rw [ts_or_congr h]
  congr 1
  exact ts_sum_congr (fun s _ => by rw [e1, e2])
/-- the scratch of the class: -1 for none -/
def ts_m1 (x : Nat) : Int32 := nI x - 1
theorem ts_m1_0 : ts_m1 0 = -1 := by decide
theorem ts_m1_s (x : Nat) : ts_m1 (x + 1) = nI x := nI_pred x
theorem ts_m1_eq {x : Nat} (h : x < 2 ^ 31) : ts_m1 x = -1 ↔ x = 0 := by
  cases x with
  | zero => exact ⟨fun _ => rfl, fun _ => ts_m1_0⟩
  | succ x =>
    refine ⟨fun e => ?_, fun e => absurd e (Nat.succ_ne_zero x)⟩
    rw [ts_m1_s] at e
    have e2 := congrArg Int32.toInt e
    rw [nI_toInt (by omega)] at e2
    have e3 : (-1 : Int32).toInt = -1 := by decide
    omega
theorem ts_m1_max {x y : Nat} (hx : x < 2 ^ 30) (hy : y < 2 ^ 30) : (if ts_m1 x < nI y then nI y else ts_m1 x) = ts_m1 (max x (1 + y)) := by
  cases x with
  | zero =>
    have h : ts_m1 0 < nI y := by
      rw [ts_m1_0, Int32.lt_iff_toInt_lt, nI_toInt (by omega)]
      have e3 : (-1 : Int32).toInt = -1 := by decide
      omega
    rw [if_pos h, show max 0 (1 + y) = y + 1 by omega, ts_m1_s]
  | succ x =>
    rw [ts_m1_s, jj_mmax_eq (by omega) (by omega), show max (x + 1) (1 + y) = max x y + 1 by omega, ts_m1_s]
theorem ts_m1_max0 {x : Nat} (hx : x < 2 ^ 30) : (if ts_m1 x < nI 0 then nI 0 else ts_m1 x) = nI (x - 1) := by
  cases x with
  | zero => decide
  | succ x => rw [ts_m1_s, jj_mmax_eq (by omega) (by omega), show max x 0 = x + 1 - 1 by omega]
/-- what is laid out: from the scratch's words to the worth -/
def ts_numG (G : Nat → Nat) (s : Nat) : Nat := ts_cnt (fun k => decide (0 < G (s * 6 + k))) 6
def ts_sttG (G : Nat → Nat) (s : Nat) : Nat := ts_sum (fun k => G (s * 6 + k) - 1) 6
def ts_woG (G : Nat → Nat) (m : Nat) (li : Nat → Nat) : Nat := 3 * m + ts_sum (fun s => li s * 2 * ts_numG G s * ts_numG G s + ts_sttG G s) 8
abbrev ts_lay (v : ts_V) (p : Nat → Bool) : Nat → Nat := fun j => ts_g v p (j / 6) (j % 6)
theorem ts_numG_lay (v : ts_V) (p : Nat → Bool) (s : Nat) : ts_numG (ts_lay v p) s = ts_nums v p s := ts_cnt_congr (fun k hk => by rw [ts_lay, show (s * 6 + k) / 6 = s by omega, show (s * 6 + k) % 6 = k by omega])
theorem ts_sttG_lay (v : ts_V) (p : Nat → Bool) (s : Nat) : ts_sttG (ts_lay v p) s = ts_stts v p s := ts_sum_congr (fun k hk => by rw [ts_lay, show (s * 6 + k) / 6 = s by omega, show (s * 6 + k) % 6 = k by omega])
theorem ts_woG_lay (v : ts_V) (p : Nat → Bool) (li : Nat → Nat) : ts_woG (ts_lay v p) (ts_hm v p) li = ts_wo v p li := by
  unfold ts_woG ts_wo
  have e := ts_sum_congr (f := fun s => li s * 2 * ts_numG (ts_lay v p) s * ts_numG (ts_lay v p) s + ts_sttG (ts_lay v p) s) (g := fun s => li s * 2 * ts_nums v p s * ts_nums v p s + ts_stts v p s) (n := 8) (fun s _ => by rw [ts_numG_lay, ts_sttG_lay])
  rw [e]
theorem ts_lay_le {v : ts_V} (hI : ts_I v) (p : Nat → Bool) (j : Nat) : ts_lay v p j ≤ 10 := ts_gs_le (fun t ht => (hI.2.2.1 t ht).2.2.2.1)
theorem ts_numG_le (G : Nat → Nat) (s : Nat) : ts_numG G s ≤ 6 := ts_cnt_le _ 6
theorem ts_sttG_le {G : Nat → Nat} (h : ∀ j, G j ≤ 10) (s : Nat) : ts_sttG G s ≤ 54 := ts_sum_le (c := 9) (fun k _ => by have := h (s * 6 + k); omega)
theorem ts_worth1 {l n s : Nat} (hl : l ≤ 5) (hn : n ≤ 6) (hs : s ≤ 54) : l * 2 * n * n + s ≤ 414 := by
  have h1 : l * 2 * n ≤ 5 * 2 * 6 := Nat.mul_le_mul (Nat.mul_le_mul_right 2 hl) hn
  have h2 : l * 2 * n * n ≤ 5 * 2 * 6 * 6 := Nat.mul_le_mul h1 hn
  omega
theorem ts_hm_le (v : ts_V) (p : Nat → Bool) : ts_hm v p < 64 := (ts_bc_eq _).2
theorem ts_wo_le {v : ts_V} (hI : ts_I v) (p : Nat → Bool) (c : Nat) : ts_wo v p (ts_li v c) ≤ 3600 := by
  have h1 := ts_hm_le v p
  have h2 : ts_sum (fun s => ts_li v c s * 2 * ts_nums v p s * ts_nums v p s + ts_stts v p s) 8 ≤ 8 * 414 := ts_sum_le (fun s _ => ts_worth1 (hI.2.2.2.2.1 c s) (ts_cnt_le _ 6) (ts_sum_le (c := 9) (fun k _ => by have : ts_g v p s k ≤ 10 := ts_gs_le (fun t ht => (hI.2.2.1 t ht).2.2.2.1); omega)))
  unfold ts_wo
  omega
theorem ts_now_le {v : ts_V} (hI : ts_I v) (c : Nat) : ts_now v c ≤ 3600 := ts_wo_le hI _ c
theorem ts_aft_le {v : ts_V} (hI : ts_I v) (c x y : Nat) : ts_aft v c x y ≤ 3600 := ts_wo_le hI _ c
theorem ts_all_le {v : ts_V} (hI : ts_I v) (k : Nat) (hk : k ≤ 7) : ts_sum (fun c => ts_now v c) k ≤ 25200 := by
  have := ts_sum_le (f := fun c => ts_now v c) (c := 3600) (n := k) (fun c _ => ts_now_le hI c)
  omega
/-- the step of laying out -/
theorem ts_lay_step {p : Nat → Bool} {se nu st : Nat → Nat} {t : Nat} {g : Nat → Int32} (hs : se t < 8) (hu : nu t < 6) (hst : ∀ i, i ≤ t → st i ≤ 9) (hp : p t = true) (hg : ∀ j, j < 48 → g j = ts_m1 (ts_gs p se nu st (j / 6) (j % 6) t)) :
    ∀ j, j < 48 → upd g (se t * 6 + nu t) (if g (se t * 6 + nu t) < nI (st t) then nI (st t) else g (se t * 6 + nu t)) j = ts_m1 (ts_gs p se nu st (j / 6) (j % 6) (t + 1)) := by
  intro j hj
  have hle : ∀ s k, ts_gs p se nu st s k t ≤ 10 := fun s k => ts_gs_le (fun i hi => hst i (by omega))
  unfold upd
  by_cases h : j = se t * 6 + nu t
  · subst h
    rw [if_pos rfl, hg _ hj]
    have e1 : (se t * 6 + nu t) / 6 = se t := by omega
    have e2 : (se t * 6 + nu t) % 6 = nu t := by omega
    rw [e1, e2, ts_m1_max (by have := hle (se t) (nu t); omega) (by have := hst t (Nat.le_refl t); omega)]
    congr 1
    simp [ts_gs, hp]
  · rw [if_neg h, hg j hj]
    have h2 : (se t == j / 6 && nu t == j % 6) = false := by
      rw [Bool.and_eq_false_iff]
      by_cases e : se t = j / 6
      · right
        simp
        omega
      · left
        simp [e]
    congr 1
    simp only [ts_gs, hp, h2, Bool.and_false, Bool.false_eq_true, if_false]
theorem ts_lay_skip {p : Nat → Bool} {se nu st : Nat → Nat} {t : Nat} {g : Nat → Int32} (hp : p t = false) (hg : ∀ j, j < 48 → g j = ts_m1 (ts_gs p se nu st (j / 6) (j % 6) t)) : ∀ j, j < 48 → g j = ts_m1 (ts_gs p se nu st (j / 6) (j % 6) (t + 1)) := by
  intro j hj
  rw [hg j hj]
  simp only [ts_gs, hp, Bool.false_and, Bool.false_eq_true, if_false]
