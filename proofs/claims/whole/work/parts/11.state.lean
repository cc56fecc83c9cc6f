/-! ===== the one mathematical state of a museum, and the cells that hold it in the class (wx) and in the reference (wm) ===== -/
/-- (thimbles, collectors, week, agreed, refused), the thimbles' columns (set, number, hallmark, state, owner, till, weeks), (likings, grudges, swaps) -/
abbrev ts_V : Type := (Nat × Nat × Int32 × Int32 × Int32) × ((Nat → Nat) × (Nat → Nat) × (Nat → Nat) × (Nat → Nat) × (Nat → Nat) × (Nat → Int32) × (Nat → Int32)) × ((Nat → Nat → Nat) × (Nat → Nat → Nat) × (Nat → Int32))
abbrev ts_n (v : ts_V) : Nat := v.1.1
abbrev ts_k (v : ts_V) : Nat := v.1.2.1
abbrev ts_w (v : ts_V) : Int32 := v.1.2.2.1
abbrev ts_ag (v : ts_V) : Int32 := v.1.2.2.2.1
abbrev ts_rf (v : ts_V) : Int32 := v.1.2.2.2.2
abbrev ts_se (v : ts_V) : Nat → Nat := v.2.1.1
abbrev ts_nu (v : ts_V) : Nat → Nat := v.2.1.2.1
abbrev ts_ha (v : ts_V) : Nat → Nat := v.2.1.2.2.1
abbrev ts_st (v : ts_V) : Nat → Nat := v.2.1.2.2.2.1
abbrev ts_ow (v : ts_V) : Nat → Nat := v.2.1.2.2.2.2.1
abbrev ts_ti (v : ts_V) : Nat → Int32 := v.2.1.2.2.2.2.2.1
abbrev ts_wk (v : ts_V) : Nat → Int32 := v.2.1.2.2.2.2.2.2
abbrev ts_li (v : ts_V) : Nat → Nat → Nat := v.2.2.1
abbrev ts_gr (v : ts_V) : Nat → Nat → Nat := v.2.2.2.1
abbrev ts_sw (v : ts_V) : Nat → Int32 := v.2.2.2.2
abbrev ts_n' (v : ts_V) (x : Nat) : ts_V := ((x, v.1.2), v.2)
abbrev ts_k' (v : ts_V) (x : Nat) : ts_V := ((v.1.1, x, v.1.2.2), v.2)
abbrev ts_w' (v : ts_V) (x : Int32) : ts_V := ((v.1.1, v.1.2.1, x, v.1.2.2.2), v.2)
abbrev ts_ag' (v : ts_V) (x : Int32) : ts_V := ((v.1.1, v.1.2.1, v.1.2.2.1, x, v.1.2.2.2.2), v.2)
abbrev ts_rf' (v : ts_V) (x : Int32) : ts_V := ((v.1.1, v.1.2.1, v.1.2.2.1, v.1.2.2.2.1, x), v.2)
abbrev ts_se' (v : ts_V) (f : Nat → Nat) : ts_V := (v.1, (f, v.2.1.2), v.2.2)
abbrev ts_nu' (v : ts_V) (f : Nat → Nat) : ts_V := (v.1, (v.2.1.1, f, v.2.1.2.2), v.2.2)
abbrev ts_ha' (v : ts_V) (f : Nat → Nat) : ts_V := (v.1, (v.2.1.1, v.2.1.2.1, f, v.2.1.2.2.2), v.2.2)
abbrev ts_st' (v : ts_V) (f : Nat → Nat) : ts_V := (v.1, (v.2.1.1, v.2.1.2.1, v.2.1.2.2.1, f, v.2.1.2.2.2.2), v.2.2)
abbrev ts_ow' (v : ts_V) (f : Nat → Nat) : ts_V := (v.1, (v.2.1.1, v.2.1.2.1, v.2.1.2.2.1, v.2.1.2.2.2.1, f, v.2.1.2.2.2.2.2), v.2.2)
abbrev ts_ti' (v : ts_V) (f : Nat → Int32) : ts_V := (v.1, (v.2.1.1, v.2.1.2.1, v.2.1.2.2.1, v.2.1.2.2.2.1, v.2.1.2.2.2.2.1, f, v.2.1.2.2.2.2.2.2), v.2.2)
abbrev ts_wk' (v : ts_V) (f : Nat → Int32) : ts_V := (v.1, (v.2.1.1, v.2.1.2.1, v.2.1.2.2.1, v.2.1.2.2.2.1, v.2.1.2.2.2.2.1, v.2.1.2.2.2.2.2.1, f), v.2.2)
abbrev ts_li' (v : ts_V) (f : Nat → Nat → Nat) : ts_V := (v.1, v.2.1, (f, v.2.2.2))
abbrev ts_gr' (v : ts_V) (f : Nat → Nat → Nat) : ts_V := (v.1, v.2.1, (v.2.2.1, f, v.2.2.2.2))
abbrev ts_sw' (v : ts_V) (f : Nat → Int32) : ts_V := (v.1, v.2.1, (v.2.2.1, v.2.2.2.1, f))
/-- a place of a table of two indices -/
abbrev ts_up2 (f : Nat → Nat → Nat) (i j x : Nat) : Nat → Nat → Nat := fun a b => if a = i ∧ b = j then x else f a b
theorem ts_upI (f : Nat → Nat) (k x : Nat) : upd (fun t => nI (f t)) k (nI x) = fun t => nI (va_up f k x t) := by
  funext t
  unfold upd va_up
  by_cases h : t = k
  · simp [h]
  · simp [h]
theorem ts_upJ (f : Nat → Int32) (k : Nat) (x : Int32) : upd f k x = va_up f k x := rfl
/-! the class's cells: 0 the object, 1..7 the columns, 8 and 9 the rows' rows, 10 swaps, 11 the scratch, 12..18 likings, 19..25 grudges -/
def wx_len (i : Nat) : Nat := if i < 8 then 36 else if i = 10 then 7 else if i = 11 then 48 else if i < 19 then 8 else 7
def wx_arr (v : ts_V) (g : Nat → Int32) (i : Nat) : Nat → Int32 := match i with
  | 1 => fun t => nI (ts_se v t)
  | 2 => fun t => nI (ts_nu v t)
  | 3 => fun t => nI (ts_ha v t)
  | 4 => fun t => nI (ts_st v t)
  | 5 => fun t => nI (ts_ow v t)
  | 6 => ts_ti v
  | 7 => ts_wk v
  | 10 => ts_sw v
  | 11 => g
  | i => if i < 19 then fun s => nI (ts_li v (i - 12) s) else fun o => nI (ts_gr v (i - 19) o)
def wx_e (a : Nat → Nat) (c1 c2 : ClassId) (v : ts_V) (g : Nat → Int32) (h : Int32) (i : Nat) : va_E := match i with
  | 0 => .inr (0, [.int (ts_w v), .int (nI (ts_k v)), .int (nI (ts_n v)), .int (ts_ag v), .int (ts_rf v), .ref (a 1), .ref (a 2), .ref (a 3), .ref (a 4), .ref (a 5), .ref (a 6), .ref (a 7), .ref (a 8), .ref (a 9), .ref (a 10), .ref (a 11), .int h])
  | 8 => .inl (c2, 7, .inr (.inr (.inr (.inr (fun c => if c < 7 then some (a (12 + c)) else none)))))
  | 9 => .inl (c2, 7, .inr (.inr (.inr (.inr (fun c => if c < 7 then some (a (19 + c)) else none)))))
  | i => .inl (c1, wx_len i, .inl (wx_arr v g i))
def wx (a : Nat → Nat) (c1 c2 : ClassId) (v : ts_V) (g : Nat → Int32) (h : Int32) : va_W := (List.range 26).map (fun i => (a i, wx_e a c1 c2 v g h i))
theorem ts_mapget {α : Type} (N : Nat) (F : Nat → α) (i : Nat) (h : i < N) : ((List.range N).map F)[i]? = some (F i) := by simp [h]
theorem ts_mapset {α : Type} (N : Nat) (F G : Nat → α) (i : Nat) (y : α) (hi : G i = y) (ho : ∀ j, j < N → j ≠ i → F j = G j) : ((List.range N).map F).set i y = (List.range N).map G := by
  apply List.ext_getElem?
  intro j
  by_cases hj : j = i
  · subst hj
    by_cases hN : j < N
    · rw [List.getElem?_set_self (by simpa using hN), ts_mapget N G j hN, hi]
    · rw [List.getElem?_eq_none (by simpa using Nat.not_lt.mp hN), List.getElem?_eq_none (by simpa using Nat.not_lt.mp hN)]
  · rw [List.getElem?_set_ne (Ne.symm hj)]
    by_cases hN : j < N
    · rw [ts_mapget N F j hN, ts_mapget N G j hN, ho j hN hj]
    · rw [List.getElem?_eq_none (by simpa using Nat.not_lt.mp hN), List.getElem?_eq_none (by simpa using Nat.not_lt.mp hN)]
theorem wx_get (a : Nat → Nat) (c1 c2 : ClassId) (v : ts_V) (g : Nat → Int32) (h : Int32) (i : Nat) (hi : i < 26) : (wx a c1 c2 v g h)[i]? = some (a i, wx_e a c1 c2 v g h i) := ts_mapget 26 _ i hi
/-- a row of the likings, of the grudges -/
theorem wx_gli (a : Nat → Nat) (c1 c2 : ClassId) (v : ts_V) (g : Nat → Int32) (h : Int32) (c : Nat) (hc : c < 7) : (wx a c1 c2 v g h)[12 + c]? = some (a (12 + c), .inl (c1, 8, .inl (fun s => nI (ts_li v c s)))) := by
  rw [wx_get a c1 c2 v g h (12 + c) (by omega)]
  rcases (show c = 0 ∨ c = 1 ∨ c = 2 ∨ c = 3 ∨ c = 4 ∨ c = 5 ∨ c = 6 by omega) with rfl | rfl | rfl | rfl | rfl | rfl | rfl <;> rfl
theorem wx_ggr (a : Nat → Nat) (c1 c2 : ClassId) (v : ts_V) (g : Nat → Int32) (h : Int32) (c : Nat) (hc : c < 7) : (wx a c1 c2 v g h)[19 + c]? = some (a (19 + c), .inl (c1, 7, .inl (fun s => nI (ts_gr v c s)))) := by
  rw [wx_get a c1 c2 v g h (19 + c) (by omega)]
  rcases (show c = 0 ∨ c = 1 ∨ c = 2 ∨ c = 3 ∨ c = 4 ∨ c = 5 ∨ c = 6 by omega) with rfl | rfl | rfl | rfl | rfl | rfl | rfl <;> rfl
theorem ts_26 {P : Nat → Prop} (i : Nat) (h : ∀ j, j < 26 → j ≠ i → P j) : ∀ j, j < 26 → j ≠ i → P j := h
/-- what is set at one cell -/
theorem wx_set (a : Nat → Nat) (c1 c2 : ClassId) (v v' : ts_V) (g g' : Nat → Int32) (h h' : Int32) (i : Nat) (y : va_E) (hi : wx_e a c1 c2 v' g' h' i = y) (ho : ∀ j, j < 26 → j ≠ i → wx_e a c1 c2 v g h j = wx_e a c1 c2 v' g' h' j) : (wx a c1 c2 v g h).set i (a i, y) = wx a c1 c2 v' g' h' :=
  ts_mapset 26 _ _ i _ (by rw [hi]) (fun j hj hne => by rw [ho j hj hne])
theorem wx_lit {P : Nat → Prop} (h0 : P 0) (h1 : P 1) (h2 : P 2) (h3 : P 3) (h4 : P 4) (h5 : P 5) (h6 : P 6) (h7 : P 7) (h8 : P 8) (h9 : P 9) (h10 : P 10) (h11 : P 11) (h12 : ∀ j, 12 ≤ j → j < 26 → P j) : ∀ j, j < 26 → P j := by
  intro j hj
  rcases (show j = 0 ∨ j = 1 ∨ j = 2 ∨ j = 3 ∨ j = 4 ∨ j = 5 ∨ j = 6 ∨ j = 7 ∨ j = 8 ∨ j = 9 ∨ j = 10 ∨ j = 11 ∨ 12 ≤ j by omega) with rfl | rfl | rfl | rfl | rfl | rfl | rfl | rfl | rfl | rfl | rfl | rfl | h
  all_goals first | assumption | exact h12 j h hj
theorem wx_row (a : Nat → Nat) (c1 c2 : ClassId) (v : ts_V) (g : Nat → Int32) (h : Int32) (j : Nat) (h1 : 12 ≤ j) : wx_e a c1 c2 v g h j = .inl (c1, wx_len j, .inl (if j < 19 then fun s => nI (ts_li v (j - 12) s) else fun o => nI (ts_gr v (j - 19) o))) := by
  obtain ⟨d, rfl⟩ : ∃ d, j = 12 + d := ⟨j - 12, by omega⟩
  have e : 12 + d = d + 12 := Nat.add_comm _ _
  rw [e]
  rfl
section WXS
variable (a : Nat → Nat) (c1 c2 : ClassId) (v : ts_V) (g : Nat → Int32) (h : Int32)
theorem wx_g1 : (wx a c1 c2 v g h)[1]? = some (a 1, .inl (c1, 36, .inl (fun t => nI (ts_se v t)))) := rfl
theorem wx_g2 : (wx a c1 c2 v g h)[2]? = some (a 2, .inl (c1, 36, .inl (fun t => nI (ts_nu v t)))) := rfl
theorem wx_g3 : (wx a c1 c2 v g h)[3]? = some (a 3, .inl (c1, 36, .inl (fun t => nI (ts_ha v t)))) := rfl
theorem wx_g4 : (wx a c1 c2 v g h)[4]? = some (a 4, .inl (c1, 36, .inl (fun t => nI (ts_st v t)))) := rfl
theorem wx_g5 : (wx a c1 c2 v g h)[5]? = some (a 5, .inl (c1, 36, .inl (fun t => nI (ts_ow v t)))) := rfl
theorem wx_g6 : (wx a c1 c2 v g h)[6]? = some (a 6, .inl (c1, 36, .inl (ts_ti v))) := rfl
theorem wx_g7 : (wx a c1 c2 v g h)[7]? = some (a 7, .inl (c1, 36, .inl (ts_wk v))) := rfl
theorem wx_g10 : (wx a c1 c2 v g h)[10]? = some (a 10, .inl (c1, 7, .inl (ts_sw v))) := rfl
theorem wx_g11 : (wx a c1 c2 v g h)[11]? = some (a 11, .inl (c1, 48, .inl g)) := rfl
theorem wx_g8 : (wx a c1 c2 v g h)[8]? = some (a 8, .inl (c2, 7, .inr (.inr (.inr (.inr (fun c => if c < 7 then some (a (12 + c)) else none)))))) := rfl
theorem wx_g9 : (wx a c1 c2 v g h)[9]? = some (a 9, .inl (c2, 7, .inr (.inr (.inr (.inr (fun c => if c < 7 then some (a (19 + c)) else none)))))) := rfl
theorem wx_rows (v' : ts_V) (g' : Nat → Int32) (h' : Int32) (e1 : ts_li v' = ts_li v) (e2 : ts_gr v' = ts_gr v) : ∀ j, 12 ≤ j → j < 26 → wx_e a c1 c2 v g h j = wx_e a c1 c2 v' g' h' j := fun j h1 _ => by rw [wx_row _ _ _ _ _ _ j h1, wx_row _ _ _ _ _ _ j h1, e1, e2]
theorem wx_s1 (t x : Nat) : (wx a c1 c2 v g h).set 1 (a 1, .inl (c1, 36, .inl (upd (fun t => nI (ts_se v t)) t (nI x)))) = wx a c1 c2 (ts_se' v (va_up (ts_se v) t x)) g h := by
  rw [ts_upI]
  exact wx_set a c1 c2 v _ g _ h _ 1 _ rfl (wx_lit (fun _ => rfl) (fun q => absurd rfl q) (fun _ => rfl) (fun _ => rfl) (fun _ => rfl) (fun _ => rfl) (fun _ => rfl) (fun _ => rfl) (fun _ => rfl) (fun _ => rfl) (fun _ => rfl) (fun _ => rfl) (fun j h1 h2 _ => wx_rows a c1 c2 v g h _ _ _ (by rfl) (by rfl) j h1 h2))
theorem wx_s2 (t x : Nat) : (wx a c1 c2 v g h).set 2 (a 2, .inl (c1, 36, .inl (upd (fun t => nI (ts_nu v t)) t (nI x)))) = wx a c1 c2 (ts_nu' v (va_up (ts_nu v) t x)) g h := by
  rw [ts_upI]
  exact wx_set a c1 c2 v _ g _ h _ 2 _ rfl (wx_lit (fun _ => rfl) (fun _ => rfl) (fun q => absurd rfl q) (fun _ => rfl) (fun _ => rfl) (fun _ => rfl) (fun _ => rfl) (fun _ => rfl) (fun _ => rfl) (fun _ => rfl) (fun _ => rfl) (fun _ => rfl) (fun j h1 h2 _ => wx_rows a c1 c2 v g h _ _ _ (by rfl) (by rfl) j h1 h2))
theorem wx_s3 (t x : Nat) : (wx a c1 c2 v g h).set 3 (a 3, .inl (c1, 36, .inl (upd (fun t => nI (ts_ha v t)) t (nI x)))) = wx a c1 c2 (ts_ha' v (va_up (ts_ha v) t x)) g h := by
  rw [ts_upI]
  exact wx_set a c1 c2 v _ g _ h _ 3 _ rfl (wx_lit (fun _ => rfl) (fun _ => rfl) (fun _ => rfl) (fun q => absurd rfl q) (fun _ => rfl) (fun _ => rfl) (fun _ => rfl) (fun _ => rfl) (fun _ => rfl) (fun _ => rfl) (fun _ => rfl) (fun _ => rfl) (fun j h1 h2 _ => wx_rows a c1 c2 v g h _ _ _ (by rfl) (by rfl) j h1 h2))
theorem wx_s4 (t x : Nat) : (wx a c1 c2 v g h).set 4 (a 4, .inl (c1, 36, .inl (upd (fun t => nI (ts_st v t)) t (nI x)))) = wx a c1 c2 (ts_st' v (va_up (ts_st v) t x)) g h := by
  rw [ts_upI]
  exact wx_set a c1 c2 v _ g _ h _ 4 _ rfl (wx_lit (fun _ => rfl) (fun _ => rfl) (fun _ => rfl) (fun _ => rfl) (fun q => absurd rfl q) (fun _ => rfl) (fun _ => rfl) (fun _ => rfl) (fun _ => rfl) (fun _ => rfl) (fun _ => rfl) (fun _ => rfl) (fun j h1 h2 _ => wx_rows a c1 c2 v g h _ _ _ (by rfl) (by rfl) j h1 h2))
theorem wx_s5 (t x : Nat) : (wx a c1 c2 v g h).set 5 (a 5, .inl (c1, 36, .inl (upd (fun t => nI (ts_ow v t)) t (nI x)))) = wx a c1 c2 (ts_ow' v (va_up (ts_ow v) t x)) g h := by
  rw [ts_upI]
  exact wx_set a c1 c2 v _ g _ h _ 5 _ rfl (wx_lit (fun _ => rfl) (fun _ => rfl) (fun _ => rfl) (fun _ => rfl) (fun _ => rfl) (fun q => absurd rfl q) (fun _ => rfl) (fun _ => rfl) (fun _ => rfl) (fun _ => rfl) (fun _ => rfl) (fun _ => rfl) (fun j h1 h2 _ => wx_rows a c1 c2 v g h _ _ _ (by rfl) (by rfl) j h1 h2))
theorem wx_s6 (t : Nat) (x : Int32) : (wx a c1 c2 v g h).set 6 (a 6, .inl (c1, 36, .inl (upd (ts_ti v) t x))) = wx a c1 c2 (ts_ti' v (va_up (ts_ti v) t x)) g h :=
  wx_set a c1 c2 v _ g _ h _ 6 _ rfl (wx_lit (fun _ => rfl) (fun _ => rfl) (fun _ => rfl) (fun _ => rfl) (fun _ => rfl) (fun _ => rfl) (fun q => absurd rfl q) (fun _ => rfl) (fun _ => rfl) (fun _ => rfl) (fun _ => rfl) (fun _ => rfl) (fun j h1 h2 _ => wx_rows a c1 c2 v g h _ _ _ (by rfl) (by rfl) j h1 h2))
theorem wx_s7 (t : Nat) (x : Int32) : (wx a c1 c2 v g h).set 7 (a 7, .inl (c1, 36, .inl (upd (ts_wk v) t x))) = wx a c1 c2 (ts_wk' v (va_up (ts_wk v) t x)) g h :=
  wx_set a c1 c2 v _ g _ h _ 7 _ rfl (wx_lit (fun _ => rfl) (fun _ => rfl) (fun _ => rfl) (fun _ => rfl) (fun _ => rfl) (fun _ => rfl) (fun _ => rfl) (fun q => absurd rfl q) (fun _ => rfl) (fun _ => rfl) (fun _ => rfl) (fun _ => rfl) (fun j h1 h2 _ => wx_rows a c1 c2 v g h _ _ _ (by rfl) (by rfl) j h1 h2))
theorem wx_s10 (t : Nat) (x : Int32) : (wx a c1 c2 v g h).set 10 (a 10, .inl (c1, 7, .inl (upd (ts_sw v) t x))) = wx a c1 c2 (ts_sw' v (va_up (ts_sw v) t x)) g h :=
  wx_set a c1 c2 v _ g _ h _ 10 _ rfl (wx_lit (fun _ => rfl) (fun _ => rfl) (fun _ => rfl) (fun _ => rfl) (fun _ => rfl) (fun _ => rfl) (fun _ => rfl) (fun _ => rfl) (fun _ => rfl) (fun _ => rfl) (fun q => absurd rfl q) (fun _ => rfl) (fun j h1 h2 _ => wx_rows a c1 c2 v g h _ _ _ (by rfl) (by rfl) j h1 h2))
theorem wx_s11 (g' : Nat → Int32) : (wx a c1 c2 v g h).set 11 (a 11, .inl (c1, 48, .inl g')) = wx a c1 c2 v g' h :=
  wx_set a c1 c2 v _ g _ h _ 11 _ rfl (wx_lit (fun _ => rfl) (fun _ => rfl) (fun _ => rfl) (fun _ => rfl) (fun _ => rfl) (fun _ => rfl) (fun _ => rfl) (fun _ => rfl) (fun _ => rfl) (fun _ => rfl) (fun _ => rfl) (fun q => absurd rfl q) (fun j h1 h2 _ => wx_rows a c1 c2 v g h _ _ _ (by rfl) (by rfl) j h1 h2))
theorem wx_s0 (v' : ts_V) (h' : Int32) (e2 : v'.2 = v.2) (fs : List Value) (hf : wx_e a c1 c2 v' g h' 0 = .inr (0, fs)) : (wx a c1 c2 v g h).set 0 (a 0, .inr (0, fs)) = wx a c1 c2 v' g h' := by
  obtain ⟨v1, v2⟩ := v'
  dsimp only at e2
  subst e2
  exact wx_set a c1 c2 v _ g _ h _ 0 _ hf (wx_lit (fun q => absurd rfl q) (fun _ => rfl) (fun _ => rfl) (fun _ => rfl) (fun _ => rfl) (fun _ => rfl) (fun _ => rfl) (fun _ => rfl) (fun _ => rfl) (fun _ => rfl) (fun _ => rfl) (fun _ => rfl) (fun j h1 h2 _ => wx_rows a c1 c2 v g h _ _ _ (by rfl) (by rfl) j h1 h2))
theorem wx_sli (c s x : Nat) (hc : c < 7) : (wx a c1 c2 v g h).set (12 + c) (a (12 + c), .inl (c1, 8, .inl (upd (fun s => nI (ts_li v c s)) s (nI x)))) = wx a c1 c2 (ts_li' v (ts_up2 (ts_li v) c s x)) g h := by
  rw [ts_upI]
  refine wx_set a c1 c2 v _ g _ h _ (12 + c) _ ?_ (wx_lit (fun _ => rfl) (fun _ => rfl) (fun _ => rfl) (fun _ => rfl) (fun _ => rfl) (fun _ => rfl) (fun _ => rfl) (fun _ => rfl) (fun _ => rfl) (fun _ => rfl) (fun _ => rfl) (fun _ => rfl) (fun j h1 h2 hne => ?_))
  · rw [wx_row _ _ _ _ _ _ _ (by omega), if_pos (show 12 + c < 19 by omega), show wx_len (12 + c) = 8 by unfold wx_len; rw [if_neg (by omega), if_neg (by omega), if_neg (by omega), if_pos (by omega)], show 12 + c - 12 = c by omega]
    congr 4
    funext s2
    simp [ts_up2, va_up, ts_li, ts_li', ts_gr, ts_gr']
  · rw [wx_row _ _ _ _ _ _ j h1, wx_row _ _ _ _ _ _ j h1]
    by_cases hj : j < 19
    · rw [if_pos hj, if_pos hj]
      have : ¬ j - 12 = c := by omega
      simp [ts_up2, this, ts_li, ts_li', ts_gr, ts_gr']
    · rw [if_neg hj, if_neg hj]
theorem wx_sgr (c s x : Nat) (hc : c < 7) : (wx a c1 c2 v g h).set (19 + c) (a (19 + c), .inl (c1, 7, .inl (upd (fun s => nI (ts_gr v c s)) s (nI x)))) = wx a c1 c2 (ts_gr' v (ts_up2 (ts_gr v) c s x)) g h := by
  rw [ts_upI]
  refine wx_set a c1 c2 v _ g _ h _ (19 + c) _ ?_ (wx_lit (fun _ => rfl) (fun _ => rfl) (fun _ => rfl) (fun _ => rfl) (fun _ => rfl) (fun _ => rfl) (fun _ => rfl) (fun _ => rfl) (fun _ => rfl) (fun _ => rfl) (fun _ => rfl) (fun _ => rfl) (fun j h1 h2 hne => ?_))
  · rw [wx_row _ _ _ _ _ _ _ (by omega), if_neg (show ¬ 19 + c < 19 by omega), show wx_len (19 + c) = 7 by unfold wx_len; rw [if_neg (by omega), if_neg (by omega), if_neg (by omega), if_neg (by omega)], show 19 + c - 19 = c by omega]
    congr 4
    funext s2
    simp [ts_up2, va_up, ts_li, ts_li', ts_gr, ts_gr']
  · rw [wx_row _ _ _ _ _ _ j h1, wx_row _ _ _ _ _ _ j h1]
    by_cases hj : j < 19
    · rw [if_pos hj, if_pos hj]
    · rw [if_neg hj, if_neg hj]
      have : ¬ j - 19 = c := by omega
      simp [ts_up2, this, ts_li, ts_li', ts_gr, ts_gr']
theorem wx_p0 (x : Int32) : (wx a c1 c2 v g h).set 0 (a 0, .inr (0, ([.int (ts_w v), .int (nI (ts_k v)), .int (nI (ts_n v)), .int (ts_ag v), .int (ts_rf v), .ref (a 1), .ref (a 2), .ref (a 3), .ref (a 4), .ref (a 5), .ref (a 6), .ref (a 7), .ref (a 8), .ref (a 9), .ref (a 10), .ref (a 11), .int h] : List Value).set 0 (.int x))) = wx a c1 c2 (ts_w' v x) g h := wx_s0 a c1 c2 v g h (ts_w' v x) h rfl _ rfl
theorem wx_p1 (x : Nat) : (wx a c1 c2 v g h).set 0 (a 0, .inr (0, ([.int (ts_w v), .int (nI (ts_k v)), .int (nI (ts_n v)), .int (ts_ag v), .int (ts_rf v), .ref (a 1), .ref (a 2), .ref (a 3), .ref (a 4), .ref (a 5), .ref (a 6), .ref (a 7), .ref (a 8), .ref (a 9), .ref (a 10), .ref (a 11), .int h] : List Value).set 1 (.int (nI x)))) = wx a c1 c2 (ts_k' v x) g h := wx_s0 a c1 c2 v g h (ts_k' v x) h rfl _ rfl
theorem wx_p2 (x : Nat) : (wx a c1 c2 v g h).set 0 (a 0, .inr (0, ([.int (ts_w v), .int (nI (ts_k v)), .int (nI (ts_n v)), .int (ts_ag v), .int (ts_rf v), .ref (a 1), .ref (a 2), .ref (a 3), .ref (a 4), .ref (a 5), .ref (a 6), .ref (a 7), .ref (a 8), .ref (a 9), .ref (a 10), .ref (a 11), .int h] : List Value).set 2 (.int (nI x)))) = wx a c1 c2 (ts_n' v x) g h := wx_s0 a c1 c2 v g h (ts_n' v x) h rfl _ rfl
theorem wx_p3 (x : Int32) : (wx a c1 c2 v g h).set 0 (a 0, .inr (0, ([.int (ts_w v), .int (nI (ts_k v)), .int (nI (ts_n v)), .int (ts_ag v), .int (ts_rf v), .ref (a 1), .ref (a 2), .ref (a 3), .ref (a 4), .ref (a 5), .ref (a 6), .ref (a 7), .ref (a 8), .ref (a 9), .ref (a 10), .ref (a 11), .int h] : List Value).set 3 (.int x))) = wx a c1 c2 (ts_ag' v x) g h := wx_s0 a c1 c2 v g h (ts_ag' v x) h rfl _ rfl
theorem wx_p4 (x : Int32) : (wx a c1 c2 v g h).set 0 (a 0, .inr (0, ([.int (ts_w v), .int (nI (ts_k v)), .int (nI (ts_n v)), .int (ts_ag v), .int (ts_rf v), .ref (a 1), .ref (a 2), .ref (a 3), .ref (a 4), .ref (a 5), .ref (a 6), .ref (a 7), .ref (a 8), .ref (a 9), .ref (a 10), .ref (a 11), .int h] : List Value).set 4 (.int x))) = wx a c1 c2 (ts_rf' v x) g h := wx_s0 a c1 c2 v g h (ts_rf' v x) h rfl _ rfl
theorem wx_p16 (x : Int32) : (wx a c1 c2 v g h).set 0 (a 0, .inr (0, ([.int (ts_w v), .int (nI (ts_k v)), .int (nI (ts_n v)), .int (ts_ag v), .int (ts_rf v), .ref (a 1), .ref (a 2), .ref (a 3), .ref (a 4), .ref (a 5), .ref (a 6), .ref (a 7), .ref (a 8), .ref (a 9), .ref (a 10), .ref (a 11), .int h] : List Value).set 16 (.int x))) = wx a c1 c2 (v) g x := wx_s0 a c1 c2 v g h (v) x rfl _ rfl
end WXS
/-! the reference's cells: 0 the object, 1 the table, 2 likes, 3 grudges, 4 swaps, 5 numbers, 6 the scratch -/
def ts_col (v : ts_V) (w t : Nat) : Int32 := match w with
  | 0 => nI (ts_se v t)
  | 1 => nI (ts_nu v t)
  | 2 => nI (ts_ha v t)
  | 3 => nI (ts_st v t)
  | 4 => nI (ts_ow v t)
  | 5 => ts_ti v t
  | _ => ts_wk v t
def ts_num (v : ts_V) (i : Nat) : Int32 := match i with
  | 0 => ts_w v
  | 1 => ts_ag v
  | 2 => ts_rf v
  | _ => 0
def wm_e (b : Nat → Nat) (c1 : ClassId) (v : ts_V) (th : Int32) (z : Nat → Int32) (i : Nat) : va_E := match i with
  | 0 => .inr (1, [.int th, .int (nI (ts_k v)), .int (nI (ts_n v)), .ref (b 1), .ref (b 2), .ref (b 3), .ref (b 4), .ref (b 5), .ref (b 6)])
  | 1 => .inl (c1, 252, .inl (fun i => ts_col v (i % 7) (i / 7)))
  | 2 => .inl (c1, 56, .inl (fun i => nI (ts_li v (i / 8) (i % 8))))
  | 3 => .inl (c1, 49, .inl (fun i => nI (ts_gr v (i / 7) (i % 7))))
  | 4 => .inl (c1, 7, .inl (ts_sw v))
  | 5 => .inl (c1, 3, .inl (ts_num v))
  | _ => .inl (c1, 6, .inl z)
def wm (b : Nat → Nat) (c1 : ClassId) (v : ts_V) (th : Int32) (z : Nat → Int32) : va_W := (List.range 7).map (fun i => (b i, wm_e b c1 v th z i))
section WMS
variable (b : Nat → Nat) (c1 : ClassId) (v : ts_V) (th : Int32) (z : Nat → Int32)
theorem wm_g1 : (wm b c1 v th z)[1]? = some (b 1, .inl (c1, 252, .inl (fun i => ts_col v (i % 7) (i / 7)))) := rfl
theorem wm_g2 : (wm b c1 v th z)[2]? = some (b 2, .inl (c1, 56, .inl (fun i => nI (ts_li v (i / 8) (i % 8))))) := rfl
theorem wm_g3 : (wm b c1 v th z)[3]? = some (b 3, .inl (c1, 49, .inl (fun i => nI (ts_gr v (i / 7) (i % 7))))) := rfl
theorem wm_g4 : (wm b c1 v th z)[4]? = some (b 4, .inl (c1, 7, .inl (ts_sw v))) := rfl
theorem wm_g5 : (wm b c1 v th z)[5]? = some (b 5, .inl (c1, 3, .inl (ts_num v))) := rfl
theorem wm_g6 : (wm b c1 v th z)[6]? = some (b 6, .inl (c1, 6, .inl (z))) := rfl
theorem wm_set (v' : ts_V) (th' : Int32) (z' : Nat → Int32) (i : Nat) (y : va_E) (hi : wm_e b c1 v' th' z' i = y) (h0 : 0 ≠ i → wm_e b c1 v th z 0 = wm_e b c1 v' th' z' 0) (h1 : 1 ≠ i → wm_e b c1 v th z 1 = wm_e b c1 v' th' z' 1) (h2 : 2 ≠ i → wm_e b c1 v th z 2 = wm_e b c1 v' th' z' 2) (h3 : 3 ≠ i → wm_e b c1 v th z 3 = wm_e b c1 v' th' z' 3) (h4 : 4 ≠ i → wm_e b c1 v th z 4 = wm_e b c1 v' th' z' 4) (h5 : 5 ≠ i → wm_e b c1 v th z 5 = wm_e b c1 v' th' z' 5) (h6 : 6 ≠ i → wm_e b c1 v th z 6 = wm_e b c1 v' th' z' 6) : (wm b c1 v th z).set i (b i, y) = wm b c1 v' th' z' := by
  refine ts_mapset 7 _ _ i _ (by rw [hi]) (fun j hj hne => ?_)
  rcases (show j = 0 ∨ j = 1 ∨ j = 2 ∨ j = 3 ∨ j = 4 ∨ j = 5 ∨ j = 6 by omega) with rfl | rfl | rfl | rfl | rfl | rfl | rfl
  · rw [h0 hne]
  · rw [h1 hne]
  · rw [h2 hne]
  · rw [h3 hne]
  · rw [h4 hne]
  · rw [h5 hne]
  · rw [h6 hne]
theorem wm_s0 (v' : ts_V) (th' : Int32) (e1 : v'.1.2.2 = v.1.2.2) (e2 : v'.2 = v.2) (fs : List Value) (hf : wm_e b c1 v' th' z 0 = .inr (1, fs)) : (wm b c1 v th z).set 0 (b 0, .inr (1, fs)) = wm b c1 v' th' z := by
  obtain ⟨⟨n, k, r⟩, v2⟩ := v'
  dsimp only at e1 e2
  subst e1
  subst e2
  exact wm_set b c1 v th z _ _ _ 0 _ hf (fun q => absurd rfl q) (fun _ => rfl) (fun _ => rfl) (fun _ => rfl) (fun _ => rfl) (fun _ => rfl) (fun _ => rfl)
theorem wm_s1 (v' : ts_V) (f : Nat → Int32) (e1 : v'.1 = v.1) (e2 : v'.2.2 = v.2.2) (hf : (fun i => ts_col v' (i % 7) (i / 7)) = f) : (wm b c1 v th z).set 1 (b 1, .inl (c1, 252, .inl f)) = wm b c1 v' th z := by
  obtain ⟨v1, v2, v3⟩ := v'
  dsimp only at e1 e2
  subst e1
  subst e2
  subst hf
  exact wm_set b c1 v th z _ _ _ 1 _ rfl (fun _ => rfl) (fun q => absurd rfl q) (fun _ => rfl) (fun _ => rfl) (fun _ => rfl) (fun _ => rfl) (fun _ => rfl)
theorem wm_s2 (f : Nat → Nat → Nat) (y : Nat → Int32) (hf : (fun i => nI (f (i / 8) (i % 8))) = y) : (wm b c1 v th z).set 2 (b 2, .inl (c1, 56, .inl y)) = wm b c1 (ts_li' v f) th z := by
  subst hf
  exact wm_set b c1 v th z _ _ _ 2 _ rfl (fun _ => rfl) (fun _ => rfl) (fun q => absurd rfl q) (fun _ => rfl) (fun _ => rfl) (fun _ => rfl) (fun _ => rfl)
theorem wm_s3 (f : Nat → Nat → Nat) (y : Nat → Int32) (hf : (fun i => nI (f (i / 7) (i % 7))) = y) : (wm b c1 v th z).set 3 (b 3, .inl (c1, 49, .inl y)) = wm b c1 (ts_gr' v f) th z := by
  subst hf
  exact wm_set b c1 v th z _ _ _ 3 _ rfl (fun _ => rfl) (fun _ => rfl) (fun _ => rfl) (fun q => absurd rfl q) (fun _ => rfl) (fun _ => rfl) (fun _ => rfl)
theorem wm_s4 (t : Nat) (x : Int32) : (wm b c1 v th z).set 4 (b 4, .inl (c1, 7, .inl (upd (ts_sw v) t x))) = wm b c1 (ts_sw' v (va_up (ts_sw v) t x)) th z :=
  wm_set b c1 v th z _ _ _ 4 _ rfl (fun _ => rfl) (fun _ => rfl) (fun _ => rfl) (fun _ => rfl) (fun q => absurd rfl q) (fun _ => rfl) (fun _ => rfl)
theorem wm_s5 (v' : ts_V) (y : Nat → Int32) (e0 : v'.1.1 = v.1.1) (e1 : v'.1.2.1 = v.1.2.1) (e2 : v'.2 = v.2) (hf : ts_num v' = y) : (wm b c1 v th z).set 5 (b 5, .inl (c1, 3, .inl y)) = wm b c1 v' th z := by
  obtain ⟨⟨n, k, r⟩, v2⟩ := v'
  dsimp only at e0 e1 e2
  subst e0
  subst e1
  subst e2
  subst hf
  exact wm_set b c1 v th z _ _ _ 5 _ rfl (fun _ => rfl) (fun _ => rfl) (fun _ => rfl) (fun _ => rfl) (fun _ => rfl) (fun q => absurd rfl q) (fun _ => rfl)
theorem wm_s6 (z' : Nat → Int32) : (wm b c1 v th z).set 6 (b 6, .inl (c1, 6, .inl z')) = wm b c1 v th z' :=
  wm_set b c1 v th z _ _ _ 6 _ rfl (fun _ => rfl) (fun _ => rfl) (fun _ => rfl) (fun _ => rfl) (fun _ => rfl) (fun _ => rfl) (fun q => absurd rfl q)
theorem wm_p0 (x : Int32) : (wm b c1 v th z).set 0 (b 0, .inr (1, ([.int th, .int (nI (ts_k v)), .int (nI (ts_n v)), .ref (b 1), .ref (b 2), .ref (b 3), .ref (b 4), .ref (b 5), .ref (b 6)] : List Value).set 0 (.int x))) = wm b c1 (v) x z := wm_s0 b c1 v th z (v) x rfl rfl _ rfl
theorem wm_p1 (x : Nat) : (wm b c1 v th z).set 0 (b 0, .inr (1, ([.int th, .int (nI (ts_k v)), .int (nI (ts_n v)), .ref (b 1), .ref (b 2), .ref (b 3), .ref (b 4), .ref (b 5), .ref (b 6)] : List Value).set 1 (.int (nI x)))) = wm b c1 (ts_k' v x) th z := wm_s0 b c1 v th z (ts_k' v x) th rfl rfl _ rfl
theorem wm_p2 (x : Nat) : (wm b c1 v th z).set 0 (b 0, .inr (1, ([.int th, .int (nI (ts_k v)), .int (nI (ts_n v)), .ref (b 1), .ref (b 2), .ref (b 3), .ref (b 4), .ref (b 5), .ref (b 6)] : List Value).set 2 (.int (nI x)))) = wm b c1 (ts_n' v x) th z := wm_s0 b c1 v th z (ts_n' v x) th rfl rfl _ rfl
end WMS
theorem ts_num0 (v : ts_V) (x : Int32) : ts_num (ts_w' v x) = upd (ts_num v) 0 x := by
  funext i
  match i with
  | 0 => rfl
  | 1 => rfl
  | 2 => rfl
  | i + 3 => simp [ts_num, upd]
theorem ts_num1 (v : ts_V) (x : Int32) : ts_num (ts_ag' v x) = upd (ts_num v) 1 x := by
  funext i
  match i with
  | 0 => rfl
  | 1 => rfl
  | 2 => rfl
  | i + 3 => simp [ts_num, upd]
theorem ts_num2 (v : ts_V) (x : Int32) : ts_num (ts_rf' v x) = upd (ts_num v) 2 x := by
  funext i
  match i with
  | 0 => rfl
  | 1 => rfl
  | 2 => rfl
  | i + 3 => simp [ts_num, upd]
