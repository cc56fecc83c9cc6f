/-! ===== what the museum answers, in natural numbers ===== -/
/-- what holds of every state that calls can make -/
def ts_I (v : ts_V) : Prop := ts_n v ≤ 36 ∧ ts_k v ≤ 7 ∧ (∀ t, t < ts_n v → ts_se v t < 8 ∧ ts_nu v t < 6 ∧ ts_ha v t < 20 ∧ ts_st v t ≤ 9 ∧ ts_ow v t < ts_k v) ∧ (∀ t, ts_n v ≤ t → ts_wk v t = 0) ∧ (∀ c s, ts_li v c s ≤ 5) ∧ (∀ c o, ts_gr v c o ≤ 9 ∧ ((ts_k v ≤ c ∨ ts_k v ≤ o) → ts_gr v c o = 0))
def ts_cnt (p : Nat → Bool) : Nat → Nat
  | 0 => 0
  | n + 1 => ts_cnt p n + (if p n then 1 else 0)
def ts_sum (f : Nat → Nat) : Nat → Nat
  | 0 => 0
  | n + 1 => ts_sum f n + f n
def ts_or (p : Nat → Bool) (b : Nat → Nat) : Nat → Int32
  | 0 => 0
  | n + 1 => if p n then ts_or p b n ||| ((1 : Int32) <<< (nI (b n) &&& 31)) else ts_or p b n
/-- of the thimbles below n with p, of set s and number k: the greatest state and 1; 0 without one -/
def ts_gs (p : Nat → Bool) (se nu st : Nat → Nat) (s k : Nat) : Nat → Nat
  | 0 => 0
  | n + 1 => if p n && (se n == s && nu n == k) then max (ts_gs p se nu st s k n) (1 + st n) else ts_gs p se nu st s k n
/-- Integer.bitCount, as its bytecode goes -/
def ts_sh (x : Int32) (k : Int32) : Int32 := (x.toUInt32 >>> (k.toUInt32 &&& Int32.toUInt32 31)).toInt32
def ts_bc (x : Int32) : Int32 :=
  (fun (a : Int32) => (fun (b : Int32) => (fun (c : Int32) => (fun (d : Int32) => (d + ts_sh d 16) &&& 63) (c + ts_sh c 8)) ((b + ts_sh b 4) &&& 252645135)) ((a &&& 858993459) + (ts_sh a 2 &&& 858993459))) (x - (ts_sh x 1 &&& 1431655765))
def ts_bcN (x : Int32) : Nat := (ts_bc x).toNatClampNeg
theorem ts_bc_eq (x : Int32) : ts_bc x = nI (ts_bcN x) ∧ ts_bcN x < 64 := by
  obtain ⟨j, hj, e⟩ := pk_andE ((fun (a : Int32) => (fun (b : Int32) => (fun (c : Int32) => (fun (d : Int32) => (d + ts_sh d 16)) (c + ts_sh c 8)) ((b + ts_sh b 4) &&& 252645135)) ((a &&& 858993459) + (ts_sh a 2 &&& 858993459))) (x - (ts_sh x 1 &&& 1431655765))) (m := 63) 6 (by decide)
  have e2 : ts_bc x = nI j := e
  unfold ts_bcN
  rw [e2, nI_clamp (by omega)]
  exact ⟨rfl, hj⟩
def ts_lt (v : ts_V) (t : Nat) : Bool := decide (ts_ti v t ≠ -1)
abbrev ts_g (v : ts_V) (p : Nat → Bool) (s k : Nat) : Nat := ts_gs p (ts_se v) (ts_nu v) (ts_st v) s k (ts_n v)
/-- how many different numbers, and their greatest states, added -/
def ts_nums (v : ts_V) (p : Nat → Bool) (s : Nat) : Nat := ts_cnt (fun k => decide (0 < ts_g v p s k)) 6
def ts_stts (v : ts_V) (p : Nat → Bool) (s : Nat) : Nat := ts_sum (fun k => ts_g v p s k - 1) 6
def ts_hm (v : ts_V) (p : Nat → Bool) : Nat := ts_bcN (ts_or p (ts_ha v) (ts_n v))
/-- the worth of the thimbles with p to one who likes the sets so -/
def ts_wo (v : ts_V) (p : Nat → Bool) (li : Nat → Nat) : Nat := 3 * ts_hm v p + ts_sum (fun s => li s * 2 * ts_nums v p s * ts_nums v p s + ts_stts v p s) 8
def ts_of (v : ts_V) (c : Nat) : Nat → Bool := fun t => ts_ow v t == c
def ts_af (v : ts_V) (c x y : Nat) : Nat → Bool := fun t => t == y || (t != x && ts_ow v t == c)
def ts_now (v : ts_V) (c : Nat) : Nat := ts_wo v (ts_of v c) (ts_li v c)
def ts_aft (v : ts_V) (c x y : Nat) : Nat := ts_wo v (ts_af v c x y) (ts_li v c)
/-- what the owner of x gains by y for it -/
def ts_gain (v : ts_V) (x y : Nat) : Int32 := nI (ts_aft v (ts_ow v x) x y) - nI (ts_now v (ts_ow v x))
def ts_en (v : ts_V) (z : Int32) (c o : Nat) : Bool := decide (nI (2 * ts_gr v c o) < z)
def ts_all (v : ts_V) : Nat := ts_sum (fun c => ts_now v c) (ts_k v)
def ts_whole (v : ts_V) (c : Nat) : Nat := ts_cnt (fun s => decide (ts_nums v (ts_of v c) s = 6)) 8
def ts_soft (f : Nat → Nat → Nat) (c o : Nat) : Nat → Nat → Nat := ts_up2 f c o (f c o - 1)
def ts_rese (f : Nat → Nat → Nat) (c o : Nat) : Nat → Nat → Nat := ts_up2 f c o (min (f c o + 1) 9)
/-- both thimbles change hands -/
def ts_exch (v : ts_V) (x y : Nat) : ts_V := ts_ow' v (va_up (va_up (ts_ow v) x (ts_ow v y)) y (ts_ow v x))
def ts_swp (v : ts_V) (x y : Nat) : ts_V :=
  (fun (u : ts_V) => (fun (u2 : ts_V) => (fun (u3 : ts_V) => ts_ag' u3 (ts_ag u3 + 1))
    (ts_sw' u2 (va_up (va_up (ts_sw u2) (ts_ow v x) (ts_sw u2 (ts_ow v x) + 1)) (ts_ow v y) (va_up (ts_sw u2) (ts_ow v x) (ts_sw u2 (ts_ow v x) + 1) (ts_ow v y) + 1))))
    (ts_gr' u (ts_soft (ts_soft (ts_gr u) (ts_ow v x) (ts_ow v y)) (ts_ow v y) (ts_ow v x)))) (ts_exch v x y)
def ts_home (v : ts_V) (t c : Nat) : Bool := ts_ow v t == c && !(ts_lt v t)
/-- the search of the best swap of c's with o's -/
def ts_bstep (v : ts_V) (c o x y : Nat) (s : Int32 × Int32) : Int32 × Int32 :=
  if ts_home v y o = true ∧ ts_en v (ts_gain v x y) c o = true ∧ ts_en v (ts_gain v y x) o c = true ∧ s.2 < ts_gain v x y + ts_gain v y x then (nI (36 * x + y), ts_gain v x y + ts_gain v y x) else s
def ts_bin (v : ts_V) (c o x : Nat) (s : Int32 × Int32) : Nat → Int32 × Int32
  | 0 => s
  | y + 1 => ts_bstep v c o x y (ts_bin v c o x s y)
def ts_bout (v : ts_V) (c o : Nat) : Nat → Int32 × Int32
  | 0 => (-1, 0)
  | x + 1 => if ts_home v x c = true then ts_bin v c o x (ts_bout v c o x) (ts_n v) else ts_bout v c o x
def ts_best (v : ts_V) (c o : Nat) : Int32 := (ts_bout v c o (ts_n v)).1
