/-! THE CLAIM OUT OF ONE WALK OF THE LAW'S BODY. Your part is whole_start (and what it stands on); all else here is the same for every law, but numbers. -/
def R_law : String := "ThimbleSwapLaw"
def lw_P (b : Addr) (xs : List Int32) (args : Array Value) (s : State) : Prop := args = #[.ref b] ∧ s.IntsAt b xs ∧ xs.length ≤ 3072 ∧ (Jvm.Cond.and given_1 narrow_1).before args s = true
/-- what a walk over the start with the record d0 says of its end, said of the start itself -/
theorem lw_closed {s t : State} {o : Outcome} {d0 : Drawn} {L : List Loc} {k n : Nat} (hd0 : s.drawn.sameBut d0 lw_cs) (hv : ∃ v, o = .returned v) (hW : (s.setDrawn d0).WarmedH t.vm) (hs : (s.setDrawn d0).sameButNew ({ t with vm := s.vm } : State) L k n) : State.butDraws s t lw_cs (fun t1 => Framed s o t1 L k n) := by
  have h2 : t.drawn = d0 := congrArg State.drawn hs.1
  refine ⟨⟨hv, hW, State.sameButNew.setDrawn hs s.drawn⟩, ?_, by decide⟩
  rw [h2]
  exact hd0
def lw_Q (_ : Array Value) (s : State) (o : Outcome) (t : State) : Prop := o = .returned (some (.int 1)) ∧ State.butDraws s t lw_cs (fun t1 => Framed s o t1 [] 601024 7293034)
def lw_Z (below : List Frame) (a : Array Value) (s : State) : State → Prop := fun t => ∃ o, t.status = .running ∧ Ended t below o ∧ lw_Q a s o t
/-- the law's own end, with 1 on the stack, nothing written that was there before, its room as the claim has it; d0: the record of draws at this point (at the entry s.drawn: begin with 'refine W.base ?_' and 'have hd0 := Drawn.sameBut.refl s.drawn lw_cs') -/
theorem lw_ret {p : Program} {l : Launch} {e : Env} {s : State} {m : MethodId} {below : List Frame} {meth : Method} {c : Code} {b : Nat} {d0 : Drawn} (hd0 : s.drawn.sameBut d0 lw_cs) (hx : p.tables.exec = Jvm.exec) (hb : c.code = code) (hr : meth.sig.returnType = ret) (hlocks : meth.locks = false) {pc : Nat} {H : Heap} {ls : Array Slot} (hdg : decode code pc = .ok (.ireturn, 1)) : W p l e room_1 (s.setDrawn d0) m #[Value.ref b] below meth c H [] 601024 7293034 (lw_Z below #[Value.ref b] s) (F0 m pc ls [.int 1]) := by
  intro T hT X
  obtain ⟨fs, hret, hrun, hended, hW, hframe⟩ := X.leave (v := some (.int 1)) (hlocks := hlocks) (fun h => by rw [hr] at h; cases h)
  have hmeth' : T.vm.method? m = some meth := X.method'
  refine ⟨T.setFrames fs, ?_, .returned (some (.int 1)), hrun, hended, rfl, lw_closed hd0 ⟨_, rfl⟩ hW hframe⟩
  jvm_step X.here [X.here.top, hx, hb, hdg, hmeth', hr, ret, narrow_b1]
  (try refine ⟨rfl, ?_⟩); (try refine ⟨rfl, ?_⟩)
  first | (intro acts; rw [hret _ acts rfl rfl rfl]) | rw [hret _ _ rfl rfl rfl]
  exact Steps.refl _
/-- what holds at the law's entry: the machine, the code, the tables' words (any of lw_tbl by 'hts w (by decide +kernel)'), the script of L ints xs at the cell b, what the Statement gives of the start (any of its parts by flat_of_before) -/
def lw_At (p : Program) (s : State) (m : MethodId) (meth : Method) (c : Code) (b L : Nat) (xs : Nat → Int32) : Prop :=
  p.tables.exec = Jvm.exec ∧ c.code = code ∧ meth.sig.returnType = ret ∧ c.maxLocals = 9 ∧ s.vm.findClass R_law = some m.cls ∧ (∀ w ∈ lw_tbl, w.before #[Value.ref b] s = true) ∧ va_X b L xs s s.heap ∧ b < s.heap.size ∧ meth.locks = false ∧ (Jvm.Cond.and given_1 narrow_1).before #[Value.ref b] s = true
theorem wl_1 : Cond.classLink RL 8 RX0 ∈ wsL_law := by decide +kernel
theorem wl_2 : Cond.instantiable RX0 17 ∈ wsL_law := by decide +kernel
theorem wl_3 : Cond.initialized RX0 ∈ wsL_law := by decide +kernel
theorem wl_4 : Cond.classLink RL 72 RX1 ∈ wsL_law := by decide +kernel
theorem wl_5 : Cond.instantiable RX1 9 ∈ wsL_law := by decide +kernel
theorem wl_6 : Cond.initialized RX1 ∈ wsL_law := by decide +kernel
theorem wl_7 : Cond.methodLink RL 71 yX0_init ∈ wsL_law := by decide +kernel
theorem wl_8 : Cond.instanceMethod yX0_init ∈ wsL_law := by decide +kernel
theorem wl_9 : Cond.methodLink RL 74 yX1_init ∈ wsL_law := by decide +kernel
theorem wl_10 : Cond.instanceMethod yX1_init ∈ wsL_law := by decide +kernel
theorem wl_11 : Cond.arrayClass .long ∈ wsL_law := by decide +kernel
set_option maxRecDepth 100000 in
set_option maxHeartbeats 4000000 in
theorem whole_start {p : Program} {e : Env} {s : State} {m : MethodId} {below : List Frame} {meth : Method} {c : Code} (l : Launch) (hflags : l.flags = flags0) {b L : Nat} {xs : Nat → Int32} (hL : L ≤ 3072) (C0 : lw_At p s m meth c b L xs) : W p l e room_1 s m #[Value.ref b] below meth c s.heap [] 0 0 (lw_Z below #[Value.ref b] s) (entryFrame m ([Value.ref b] : List Value).toArray 9) := by
  obtain ⟨hx, hb, hr, hml, hown, hts, hX, hbl, hlocks, hgv⟩ := id C0
  have hs := flat_of_before _ hgv
  have hl : l.stackTraces = false := by
    unfold Launch.stackTraces
    rw [hflags]
    rfl
  have hA : ∀ q : Nat, s.heap.size ≤ q → (fun q : Nat => s.heap.size ≤ q) q := fun _ h => h
  have hA2 : ∀ q : Nat, q < s.heap.size → ¬ (fun q : Nat => s.heap.size ≤ q) q := fun q h => Nat.not_le.mpr h
  obtain ⟨c0, iS0, hKn0⟩ := u_known (C := RX0) (T := TX0) (N := 17) (n := 17) hts inX0 (hts (.instantiable RX0 17) (wsL_law_in _ wl_2))
  obtain ⟨c9, iS1, hKn1⟩ := u_known (C := RX1) (T := TX1) (N := 9) (n := 9) hts inX1 (hts (.instantiable RX1 9) (wsL_law_in _ wl_5))
  obtain ⟨dC, dI, hKc⟩ : ∃ (dC : Nat → ClassId) (dI : Nat → Nat → Nat), ∀ (k : Nat) (q : vw_C), vwCl[k]? = some q → u_Kn s q.1 q.2.1 q.2.2 (dC k) (dI k) := by
    refine ⟨fun k => if k = 0 then c0 else c9, fun k => if k = 0 then iS0 else iS1, ?_⟩
    intro k q hq
    match k, hq with
    | 0, hq => cases hq; exact hKn0
    | 1, hq => cases hq; exact hKn1
    | k + 2, hq => simp [vwCl] at hq
  obtain ⟨c1, hc1, hc1'⟩ := ts_cI (hts (.arrayClass .int) (by decide +kernel))
  obtain ⟨c2, hc2, hc2'⟩ := ts_cA (hts (.arrayOver (.array .int)) (by decide +kernel))
  obtain ⟨c3, hc3, hc3'⟩ := ts_cJ (hts (.arrayClass .long) (by decide +kernel))
  have hao : va_AOA .int s := va_AOA.of (hts (.arrayOver (.array .int)) (by decide +kernel))
  have hK : va_K (dC, dI) vwCl (ts_T c1 c2 c3) s := ⟨hKc, fun k q h => by
    match k, h with
    | 0, h => cases h; exact ⟨hc1, hc1'⟩
    | 1, h => cases h; exact ⟨hc2, hc2'⟩
    | 2, h => cases h; exact ⟨hc3, hc3'⟩
    | k + 3, h => simp [ts_T] at h⟩
  have hH : jj_XH (fun q : Nat => s.heap.size ≤ q) s s.heap := ⟨vx_Zqof (hts (.laysStatic Bundle.tN "UNASSIGNED_STACK" Bundle.steD) (by decide +kernel)) (hts (.initialized Bundle.tN) (by decide +kernel)) (hs _ (by decide +kernel)) hA2, vx_Zqof (hts (.laysStatic Bundle.tN "SUPPRESSED_SENTINEL" Bundle.listD) (by decide +kernel)) (hts (.initialized Bundle.tN) (by decide +kernel)) (hs _ (by decide +kernel)) hA2⟩
  have hV : jj_XV s := by
    refine ⟨⟨va_Nw.of rfl (hts (.castable jj_IO jj_IO) (by decide +kernel)), va_Nw.of rfl (hts (.castable jj_IA jj_IA) (by decide +kernel)), va_Nw.of rfl (hts (.castable jj_IS jj_IS) (by decide +kernel)), va_Nw.of rfl (hts (.declares ⟨"java/lang/RuntimeException", "<init>", "(Ljava/lang/String;)V"⟩) (by decide +kernel)), va_Nw.of rfl (hts (.declares ⟨"java/lang/Exception", "<init>", "(Ljava/lang/String;)V"⟩) (by decide +kernel)), va_Nw.of rfl (hts (.declares ⟨"java/lang/Throwable", "<init>", "(Ljava/lang/String;)V"⟩) (by decide +kernel))⟩, ?_⟩
    intro q hq
    simp only [jj_strs, List.mem_cons, List.not_mem_nil, or_false] at hq
    rcases hq with rfl | rfl | rfl | rfl | rfl | rfl | rfl | rfl | rfl | rfl | rfl | rfl | rfl | rfl
    · exact ts_str (hts (.stringRef RX0 51 "there are 7 collectors") (by decide +kernel)) (hs _ (by decide +kernel))
    · exact ts_str (hts (.stringRef RX0 72 "no thimble is like this") (by decide +kernel)) (hs _ (by decide +kernel))
    · exact ts_str (hts (.stringRef RX0 78 "there are 36 thimbles") (by decide +kernel)) (hs _ (by decide +kernel))
    · exact ts_str (hts (.stringRef RX0 83 "a liking is 0 to 5") (by decide +kernel)) (hs _ (by decide +kernel))
    · exact ts_str (hts (.stringRef RX0 134 "a collector does not swap alone") (by decide +kernel)) (hs _ (by decide +kernel))
    · exact ts_str (hts (.stringRef RX0 142 "swaps are 1 to 10") (by decide +kernel)) (hs _ (by decide +kernel))
    · exact ts_str (hts (.stringRef RX0 148 "weeks are 1 to 30") (by decide +kernel)) (hs _ (by decide +kernel))
    · exact ts_str (hts (.stringRef RX0 173 "weeks are 1 to 60") (by decide +kernel)) (hs _ (by decide +kernel))
    · exact ts_str (hts (.stringRef RX0 209 "no such collector") (by decide +kernel)) (hs _ (by decide +kernel))
    · exact ts_str (hts (.stringRef RX0 212 "no such thimble") (by decide +kernel)) (hs _ (by decide +kernel))
    · exact ts_str (hts (.stringRef RX0 214 "a set is 0 to 7") (by decide +kernel)) (hs _ (by decide +kernel))
    · exact ts_str (hts (.stringRef RX0 216 "this is not told") (by decide +kernel)) (hs _ (by decide +kernel))
    · exact ts_str (hts (.stringRef RX0 218 "both belong to the same collector") (by decide +kernel)) (hs _ (by decide +kernel))
    · exact ts_str (hts (.stringRef RX0 224 "the thimble is lent") (by decide +kernel)) (hs _ (by decide +kernel))
  have hN : jj_XN s := ⟨va_Nc.of (hs (.not (.castable jj_IA jj_IO)) (by decide +kernel)), va_Nc.of (hs (.not (.castable jj_IS jj_IO)) (by decide +kernel)), va_Nc.of (hs (.not (.castable jj_IS jj_IA)) (by decide +kernel))⟩
  have hend : ∀ (ws : va_W) (lv : List (Nat × Value)), jj_J ((p, l, e, room_1), (s, m, #[Value.ref b], below, meth, c), ((dC, dI), fun q : Nat => s.heap.size ≤ q)) 601024 7293034 (lw_Z below #[Value.ref b] s) ws 1314 lv [.int (nI 1)] := by
    intro ws lv H locs ls hP hD hS hl
    refine va_forget (fun q hq => hS.2.2 q hq) ?_
    refine W.base ?_
    exact lw_ret (Drawn.sameBut.refl s.drawn lw_cs) hx hb hr hlocks dL_law_1314
  have J : jj_J ((p, l, e, room_1), (s, m, #[Value.ref b], below, meth, c), ((dC, dI), fun q : Nat => s.heap.size ≤ q)) 0 0 (lw_Z below #[Value.ref b] s) [] 0 [(0, .ref b)] [] := by
    generalize hE : (((p, l, e, room_1), (s, m, #[Value.ref b], below, meth, c), ((dC, dI), fun q : Nat => s.heap.size ≤ q)) : jj_E) = E at hend ⊢
    generalize lw_Z below #[Value.ref b] s = Q at hend ⊢
    have hC : jj_C cL_law 9 (some .boolean) wsL_law RL room_1 (ts_T c1 c2 c3) E := by
      rw [← hE]
      exact ⟨hx, hb, hml, hown, fun w hw => hts w (wsL_law_in w hw), hK, hA, hr, hlocks, rfl⟩
    have B9 : jj_L E b L xs c1 c2 c3 := ⟨hC, by rw [← hE]; exact hl, by rw [← hE]; exact hH, by rw [← hE]; exact hV, by rw [← hE]; exact hN, by rw [← hE]; exact hX, by rw [← hE]; exact hbl, by rw [← hE]; exact hA2 b hbl, hL⟩
    have hao2 : va_AOA .int E.2.1.1 := by rw [← hE]; exact hao
    refine jj_newo (ci := 0) (fs := [.int 0, .int 0, .int 0, .int 0, .int 0, .null, .null, .null, .null, .null, .null, .null, .null, .null, .null, .null, .int 0]) hC inlX0 tyX0_ok wl_1 wl_2 wl_3 rfl (fun j hj => by rcases (show j = 0 ∨ j = 1 ∨ j = 2 ∨ j = 3 ∨ j = 4 ∨ j = 5 ∨ j = 6 ∨ j = 7 ∨ j = 8 ∨ j = 9 ∨ j = 10 ∨ j = 11 ∨ j = 12 ∨ j = 13 ∨ j = 14 ∨ j = 15 ∨ j = 16 by omega) with rfl | rfl | rfl | rfl | rfl | rfl | rfl | rfl | rfl | rfl | rfl | rfl | rfl | rfl | rfl | rfl | rfl <;> rfl) ⟨by decide, by decide⟩ dL_law_0 (fun a0 => ?_)
    refine jj_dup hC dL_law_3 rfl ?_
    refine jj_calI (wr := []) hC hao2 (xm_init _ _ a0 c1 c2 c3) gL_law_X0_init rfl wl_3 wl_7 wl_8 rfl (by decide +kernel) ⟨by decide, by decide, by decide, by decide⟩ (Nat.le_of_ble_eq_true rfl) dL_law_4 (fun a ha => ?_)
    subst ha
    refine jj_astore_n hC dL_law_7 (by decide) [1, 0] (lv' := [(0, _), (1, .ref _)]) rfl ?_
    refine jj_newo (ci := 1) (fs := [.int 0, .int 0, .int 0, .null, .null, .null, .null, .null, .null]) hC inlX1 tyX1_ok wl_4 wl_5 wl_6 rfl (fun j hj => by rcases (show j = 0 ∨ j = 1 ∨ j = 2 ∨ j = 3 ∨ j = 4 ∨ j = 5 ∨ j = 6 ∨ j = 7 ∨ j = 8 by omega) with rfl | rfl | rfl | rfl | rfl | rfl | rfl | rfl | rfl <;> rfl) ⟨by decide, by decide⟩ dL_law_8 (fun b0 => ?_)
    refine jj_dup hC dL_law_11 rfl ?_
    refine jj_calI hC hao2 (mm_init _ _ b0 c1 c2 c3) gL_law_X1_init rfl wl_6 wl_9 wl_10 rfl (by decide +kernel) ⟨by decide, by decide, by decide, by decide⟩ (Nat.le_of_ble_eq_true rfl) dL_law_12 (fun bb hbb => ?_)
    subst hbb
    refine jj_astore_n hC dL_law_15 (by decide) [1, 2, 0] (lv' := [(0, _), (1, _), (2, .ref _)]) rfl ?_
    refine jj_iconst hC dL_law_16 (v := nI 1) (by decide) ?_
    refine jj_newaJ (N := 1) hC 2 rfl wl_11 (by decide) (by decide) (by decide) ⟨by decide, by decide⟩ dL_law_17 (fun o => ?_)
    refine jj_swapw ?_
    refine jj_astore_n hC dL_law_19 (by decide) [1, 2, 3, 0] (lv' := [(0, _), (1, _), (2, _), (3, .ref _)]) rfl ?_
    refine jj_iconst hC dL_law_20 (v := nI 0) (by decide) ?_
    refine jj_istore hC dL_law_21 (by decide) [1, 2, 3, 4, 0] (lv' := [(0, _), (1, _), (2, _), (3, _), (4, .int _)]) rfl ?_
    refine jj_widen (k' := 34 + 2 * 0) (n' := 826 + 13 * 0) (Nat.le_of_ble_eq_true rfl) (Nat.le_of_ble_eq_true rfl) ?_
    exact law_loop B9 a bb o hend 0 (Nat.zero_le _) ts_0 (fun _ => 0) 0 (fun _ => 0) 0 (fun _ => 0) ts_I_0
  have hl0 := lv_entry ([.ref b]) (n := 9) (Nat.le_of_ble_eq_true rfl)
  rw [lg_entry_eq]
  generalize (lg_sl ([.ref b]) ++ List.replicate (9 - (lg_sl ([.ref b])).length) Slot.unset).toArray = ls at hl0 ⊢
  exact J s.heap [] ls (fun k q h => by simp at h) ⟨fun i j p q h => by simp at h, fun k q h => by simp at h⟩ va_S.rf (by show lv_has ls c.maxLocals [(0, .ref b)]; rw [hml]; exact hl0)
