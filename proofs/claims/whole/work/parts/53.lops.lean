/-! ===== the law's loop: one call of both ===== -/
def jj_L (E : jj_E) (sb L : Nat) (xs : Nat → Int32) (c1 c2 c3 : ClassId) : Prop := jj_C cL_law 9 (some .boolean) wsL_law RL room_1 (ts_T c1 c2 c3) E ∧ E.1.2.1.stackTraces = false ∧ jj_XH E.2.2.2 E.2.1.1 E.2.1.1.heap ∧ jj_XV E.2.1.1 ∧ jj_XN E.2.1.1 ∧ va_X sb L xs E.2.1.1 E.2.1.1.heap ∧ sb < E.2.1.1.heap.size ∧ ¬ E.2.2.2 sb ∧ L ≤ 3072
set_option maxRecDepth 100000 in
set_option maxHeartbeats 4000000 in
theorem la_join {E : jj_E} {Q : State → Prop} {sb L : Nat} {xs : Nat → Int32} {c1 c2 c3 : ClassId} (B9 : jj_L E sb L xs c1 c2 c3) (a bb : Nat → Nat) (o : Nat) {v : ts_V} {g : Nat → Int32} {h : Int32} {y : Nat → Int64} {th : Int32} {z : Nat → Int32} (hI : ts_I v) {i kc ks : Nat} (hi : i + 6 ≤ L) (hR : kc + 2 ≤ 601024 ∧ ks + 13 ≤ 7293034) (hk : ∀ (v : ts_V) (g : Nat → Int32) (h : Int32) (y : Nat → Int64) (th : Int32) (z : Nat → Int32), ts_I v → jj_J E (kc + 2) (ks + 13) Q ((wx a c1 c2 v g h ++ ts_oa c3 o y) ++ wm bb c1 v th z) 1307 [(0, .ref sb), (1, .ref (a 0)), (2, .ref (bb 0)), (3, .ref o), (4, .int (nI i))] []) : jj_J E kc ks Q ((wx a c1 c2 v g h ++ ts_oa c3 o y) ++ wm bb c1 v th z) 132 [(0, .ref sb), (1, .ref (a 0)), (2, .ref (bb 0)), (3, .ref o), (4, .int (nI i))] [] := by
  obtain ⟨hC, hl, hH, hV, hN, hX, hbl, hbA, hL⟩ := id B9
  refine jj_aload_n hC dL_law_132 rfl ?_
  refine jj_aload_n hC dL_law_133 rfl ?_
  refine jj_scallwL hC hH hV hN (lm_join _ _ a c1 c2 c3 v g h o y hl hI ) gL_law_L_join rfl 2 (by decide +kernel) ⟨by decide, by decide, by show kc + 1 ≤ 601024; omega, by show ks + 6 ≤ 7293034; omega⟩ rfl rfl rfl (Nat.le_of_ble_eq_true rfl) dL_law_134 (fun r u hp => ?_)
  obtain ⟨⟨g2, h2⟩, y2⟩ := u
  obtain ⟨rfl, hy⟩ := hp
  refine jj_istore hC dL_law_137 (by decide) [1, 2, 3, 4, 5, 0] (lv' := [(0, _), (1, _), (2, _), (3, _), (4, _), (5, .int _)]) rfl ?_
  refine jj_aload_n hC dL_law_139 rfl ?_
  refine jj_calliR hC (mo_join _ _ bb c1 c2 c3 v th z hI ) gL_law_X1_join rfl 0 (by decide +kernel) ⟨by decide, by decide, by show kc + 1 + 0 ≤ 601024; omega, by show ks + 6 + 0 ≤ 7293034; omega⟩ 0 1 (by rfl) rfl rfl rfl rfl (Nat.le_of_ble_eq_true rfl) dL_law_140 (fun r u hp => ?_)
  obtain rfl := hp
  revert u
  intro z2
  refine jj_istore hC dL_law_143 (by decide) [1, 2, 3, 4, 5, 6, 0] (lv' := [(0, _), (1, _), (2, _), (3, _), (4, _), (5, _), (6, .int _)]) rfl ?_
  refine jj_aload_n hC dL_law_145 rfl ?_
  refine jj_calliR hC (mm_thrown _ _ bb c1 c2 c3 (ts_if (ts_req (decide (ts_k v < 7)) jj_IS) ((ts_jn v)) v) (ts_cd 0 0 1 (ts_req (decide (ts_k v < 7)) jj_IS)) z2) gL_law_X1_thrown rfl 0 (by decide +kernel) ⟨by decide, by decide, by show kc + 1 + 0 + 0 ≤ 601024; omega, by show ks + 6 + 0 + 0 ≤ 7293034; omega⟩ 0 1 (by rfl) rfl rfl rfl rfl (Nat.le_of_ble_eq_true rfl) dL_law_146 (fun r u hp => ?_)
  obtain rfl := hp
  refine jj_iload hC dL_law_149 rfl ?_
  refine jj_icmp_eqT hC dL_law_151 (tgt := 156) (by decide) rfl ?_
  refine jj_iload hC dL_law_156 rfl ?_
  rcases lz_join hI  with ⟨hoc, hI2⟩ | ⟨Ex, c, hoc, hc1, hc2, hcd⟩
  · skip
    refine jj_if_neF hC dL_law_158 (tgt := 173) (by decide) (by rw [hoc]; first | rfl | exact fun q => q rfl) ?_
    refine jj_aload_n hC dL_law_161 rfl ?_
    refine jj_iconst hC dL_law_162 (v := nI 0) (by decide) ?_
    refine jj_lald hC 26 2 dL_law_163 (ts_gL (ts_getapp (by rfl))) rfl (by decide) (by decide) ?_
    refine jj_iload hC dL_law_164 rfl ?_
    refine jj_i2l hC dL_law_166 ?_
    refine jj_lcmp hC dL_law_167 ?_
    refine jj_if_eqT hC dL_law_168 (tgt := 173) (by decide) (by rw [hy hoc, hoc]; exact ts_lcmp _) ?_
    refine jj_goto hC dL_law_173 (tgt := 1307) (by decide) ?_
    refine jj_widen (k' := kc + 2) (n' := ks + 13) (by show kc + 1 + 0 + 0 ≤ kc + 2; omega) (by show ks + 6 + 0 + 0 ≤ ks + 13; omega) ?_
    refine jj_sub [0, 1, 2, 3, 4] (lv' := [(0, _), (1, _), (2, _), (3, _), (4, _)]) rfl ?_
    exact hk _ _ _ _ _ _ (by rw [hoc]; exact hI2)
  · refine jj_if_neT hC dL_law_158 (tgt := 173) (by decide) (by rw [hcd]; exact nI_ne0 hc1 (by omega)) ?_
    refine jj_goto hC dL_law_173 (tgt := 1307) (by decide) ?_
    refine jj_widen (k' := kc + 2) (n' := ks + 13) (by show kc + 1 + 0 + 0 ≤ kc + 2; omega) (by show ks + 6 + 0 + 0 ≤ ks + 13; omega) ?_
    refine jj_sub [0, 1, 2, 3, 4] (lv' := [(0, _), (1, _), (2, _), (3, _), (4, _)]) rfl ?_
    exact hk _ _ _ _ _ _ (by rw [hoc]; exact hI)
set_option maxRecDepth 100000 in
set_option maxHeartbeats 4000000 in
theorem la_find {E : jj_E} {Q : State → Prop} {sb L : Nat} {xs : Nat → Int32} {c1 c2 c3 : ClassId} (B9 : jj_L E sb L xs c1 c2 c3) (a bb : Nat → Nat) (o : Nat) {v : ts_V} {g : Nat → Int32} {h : Int32} {y : Nat → Int64} {th : Int32} {z : Nat → Int32} (hI : ts_I v) {i kc ks : Nat} (hi : i + 6 ≤ L) (hR : kc + 2 ≤ 601024 ∧ ks + 13 ≤ 7293034) (hk : ∀ (v : ts_V) (g : Nat → Int32) (h : Int32) (y : Nat → Int64) (th : Int32) (z : Nat → Int32), ts_I v → jj_J E (kc + 2) (ks + 13) Q ((wx a c1 c2 v g h ++ ts_oa c3 o y) ++ wm bb c1 v th z) 1307 [(0, .ref sb), (1, .ref (a 0)), (2, .ref (bb 0)), (3, .ref o), (4, .int (nI i))] []) : jj_J E kc ks Q ((wx a c1 c2 v g h ++ ts_oa c3 o y) ++ wm bb c1 v th z) 176 [(0, .ref sb), (1, .ref (a 0)), (2, .ref (bb 0)), (3, .ref o), (4, .int (nI i))] [] := by
  obtain ⟨hC, hl, hH, hV, hN, hX, hbl, hbA, hL⟩ := id B9
  refine jj_aload_n hC dL_law_176 rfl ?_
  refine jj_aload_n hC dL_law_177 rfl ?_
  refine jj_iload hC dL_law_178 rfl ?_
  refine jj_iconst hC dL_law_180 (v := nI 1) (by decide) ?_
  refine jj_iaddN hC dL_law_181 ?_
  refine jj_sld hC hX hbl hbA (by omega) (by omega) dL_law_182 ?_
  refine jj_aload_n hC dL_law_183 rfl ?_
  refine jj_iload hC dL_law_184 rfl ?_
  refine jj_iconst hC dL_law_186 (v := nI 2) (by decide) ?_
  refine jj_iaddN hC dL_law_187 ?_
  refine jj_sld hC hX hbl hbA (by omega) (by omega) dL_law_188 ?_
  refine jj_aload_n hC dL_law_189 rfl ?_
  refine jj_iload hC dL_law_190 rfl ?_
  refine jj_iconst hC dL_law_192 (v := nI 3) (by decide) ?_
  refine jj_iaddN hC dL_law_193 ?_
  refine jj_sld hC hX hbl hbA (by omega) (by omega) dL_law_194 ?_
  refine jj_aload_n hC dL_law_195 rfl ?_
  refine jj_iload hC dL_law_196 rfl ?_
  refine jj_iconst hC dL_law_198 (v := nI 4) (by decide) ?_
  refine jj_iaddN hC dL_law_199 ?_
  refine jj_sld hC hX hbl hbA (by omega) (by omega) dL_law_200 ?_
  refine jj_aload_n hC dL_law_201 rfl ?_
  refine jj_iload hC dL_law_202 rfl ?_
  refine jj_iconst hC dL_law_204 (v := nI 5) (by decide) ?_
  refine jj_iaddN hC dL_law_205 ?_
  refine jj_sld hC hX hbl hbA (by omega) (by omega) dL_law_206 ?_
  refine jj_aload_n hC dL_law_207 rfl ?_
  refine jj_scallwL hC hH hV hN (lm_find _ _ a c1 c2 c3 v g h o y hl hI (xs (i + 1)) (xs (i + 2)) (xs (i + 3)) (xs (i + 4)) (xs (i + 5))) gL_law_L_find rfl 7 (by decide +kernel) ⟨by decide, by decide, by show kc + 1 ≤ 601024; omega, by show ks + 6 ≤ 7293034; omega⟩ rfl rfl rfl (Nat.le_of_ble_eq_true rfl) dL_law_208 (fun r u hp => ?_)
  obtain ⟨⟨g2, h2⟩, y2⟩ := u
  obtain ⟨rfl, hy⟩ := hp
  refine jj_istore hC dL_law_211 (by decide) [1, 2, 3, 4, 5, 0] (lv' := [(0, _), (1, _), (2, _), (3, _), (4, _), (5, .int _)]) rfl ?_
  refine jj_aload_n hC dL_law_213 rfl ?_
  refine jj_aload_n hC dL_law_214 rfl ?_
  refine jj_iload hC dL_law_215 rfl ?_
  refine jj_iconst hC dL_law_217 (v := nI 1) (by decide) ?_
  refine jj_iaddN hC dL_law_218 ?_
  refine jj_sld hC hX hbl hbA (by omega) (by omega) dL_law_219 ?_
  refine jj_aload_n hC dL_law_220 rfl ?_
  refine jj_iload hC dL_law_221 rfl ?_
  refine jj_iconst hC dL_law_223 (v := nI 2) (by decide) ?_
  refine jj_iaddN hC dL_law_224 ?_
  refine jj_sld hC hX hbl hbA (by omega) (by omega) dL_law_225 ?_
  refine jj_aload_n hC dL_law_226 rfl ?_
  refine jj_iload hC dL_law_227 rfl ?_
  refine jj_iconst hC dL_law_229 (v := nI 3) (by decide) ?_
  refine jj_iaddN hC dL_law_230 ?_
  refine jj_sld hC hX hbl hbA (by omega) (by omega) dL_law_231 ?_
  refine jj_aload_n hC dL_law_232 rfl ?_
  refine jj_iload hC dL_law_233 rfl ?_
  refine jj_iconst hC dL_law_235 (v := nI 4) (by decide) ?_
  refine jj_iaddN hC dL_law_236 ?_
  refine jj_sld hC hX hbl hbA (by omega) (by omega) dL_law_237 ?_
  refine jj_aload_n hC dL_law_238 rfl ?_
  refine jj_iload hC dL_law_239 rfl ?_
  refine jj_iconst hC dL_law_241 (v := nI 5) (by decide) ?_
  refine jj_iaddN hC dL_law_242 ?_
  refine jj_sld hC hX hbl hbA (by omega) (by omega) dL_law_243 ?_
  refine jj_calliR hC (mo_find _ _ bb c1 c2 c3 v th z hI (xs (i + 1)) (xs (i + 2)) (xs (i + 3)) (xs (i + 4)) (xs (i + 5))) gL_law_X1_find rfl 5 (by decide +kernel) ⟨by decide, by decide, by show kc + 1 + 1 ≤ 601024; omega, by show ks + 6 + 7 ≤ 7293034; omega⟩ 0 1 (by rfl) rfl rfl rfl rfl (Nat.le_of_ble_eq_true rfl) dL_law_244 (fun r u hp => ?_)
  obtain rfl := hp
  revert u
  intro z2
  refine jj_istore hC dL_law_247 (by decide) [1, 2, 3, 4, 5, 6, 0] (lv' := [(0, _), (1, _), (2, _), (3, _), (4, _), (5, _), (6, .int _)]) rfl ?_
  refine jj_aload_n hC dL_law_249 rfl ?_
  refine jj_calliR hC (mm_thrown _ _ bb c1 c2 c3 (ts_if (((ts_req (ts_in (xs (i + 1)) (ts_k v)) jj_IO).or (ts_req (ts_in (xs (i + 2)) 8 && (ts_in (xs (i + 3)) 6 && (ts_in (xs (i + 4)) 20 && ts_in (xs (i + 5)) 10))) jj_IA)).or (ts_req (decide (ts_n v < 36)) jj_IS)) ((ts_fd v (ts_N (xs (i + 1))) (ts_N (xs (i + 2))) (ts_N (xs (i + 3))) (ts_N (xs (i + 4))) (ts_N (xs (i + 5))))) v) (ts_cd 1 2 3 (((ts_req (ts_in (xs (i + 1)) (ts_k v)) jj_IO).or (ts_req (ts_in (xs (i + 2)) 8 && (ts_in (xs (i + 3)) 6 && (ts_in (xs (i + 4)) 20 && ts_in (xs (i + 5)) 10))) jj_IA)).or (ts_req (decide (ts_n v < 36)) jj_IS))) z2) gL_law_X1_thrown rfl 0 (by decide +kernel) ⟨by decide, by decide, by show kc + 1 + 1 + 0 ≤ 601024; omega, by show ks + 6 + 7 + 0 ≤ 7293034; omega⟩ 0 1 (by rfl) rfl rfl rfl rfl (Nat.le_of_ble_eq_true rfl) dL_law_250 (fun r u hp => ?_)
  obtain rfl := hp
  refine jj_iload hC dL_law_253 rfl ?_
  refine jj_icmp_eqT hC dL_law_255 (tgt := 260) (by decide) rfl ?_
  refine jj_iload hC dL_law_260 rfl ?_
  rcases lz_find hI (xs (i + 1)) (xs (i + 2)) (xs (i + 3)) (xs (i + 4)) (xs (i + 5)) with ⟨hoc, hI2⟩ | ⟨Ex, c, hoc, hc1, hc2, hcd⟩
  · skip
    refine jj_if_neF hC dL_law_262 (tgt := 277) (by decide) (by rw [hoc]; first | rfl | exact fun q => q rfl) ?_
    refine jj_aload_n hC dL_law_265 rfl ?_
    refine jj_iconst hC dL_law_266 (v := nI 0) (by decide) ?_
    refine jj_lald hC 26 2 dL_law_267 (ts_gL (ts_getapp (by rfl))) rfl (by decide) (by decide) ?_
    refine jj_iload hC dL_law_268 rfl ?_
    refine jj_i2l hC dL_law_270 ?_
    refine jj_lcmp hC dL_law_271 ?_
    refine jj_if_eqT hC dL_law_272 (tgt := 277) (by decide) (by rw [hy hoc, hoc]; exact ts_lcmp _) ?_
    refine jj_goto hC dL_law_277 (tgt := 1307) (by decide) ?_
    refine jj_widen (k' := kc + 2) (n' := ks + 13) (by show kc + 1 + 1 + 0 ≤ kc + 2; omega) (by show ks + 6 + 7 + 0 ≤ ks + 13; omega) ?_
    refine jj_sub [0, 1, 2, 3, 4] (lv' := [(0, _), (1, _), (2, _), (3, _), (4, _)]) rfl ?_
    exact hk _ _ _ _ _ _ (by rw [hoc]; exact hI2)
  · refine jj_if_neT hC dL_law_262 (tgt := 277) (by decide) (by rw [hcd]; exact nI_ne0 hc1 (by omega)) ?_
    refine jj_goto hC dL_law_277 (tgt := 1307) (by decide) ?_
    refine jj_widen (k' := kc + 2) (n' := ks + 13) (by show kc + 1 + 1 + 0 ≤ kc + 2; omega) (by show ks + 6 + 7 + 0 ≤ ks + 13; omega) ?_
    refine jj_sub [0, 1, 2, 3, 4] (lv' := [(0, _), (1, _), (2, _), (3, _), (4, _)]) rfl ?_
    exact hk _ _ _ _ _ _ (by rw [hoc]; exact hI)
set_option maxRecDepth 100000 in
set_option maxHeartbeats 4000000 in
theorem la_like {E : jj_E} {Q : State → Prop} {sb L : Nat} {xs : Nat → Int32} {c1 c2 c3 : ClassId} (B9 : jj_L E sb L xs c1 c2 c3) (a bb : Nat → Nat) (o : Nat) {v : ts_V} {g : Nat → Int32} {h : Int32} {y : Nat → Int64} {th : Int32} {z : Nat → Int32} (hI : ts_I v) {i kc ks : Nat} (hi : i + 6 ≤ L) (hR : kc + 2 ≤ 601024 ∧ ks + 13 ≤ 7293034) (hk : ∀ (v : ts_V) (g : Nat → Int32) (h : Int32) (y : Nat → Int64) (th : Int32) (z : Nat → Int32), ts_I v → jj_J E (kc + 2) (ks + 13) Q ((wx a c1 c2 v g h ++ ts_oa c3 o y) ++ wm bb c1 v th z) 1307 [(0, .ref sb), (1, .ref (a 0)), (2, .ref (bb 0)), (3, .ref o), (4, .int (nI i))] []) : jj_J E kc ks Q ((wx a c1 c2 v g h ++ ts_oa c3 o y) ++ wm bb c1 v th z) 280 [(0, .ref sb), (1, .ref (a 0)), (2, .ref (bb 0)), (3, .ref o), (4, .int (nI i))] [] := by
  obtain ⟨hC, hl, hH, hV, hN, hX, hbl, hbA, hL⟩ := id B9
  refine jj_aload_n hC dL_law_280 rfl ?_
  refine jj_aload_n hC dL_law_281 rfl ?_
  refine jj_iload hC dL_law_282 rfl ?_
  refine jj_iconst hC dL_law_284 (v := nI 1) (by decide) ?_
  refine jj_iaddN hC dL_law_285 ?_
  refine jj_sld hC hX hbl hbA (by omega) (by omega) dL_law_286 ?_
  refine jj_aload_n hC dL_law_287 rfl ?_
  refine jj_iload hC dL_law_288 rfl ?_
  refine jj_iconst hC dL_law_290 (v := nI 2) (by decide) ?_
  refine jj_iaddN hC dL_law_291 ?_
  refine jj_sld hC hX hbl hbA (by omega) (by omega) dL_law_292 ?_
  refine jj_aload_n hC dL_law_293 rfl ?_
  refine jj_iload hC dL_law_294 rfl ?_
  refine jj_iconst hC dL_law_296 (v := nI 3) (by decide) ?_
  refine jj_iaddN hC dL_law_297 ?_
  refine jj_sld hC hX hbl hbA (by omega) (by omega) dL_law_298 ?_
  refine jj_aload_n hC dL_law_299 rfl ?_
  refine jj_scallwL hC hH hV hN (lm_like _ _ a c1 c2 c3 v g h o y hl hI (xs (i + 1)) (xs (i + 2)) (xs (i + 3))) gL_law_L_like rfl 5 (by decide +kernel) ⟨by decide, by decide, by show kc + 1 ≤ 601024; omega, by show ks + 6 ≤ 7293034; omega⟩ rfl rfl rfl (Nat.le_of_ble_eq_true rfl) dL_law_300 (fun r u hp => ?_)
  obtain ⟨⟨g2, h2⟩, y2⟩ := u
  obtain ⟨rfl, hy⟩ := hp
  refine jj_istore hC dL_law_303 (by decide) [1, 2, 3, 4, 5, 0] (lv' := [(0, _), (1, _), (2, _), (3, _), (4, _), (5, .int _)]) rfl ?_
  refine jj_aload_n hC dL_law_305 rfl ?_
  refine jj_aload_n hC dL_law_306 rfl ?_
  refine jj_iload hC dL_law_307 rfl ?_
  refine jj_iconst hC dL_law_309 (v := nI 1) (by decide) ?_
  refine jj_iaddN hC dL_law_310 ?_
  refine jj_sld hC hX hbl hbA (by omega) (by omega) dL_law_311 ?_
  refine jj_aload_n hC dL_law_312 rfl ?_
  refine jj_iload hC dL_law_313 rfl ?_
  refine jj_iconst hC dL_law_315 (v := nI 2) (by decide) ?_
  refine jj_iaddN hC dL_law_316 ?_
  refine jj_sld hC hX hbl hbA (by omega) (by omega) dL_law_317 ?_
  refine jj_aload_n hC dL_law_318 rfl ?_
  refine jj_iload hC dL_law_319 rfl ?_
  refine jj_iconst hC dL_law_321 (v := nI 3) (by decide) ?_
  refine jj_iaddN hC dL_law_322 ?_
  refine jj_sld hC hX hbl hbA (by omega) (by omega) dL_law_323 ?_
  refine jj_calliR hC (mo_like _ _ bb c1 c2 c3 v th z hI (xs (i + 1)) (xs (i + 2)) (xs (i + 3))) gL_law_X1_like rfl 3 (by decide +kernel) ⟨by decide, by decide, by show kc + 1 + 0 ≤ 601024; omega, by show ks + 6 + 0 ≤ 7293034; omega⟩ 0 1 (by rfl) rfl rfl rfl rfl (Nat.le_of_ble_eq_true rfl) dL_law_324 (fun r u hp => ?_)
  obtain rfl := hp
  revert u
  intro z2
  refine jj_istore hC dL_law_327 (by decide) [1, 2, 3, 4, 5, 6, 0] (lv' := [(0, _), (1, _), (2, _), (3, _), (4, _), (5, _), (6, .int _)]) rfl ?_
  refine jj_aload_n hC dL_law_329 rfl ?_
  refine jj_calliR hC (mm_thrown _ _ bb c1 c2 c3 (ts_if (((ts_req (ts_in (xs (i + 1)) (ts_k v)) jj_IO).or (ts_req (ts_in (xs (i + 2)) 8) jj_IO)).or (ts_req (ts_in (xs (i + 3)) 6) jj_IA)) ((ts_li' v (ts_up2 (ts_li v) (ts_N (xs (i + 1))) (ts_N (xs (i + 2))) (ts_N (xs (i + 3)))))) v) (ts_cd 1 2 0 (((ts_req (ts_in (xs (i + 1)) (ts_k v)) jj_IO).or (ts_req (ts_in (xs (i + 2)) 8) jj_IO)).or (ts_req (ts_in (xs (i + 3)) 6) jj_IA))) z2) gL_law_X1_thrown rfl 0 (by decide +kernel) ⟨by decide, by decide, by show kc + 1 + 0 + 0 ≤ 601024; omega, by show ks + 6 + 0 + 0 ≤ 7293034; omega⟩ 0 1 (by rfl) rfl rfl rfl rfl (Nat.le_of_ble_eq_true rfl) dL_law_330 (fun r u hp => ?_)
  obtain rfl := hp
  refine jj_iload hC dL_law_333 rfl ?_
  refine jj_icmp_eqT hC dL_law_335 (tgt := 340) (by decide) rfl ?_
  refine jj_iload hC dL_law_340 rfl ?_
  rcases lz_like hI (xs (i + 1)) (xs (i + 2)) (xs (i + 3)) with ⟨hoc, hI2⟩ | ⟨Ex, c, hoc, hc1, hc2, hcd⟩
  · skip
    refine jj_if_neF hC dL_law_342 (tgt := 357) (by decide) (by rw [hoc]; first | rfl | exact fun q => q rfl) ?_
    refine jj_aload_n hC dL_law_345 rfl ?_
    refine jj_iconst hC dL_law_346 (v := nI 0) (by decide) ?_
    refine jj_lald hC 26 2 dL_law_347 (ts_gL (ts_getapp (by rfl))) rfl (by decide) (by decide) ?_
    refine jj_iload hC dL_law_348 rfl ?_
    refine jj_i2l hC dL_law_350 ?_
    refine jj_lcmp hC dL_law_351 ?_
    refine jj_if_eqT hC dL_law_352 (tgt := 357) (by decide) (by rw [hy hoc, hoc]; exact ts_lcmp _) ?_
    refine jj_goto hC dL_law_357 (tgt := 1307) (by decide) ?_
    refine jj_widen (k' := kc + 2) (n' := ks + 13) (by show kc + 1 + 0 + 0 ≤ kc + 2; omega) (by show ks + 6 + 0 + 0 ≤ ks + 13; omega) ?_
    refine jj_sub [0, 1, 2, 3, 4] (lv' := [(0, _), (1, _), (2, _), (3, _), (4, _)]) rfl ?_
    exact hk _ _ _ _ _ _ (by rw [hoc]; exact hI2)
  · refine jj_if_neT hC dL_law_342 (tgt := 357) (by decide) (by rw [hcd]; exact nI_ne0 hc1 (by omega)) ?_
    refine jj_goto hC dL_law_357 (tgt := 1307) (by decide) ?_
    refine jj_widen (k' := kc + 2) (n' := ks + 13) (by show kc + 1 + 0 + 0 ≤ kc + 2; omega) (by show ks + 6 + 0 + 0 ≤ ks + 13; omega) ?_
    refine jj_sub [0, 1, 2, 3, 4] (lv' := [(0, _), (1, _), (2, _), (3, _), (4, _)]) rfl ?_
    exact hk _ _ _ _ _ _ (by rw [hoc]; exact hI)
set_option maxRecDepth 100000 in
set_option maxHeartbeats 4000000 in
theorem la_collector {E : jj_E} {Q : State → Prop} {sb L : Nat} {xs : Nat → Int32} {c1 c2 c3 : ClassId} (B9 : jj_L E sb L xs c1 c2 c3) (a bb : Nat → Nat) (o : Nat) {v : ts_V} {g : Nat → Int32} {h : Int32} {y : Nat → Int64} {th : Int32} {z : Nat → Int32} (hI : ts_I v) {i kc ks : Nat} (hi : i + 6 ≤ L) (hR : kc + 2 ≤ 601024 ∧ ks + 13 ≤ 7293034) (hk : ∀ (v : ts_V) (g : Nat → Int32) (h : Int32) (y : Nat → Int64) (th : Int32) (z : Nat → Int32), ts_I v → jj_J E (kc + 2) (ks + 13) Q ((wx a c1 c2 v g h ++ ts_oa c3 o y) ++ wm bb c1 v th z) 1307 [(0, .ref sb), (1, .ref (a 0)), (2, .ref (bb 0)), (3, .ref o), (4, .int (nI i))] []) : jj_J E kc ks Q ((wx a c1 c2 v g h ++ ts_oa c3 o y) ++ wm bb c1 v th z) 360 [(0, .ref sb), (1, .ref (a 0)), (2, .ref (bb 0)), (3, .ref o), (4, .int (nI i))] [] := by
  obtain ⟨hC, hl, hH, hV, hN, hX, hbl, hbA, hL⟩ := id B9
  refine jj_aload_n hC dL_law_360 rfl ?_
  refine jj_aload_n hC dL_law_361 rfl ?_
  refine jj_iload hC dL_law_362 rfl ?_
  refine jj_iconst hC dL_law_364 (v := nI 1) (by decide) ?_
  refine jj_iaddN hC dL_law_365 ?_
  refine jj_sld hC hX hbl hbA (by omega) (by omega) dL_law_366 ?_
  refine jj_aload_n hC dL_law_367 rfl ?_
  refine jj_iload hC dL_law_368 rfl ?_
  refine jj_iconst hC dL_law_370 (v := nI 2) (by decide) ?_
  refine jj_iaddN hC dL_law_371 ?_
  refine jj_sld hC hX hbl hbA (by omega) (by omega) dL_law_372 ?_
  refine jj_aload_n hC dL_law_373 rfl ?_
  refine jj_scallwL hC hH hV hN (lm_collector _ _ a c1 c2 c3 v g h o y hl hI (xs (i + 1)) (xs (i + 2))) gL_law_L_collector rfl 4 (by decide +kernel) ⟨by decide, by decide, by show kc + 1 ≤ 601024; omega, by show ks + 6 ≤ 7293034; omega⟩ rfl rfl rfl (Nat.le_of_ble_eq_true rfl) dL_law_374 (fun r u hp => ?_)
  obtain ⟨⟨g2, h2⟩, y2⟩ := u
  obtain ⟨rfl, hy⟩ := hp
  refine jj_istore hC dL_law_377 (by decide) [1, 2, 3, 4, 5, 0] (lv' := [(0, _), (1, _), (2, _), (3, _), (4, _), (5, .int _)]) rfl ?_
  refine jj_aload_n hC dL_law_379 rfl ?_
  refine jj_aload_n hC dL_law_380 rfl ?_
  refine jj_iload hC dL_law_381 rfl ?_
  refine jj_iconst hC dL_law_383 (v := nI 1) (by decide) ?_
  refine jj_iaddN hC dL_law_384 ?_
  refine jj_sld hC hX hbl hbA (by omega) (by omega) dL_law_385 ?_
  refine jj_aload_n hC dL_law_386 rfl ?_
  refine jj_iload hC dL_law_387 rfl ?_
  refine jj_iconst hC dL_law_389 (v := nI 2) (by decide) ?_
  refine jj_iaddN hC dL_law_390 ?_
  refine jj_sld hC hX hbl hbA (by omega) (by omega) dL_law_391 ?_
  refine jj_calliR hC (mo_collector _ _ bb c1 c2 c3 v th z hI (xs (i + 1)) (xs (i + 2))) gL_law_X1_collector rfl 2 (by decide +kernel) ⟨by decide, by decide, by show kc + 1 + 0 ≤ 601024; omega, by show ks + 6 + 0 ≤ 7293034; omega⟩ 0 1 (by rfl) rfl rfl rfl rfl (Nat.le_of_ble_eq_true rfl) dL_law_392 (fun r u hp => ?_)
  obtain rfl := hp
  revert u
  intro z2
  refine jj_istore hC dL_law_395 (by decide) [1, 2, 3, 4, 5, 6, 0] (lv' := [(0, _), (1, _), (2, _), (3, _), (4, _), (5, _), (6, .int _)]) rfl ?_
  refine jj_aload_n hC dL_law_397 rfl ?_
  refine jj_calliR hC (mm_thrown _ _ bb c1 c2 c3 (ts_if ((ts_req (ts_in (xs (i + 1)) (ts_k v)) jj_IO).or (ts_req (ts_in (xs (i + 2)) 7) jj_IO)) (v) v) (ts_cd 1 0 0 ((ts_req (ts_in (xs (i + 1)) (ts_k v)) jj_IO).or (ts_req (ts_in (xs (i + 2)) 7) jj_IO))) z2) gL_law_X1_thrown rfl 0 (by decide +kernel) ⟨by decide, by decide, by show kc + 1 + 0 + 0 ≤ 601024; omega, by show ks + 6 + 0 + 0 ≤ 7293034; omega⟩ 0 1 (by rfl) rfl rfl rfl rfl (Nat.le_of_ble_eq_true rfl) dL_law_398 (fun r u hp => ?_)
  obtain rfl := hp
  refine jj_iload hC dL_law_401 rfl ?_
  refine jj_icmp_eqT hC dL_law_403 (tgt := 408) (by decide) rfl ?_
  refine jj_iload hC dL_law_408 rfl ?_
  rcases lz_collector hI (xs (i + 1)) (xs (i + 2)) with ⟨hoc, hI2⟩ | ⟨Ex, c, hoc, hc1, hc2, hcd⟩
  · skip
    refine jj_if_neF hC dL_law_410 (tgt := 425) (by decide) (by rw [hoc]; first | rfl | exact fun q => q rfl) ?_
    refine jj_aload_n hC dL_law_413 rfl ?_
    refine jj_iconst hC dL_law_414 (v := nI 0) (by decide) ?_
    refine jj_lald hC 26 2 dL_law_415 (ts_gL (ts_getapp (by rfl))) rfl (by decide) (by decide) ?_
    refine jj_iload hC dL_law_416 rfl ?_
    refine jj_i2l hC dL_law_418 ?_
    refine jj_lcmp hC dL_law_419 ?_
    refine jj_if_eqT hC dL_law_420 (tgt := 425) (by decide) (by rw [hy hoc, hoc]; exact ts_lcmp _) ?_
    refine jj_goto hC dL_law_425 (tgt := 1307) (by decide) ?_
    refine jj_widen (k' := kc + 2) (n' := ks + 13) (by show kc + 1 + 0 + 0 ≤ kc + 2; omega) (by show ks + 6 + 0 + 0 ≤ ks + 13; omega) ?_
    refine jj_sub [0, 1, 2, 3, 4] (lv' := [(0, _), (1, _), (2, _), (3, _), (4, _)]) rfl ?_
    exact hk _ _ _ _ _ _ (by rw [hoc]; exact hI2)
  · refine jj_if_neT hC dL_law_410 (tgt := 425) (by decide) (by rw [hcd]; exact nI_ne0 hc1 (by omega)) ?_
    refine jj_goto hC dL_law_425 (tgt := 1307) (by decide) ?_
    refine jj_widen (k' := kc + 2) (n' := ks + 13) (by show kc + 1 + 0 + 0 ≤ kc + 2; omega) (by show ks + 6 + 0 + 0 ≤ ks + 13; omega) ?_
    refine jj_sub [0, 1, 2, 3, 4] (lv' := [(0, _), (1, _), (2, _), (3, _), (4, _)]) rfl ?_
    exact hk _ _ _ _ _ _ (by rw [hoc]; exact hI)
set_option maxRecDepth 100000 in
set_option maxHeartbeats 4000000 in
theorem la_grudge {E : jj_E} {Q : State → Prop} {sb L : Nat} {xs : Nat → Int32} {c1 c2 c3 : ClassId} (B9 : jj_L E sb L xs c1 c2 c3) (a bb : Nat → Nat) (o : Nat) {v : ts_V} {g : Nat → Int32} {h : Int32} {y : Nat → Int64} {th : Int32} {z : Nat → Int32} (hI : ts_I v) {i kc ks : Nat} (hi : i + 6 ≤ L) (hR : kc + 2 ≤ 601024 ∧ ks + 13 ≤ 7293034) (hk : ∀ (v : ts_V) (g : Nat → Int32) (h : Int32) (y : Nat → Int64) (th : Int32) (z : Nat → Int32), ts_I v → jj_J E (kc + 2) (ks + 13) Q ((wx a c1 c2 v g h ++ ts_oa c3 o y) ++ wm bb c1 v th z) 1307 [(0, .ref sb), (1, .ref (a 0)), (2, .ref (bb 0)), (3, .ref o), (4, .int (nI i))] []) : jj_J E kc ks Q ((wx a c1 c2 v g h ++ ts_oa c3 o y) ++ wm bb c1 v th z) 428 [(0, .ref sb), (1, .ref (a 0)), (2, .ref (bb 0)), (3, .ref o), (4, .int (nI i))] [] := by
  obtain ⟨hC, hl, hH, hV, hN, hX, hbl, hbA, hL⟩ := id B9
  refine jj_aload_n hC dL_law_428 rfl ?_
  refine jj_aload_n hC dL_law_429 rfl ?_
  refine jj_iload hC dL_law_430 rfl ?_
  refine jj_iconst hC dL_law_432 (v := nI 1) (by decide) ?_
  refine jj_iaddN hC dL_law_433 ?_
  refine jj_sld hC hX hbl hbA (by omega) (by omega) dL_law_434 ?_
  refine jj_aload_n hC dL_law_435 rfl ?_
  refine jj_iload hC dL_law_436 rfl ?_
  refine jj_iconst hC dL_law_438 (v := nI 2) (by decide) ?_
  refine jj_iaddN hC dL_law_439 ?_
  refine jj_sld hC hX hbl hbA (by omega) (by omega) dL_law_440 ?_
  refine jj_aload_n hC dL_law_441 rfl ?_
  refine jj_scallwL hC hH hV hN (lm_grudge _ _ a c1 c2 c3 v g h o y hl hI (xs (i + 1)) (xs (i + 2))) gL_law_L_grudge rfl 4 (by decide +kernel) ⟨by decide, by decide, by show kc + 1 ≤ 601024; omega, by show ks + 6 ≤ 7293034; omega⟩ rfl rfl rfl (Nat.le_of_ble_eq_true rfl) dL_law_442 (fun r u hp => ?_)
  obtain ⟨⟨g2, h2⟩, y2⟩ := u
  obtain ⟨rfl, hy⟩ := hp
  refine jj_istore hC dL_law_445 (by decide) [1, 2, 3, 4, 5, 0] (lv' := [(0, _), (1, _), (2, _), (3, _), (4, _), (5, .int _)]) rfl ?_
  refine jj_aload_n hC dL_law_447 rfl ?_
  refine jj_aload_n hC dL_law_448 rfl ?_
  refine jj_iload hC dL_law_449 rfl ?_
  refine jj_iconst hC dL_law_451 (v := nI 1) (by decide) ?_
  refine jj_iaddN hC dL_law_452 ?_
  refine jj_sld hC hX hbl hbA (by omega) (by omega) dL_law_453 ?_
  refine jj_aload_n hC dL_law_454 rfl ?_
  refine jj_iload hC dL_law_455 rfl ?_
  refine jj_iconst hC dL_law_457 (v := nI 2) (by decide) ?_
  refine jj_iaddN hC dL_law_458 ?_
  refine jj_sld hC hX hbl hbA (by omega) (by omega) dL_law_459 ?_
  refine jj_calliR hC (mo_grudge _ _ bb c1 c2 c3 v th z hI (xs (i + 1)) (xs (i + 2))) gL_law_X1_grudge rfl 2 (by decide +kernel) ⟨by decide, by decide, by show kc + 1 + 0 ≤ 601024; omega, by show ks + 6 + 0 ≤ 7293034; omega⟩ 0 1 (by rfl) rfl rfl rfl rfl (Nat.le_of_ble_eq_true rfl) dL_law_460 (fun r u hp => ?_)
  obtain rfl := hp
  revert u
  intro z2
  refine jj_istore hC dL_law_463 (by decide) [1, 2, 3, 4, 5, 6, 0] (lv' := [(0, _), (1, _), (2, _), (3, _), (4, _), (5, _), (6, .int _)]) rfl ?_
  refine jj_aload_n hC dL_law_465 rfl ?_
  refine jj_calliR hC (mm_thrown _ _ bb c1 c2 c3 (ts_if ((ts_req (ts_in (xs (i + 1)) (ts_k v)) jj_IO).or (ts_req (ts_in (xs (i + 2)) (ts_k v)) jj_IO)) (v) v) (ts_cd 1 0 0 ((ts_req (ts_in (xs (i + 1)) (ts_k v)) jj_IO).or (ts_req (ts_in (xs (i + 2)) (ts_k v)) jj_IO))) z2) gL_law_X1_thrown rfl 0 (by decide +kernel) ⟨by decide, by decide, by show kc + 1 + 0 + 0 ≤ 601024; omega, by show ks + 6 + 0 + 0 ≤ 7293034; omega⟩ 0 1 (by rfl) rfl rfl rfl rfl (Nat.le_of_ble_eq_true rfl) dL_law_466 (fun r u hp => ?_)
  obtain rfl := hp
  refine jj_iload hC dL_law_469 rfl ?_
  refine jj_icmp_eqT hC dL_law_471 (tgt := 476) (by decide) rfl ?_
  refine jj_iload hC dL_law_476 rfl ?_
  rcases lz_grudge hI (xs (i + 1)) (xs (i + 2)) with ⟨hoc, hI2⟩ | ⟨Ex, c, hoc, hc1, hc2, hcd⟩
  · skip
    refine jj_if_neF hC dL_law_478 (tgt := 493) (by decide) (by rw [hoc]; first | rfl | exact fun q => q rfl) ?_
    refine jj_aload_n hC dL_law_481 rfl ?_
    refine jj_iconst hC dL_law_482 (v := nI 0) (by decide) ?_
    refine jj_lald hC 26 2 dL_law_483 (ts_gL (ts_getapp (by rfl))) rfl (by decide) (by decide) ?_
    refine jj_iload hC dL_law_484 rfl ?_
    refine jj_i2l hC dL_law_486 ?_
    refine jj_lcmp hC dL_law_487 ?_
    refine jj_if_eqT hC dL_law_488 (tgt := 493) (by decide) (by rw [hy hoc, hoc]; exact ts_lcmp _) ?_
    refine jj_goto hC dL_law_493 (tgt := 1307) (by decide) ?_
    refine jj_widen (k' := kc + 2) (n' := ks + 13) (by show kc + 1 + 0 + 0 ≤ kc + 2; omega) (by show ks + 6 + 0 + 0 ≤ ks + 13; omega) ?_
    refine jj_sub [0, 1, 2, 3, 4] (lv' := [(0, _), (1, _), (2, _), (3, _), (4, _)]) rfl ?_
    exact hk _ _ _ _ _ _ (by rw [hoc]; exact hI2)
  · refine jj_if_neT hC dL_law_478 (tgt := 493) (by decide) (by rw [hcd]; exact nI_ne0 hc1 (by omega)) ?_
    refine jj_goto hC dL_law_493 (tgt := 1307) (by decide) ?_
    refine jj_widen (k' := kc + 2) (n' := ks + 13) (by show kc + 1 + 0 + 0 ≤ kc + 2; omega) (by show ks + 6 + 0 + 0 ≤ ks + 13; omega) ?_
    refine jj_sub [0, 1, 2, 3, 4] (lv' := [(0, _), (1, _), (2, _), (3, _), (4, _)]) rfl ?_
    exact hk _ _ _ _ _ _ (by rw [hoc]; exact hI)
set_option maxRecDepth 100000 in
set_option maxHeartbeats 4000000 in
theorem la_thimble {E : jj_E} {Q : State → Prop} {sb L : Nat} {xs : Nat → Int32} {c1 c2 c3 : ClassId} (B9 : jj_L E sb L xs c1 c2 c3) (a bb : Nat → Nat) (o : Nat) {v : ts_V} {g : Nat → Int32} {h : Int32} {y : Nat → Int64} {th : Int32} {z : Nat → Int32} (hI : ts_I v) {i kc ks : Nat} (hi : i + 6 ≤ L) (hR : kc + 2 ≤ 601024 ∧ ks + 13 ≤ 7293034) (hk : ∀ (v : ts_V) (g : Nat → Int32) (h : Int32) (y : Nat → Int64) (th : Int32) (z : Nat → Int32), ts_I v → jj_J E (kc + 2) (ks + 13) Q ((wx a c1 c2 v g h ++ ts_oa c3 o y) ++ wm bb c1 v th z) 1307 [(0, .ref sb), (1, .ref (a 0)), (2, .ref (bb 0)), (3, .ref o), (4, .int (nI i))] []) : jj_J E kc ks Q ((wx a c1 c2 v g h ++ ts_oa c3 o y) ++ wm bb c1 v th z) 496 [(0, .ref sb), (1, .ref (a 0)), (2, .ref (bb 0)), (3, .ref o), (4, .int (nI i))] [] := by
  obtain ⟨hC, hl, hH, hV, hN, hX, hbl, hbA, hL⟩ := id B9
  refine jj_aload_n hC dL_law_496 rfl ?_
  refine jj_aload_n hC dL_law_497 rfl ?_
  refine jj_iload hC dL_law_498 rfl ?_
  refine jj_iconst hC dL_law_500 (v := nI 1) (by decide) ?_
  refine jj_iaddN hC dL_law_501 ?_
  refine jj_sld hC hX hbl hbA (by omega) (by omega) dL_law_502 ?_
  refine jj_aload_n hC dL_law_503 rfl ?_
  refine jj_iload hC dL_law_504 rfl ?_
  refine jj_iconst hC dL_law_506 (v := nI 2) (by decide) ?_
  refine jj_iaddN hC dL_law_507 ?_
  refine jj_sld hC hX hbl hbA (by omega) (by omega) dL_law_508 ?_
  refine jj_aload_n hC dL_law_509 rfl ?_
  refine jj_scallwL hC hH hV hN (lm_thimble _ _ a c1 c2 c3 v g h o y hl hI (xs (i + 1)) (xs (i + 2))) gL_law_L_thimble rfl 4 (by decide +kernel) ⟨by decide, by decide, by show kc + 1 ≤ 601024; omega, by show ks + 6 ≤ 7293034; omega⟩ rfl rfl rfl (Nat.le_of_ble_eq_true rfl) dL_law_510 (fun r u hp => ?_)
  obtain ⟨⟨g2, h2⟩, y2⟩ := u
  obtain ⟨rfl, hy⟩ := hp
  refine jj_istore hC dL_law_513 (by decide) [1, 2, 3, 4, 5, 0] (lv' := [(0, _), (1, _), (2, _), (3, _), (4, _), (5, .int _)]) rfl ?_
  refine jj_aload_n hC dL_law_515 rfl ?_
  refine jj_aload_n hC dL_law_516 rfl ?_
  refine jj_iload hC dL_law_517 rfl ?_
  refine jj_iconst hC dL_law_519 (v := nI 1) (by decide) ?_
  refine jj_iaddN hC dL_law_520 ?_
  refine jj_sld hC hX hbl hbA (by omega) (by omega) dL_law_521 ?_
  refine jj_aload_n hC dL_law_522 rfl ?_
  refine jj_iload hC dL_law_523 rfl ?_
  refine jj_iconst hC dL_law_525 (v := nI 2) (by decide) ?_
  refine jj_iaddN hC dL_law_526 ?_
  refine jj_sld hC hX hbl hbA (by omega) (by omega) dL_law_527 ?_
  refine jj_calliR hC (mo_thimble _ _ bb c1 c2 c3 v th z hI (xs (i + 1)) (xs (i + 2))) gL_law_X1_thimble rfl 2 (by decide +kernel) ⟨by decide, by decide, by show kc + 1 + 0 ≤ 601024; omega, by show ks + 6 + 0 ≤ 7293034; omega⟩ 0 1 (by rfl) rfl rfl rfl rfl (Nat.le_of_ble_eq_true rfl) dL_law_528 (fun r u hp => ?_)
  obtain rfl := hp
  revert u
  intro z2
  refine jj_istore hC dL_law_531 (by decide) [1, 2, 3, 4, 5, 6, 0] (lv' := [(0, _), (1, _), (2, _), (3, _), (4, _), (5, _), (6, .int _)]) rfl ?_
  refine jj_aload_n hC dL_law_533 rfl ?_
  refine jj_calliR hC (mm_thrown _ _ bb c1 c2 c3 (ts_if ((ts_req (ts_in (xs (i + 1)) (ts_n v)) jj_IO).or (ts_req (ts_in (xs (i + 2)) 6) jj_IO)) (v) v) (ts_cd 1 0 0 ((ts_req (ts_in (xs (i + 1)) (ts_n v)) jj_IO).or (ts_req (ts_in (xs (i + 2)) 6) jj_IO))) z2) gL_law_X1_thrown rfl 0 (by decide +kernel) ⟨by decide, by decide, by show kc + 1 + 0 + 0 ≤ 601024; omega, by show ks + 6 + 0 + 0 ≤ 7293034; omega⟩ 0 1 (by rfl) rfl rfl rfl rfl (Nat.le_of_ble_eq_true rfl) dL_law_534 (fun r u hp => ?_)
  obtain rfl := hp
  refine jj_iload hC dL_law_537 rfl ?_
  refine jj_icmp_eqT hC dL_law_539 (tgt := 544) (by decide) rfl ?_
  refine jj_iload hC dL_law_544 rfl ?_
  rcases lz_thimble hI (xs (i + 1)) (xs (i + 2)) with ⟨hoc, hI2⟩ | ⟨Ex, c, hoc, hc1, hc2, hcd⟩
  · skip
    refine jj_if_neF hC dL_law_546 (tgt := 561) (by decide) (by rw [hoc]; first | rfl | exact fun q => q rfl) ?_
    refine jj_aload_n hC dL_law_549 rfl ?_
    refine jj_iconst hC dL_law_550 (v := nI 0) (by decide) ?_
    refine jj_lald hC 26 2 dL_law_551 (ts_gL (ts_getapp (by rfl))) rfl (by decide) (by decide) ?_
    refine jj_iload hC dL_law_552 rfl ?_
    refine jj_i2l hC dL_law_554 ?_
    refine jj_lcmp hC dL_law_555 ?_
    refine jj_if_eqT hC dL_law_556 (tgt := 561) (by decide) (by rw [hy hoc, hoc]; exact ts_lcmp _) ?_
    refine jj_goto hC dL_law_561 (tgt := 1307) (by decide) ?_
    refine jj_widen (k' := kc + 2) (n' := ks + 13) (by show kc + 1 + 0 + 0 ≤ kc + 2; omega) (by show ks + 6 + 0 + 0 ≤ ks + 13; omega) ?_
    refine jj_sub [0, 1, 2, 3, 4] (lv' := [(0, _), (1, _), (2, _), (3, _), (4, _)]) rfl ?_
    exact hk _ _ _ _ _ _ (by rw [hoc]; exact hI2)
  · refine jj_if_neT hC dL_law_546 (tgt := 561) (by decide) (by rw [hcd]; exact nI_ne0 hc1 (by omega)) ?_
    refine jj_goto hC dL_law_561 (tgt := 1307) (by decide) ?_
    refine jj_widen (k' := kc + 2) (n' := ks + 13) (by show kc + 1 + 0 + 0 ≤ kc + 2; omega) (by show ks + 6 + 0 + 0 ≤ ks + 13; omega) ?_
    refine jj_sub [0, 1, 2, 3, 4] (lv' := [(0, _), (1, _), (2, _), (3, _), (4, _)]) rfl ?_
    exact hk _ _ _ _ _ _ (by rw [hoc]; exact hI)
set_option maxRecDepth 100000 in
set_option maxHeartbeats 4000000 in
theorem la_gains {E : jj_E} {Q : State → Prop} {sb L : Nat} {xs : Nat → Int32} {c1 c2 c3 : ClassId} (B9 : jj_L E sb L xs c1 c2 c3) (a bb : Nat → Nat) (o : Nat) {v : ts_V} {g : Nat → Int32} {h : Int32} {y : Nat → Int64} {th : Int32} {z : Nat → Int32} (hI : ts_I v) {i kc ks : Nat} (hi : i + 6 ≤ L) (hR : kc + 2 ≤ 601024 ∧ ks + 13 ≤ 7293034) (hk : ∀ (v : ts_V) (g : Nat → Int32) (h : Int32) (y : Nat → Int64) (th : Int32) (z : Nat → Int32), ts_I v → jj_J E (kc + 2) (ks + 13) Q ((wx a c1 c2 v g h ++ ts_oa c3 o y) ++ wm bb c1 v th z) 1307 [(0, .ref sb), (1, .ref (a 0)), (2, .ref (bb 0)), (3, .ref o), (4, .int (nI i))] []) : jj_J E kc ks Q ((wx a c1 c2 v g h ++ ts_oa c3 o y) ++ wm bb c1 v th z) 564 [(0, .ref sb), (1, .ref (a 0)), (2, .ref (bb 0)), (3, .ref o), (4, .int (nI i))] [] := by
  obtain ⟨hC, hl, hH, hV, hN, hX, hbl, hbA, hL⟩ := id B9
  refine jj_aload_n hC dL_law_564 rfl ?_
  refine jj_aload_n hC dL_law_565 rfl ?_
  refine jj_iload hC dL_law_566 rfl ?_
  refine jj_iconst hC dL_law_568 (v := nI 1) (by decide) ?_
  refine jj_iaddN hC dL_law_569 ?_
  refine jj_sld hC hX hbl hbA (by omega) (by omega) dL_law_570 ?_
  refine jj_aload_n hC dL_law_571 rfl ?_
  refine jj_iload hC dL_law_572 rfl ?_
  refine jj_iconst hC dL_law_574 (v := nI 2) (by decide) ?_
  refine jj_iaddN hC dL_law_575 ?_
  refine jj_sld hC hX hbl hbA (by omega) (by omega) dL_law_576 ?_
  refine jj_aload_n hC dL_law_577 rfl ?_
  refine jj_scallwL hC hH hV hN (lm_gains _ _ a c1 c2 c3 v g h o y hl hI (xs (i + 1)) (xs (i + 2))) gL_law_L_gains rfl 4 (by decide +kernel) ⟨by decide, by decide, by show kc + 1 ≤ 601024; omega, by show ks + 6 ≤ 7293034; omega⟩ rfl rfl rfl (Nat.le_of_ble_eq_true rfl) dL_law_578 (fun r u hp => ?_)
  obtain ⟨⟨g2, h2⟩, y2⟩ := u
  obtain ⟨rfl, hy⟩ := hp
  refine jj_istore hC dL_law_581 (by decide) [1, 2, 3, 4, 5, 0] (lv' := [(0, _), (1, _), (2, _), (3, _), (4, _), (5, .int _)]) rfl ?_
  refine jj_aload_n hC dL_law_583 rfl ?_
  refine jj_aload_n hC dL_law_584 rfl ?_
  refine jj_iload hC dL_law_585 rfl ?_
  refine jj_iconst hC dL_law_587 (v := nI 1) (by decide) ?_
  refine jj_iaddN hC dL_law_588 ?_
  refine jj_sld hC hX hbl hbA (by omega) (by omega) dL_law_589 ?_
  refine jj_aload_n hC dL_law_590 rfl ?_
  refine jj_iload hC dL_law_591 rfl ?_
  refine jj_iconst hC dL_law_593 (v := nI 2) (by decide) ?_
  refine jj_iaddN hC dL_law_594 ?_
  refine jj_sld hC hX hbl hbA (by omega) (by omega) dL_law_595 ?_
  refine jj_calliR hC (mo_gains _ _ bb c1 c2 c3 v th z hI (xs (i + 1)) (xs (i + 2))) gL_law_X1_gains rfl 2 (by decide +kernel) ⟨by decide, by decide, by show kc + 1 + 0 ≤ 601024; omega, by show ks + 6 + 0 ≤ 7293034; omega⟩ 0 1 (by rfl) rfl rfl rfl rfl (Nat.le_of_ble_eq_true rfl) dL_law_596 (fun r u hp => ?_)
  obtain rfl := hp
  revert u
  intro z2
  refine jj_istore hC dL_law_599 (by decide) [1, 2, 3, 4, 5, 6, 0] (lv' := [(0, _), (1, _), (2, _), (3, _), (4, _), (5, _), (6, .int _)]) rfl ?_
  refine jj_aload_n hC dL_law_601 rfl ?_
  refine jj_calliR hC (mm_thrown _ _ bb c1 c2 c3 (ts_if (((ts_req (ts_in (xs (i + 1)) (ts_n v)) jj_IO).or (ts_req (ts_in (xs (i + 2)) (ts_n v)) jj_IO)).or (ts_req (decide (¬ ts_ow v (ts_N (xs (i + 1))) = ts_ow v (ts_N (xs (i + 2))))) jj_IA)) (v) v) (ts_cd 1 2 0 (((ts_req (ts_in (xs (i + 1)) (ts_n v)) jj_IO).or (ts_req (ts_in (xs (i + 2)) (ts_n v)) jj_IO)).or (ts_req (decide (¬ ts_ow v (ts_N (xs (i + 1))) = ts_ow v (ts_N (xs (i + 2))))) jj_IA))) z2) gL_law_X1_thrown rfl 0 (by decide +kernel) ⟨by decide, by decide, by show kc + 1 + 0 + 0 ≤ 601024; omega, by show ks + 6 + 0 + 0 ≤ 7293034; omega⟩ 0 1 (by rfl) rfl rfl rfl rfl (Nat.le_of_ble_eq_true rfl) dL_law_602 (fun r u hp => ?_)
  obtain rfl := hp
  refine jj_iload hC dL_law_605 rfl ?_
  refine jj_icmp_eqT hC dL_law_607 (tgt := 612) (by decide) rfl ?_
  refine jj_iload hC dL_law_612 rfl ?_
  rcases lz_gains hI (xs (i + 1)) (xs (i + 2)) with ⟨hoc, hI2⟩ | ⟨Ex, c, hoc, hc1, hc2, hcd⟩
  · skip
    refine jj_if_neF hC dL_law_614 (tgt := 629) (by decide) (by rw [hoc]; first | rfl | exact fun q => q rfl) ?_
    refine jj_aload_n hC dL_law_617 rfl ?_
    refine jj_iconst hC dL_law_618 (v := nI 0) (by decide) ?_
    refine jj_lald hC 26 2 dL_law_619 (ts_gL (ts_getapp (by rfl))) rfl (by decide) (by decide) ?_
    refine jj_iload hC dL_law_620 rfl ?_
    refine jj_i2l hC dL_law_622 ?_
    refine jj_lcmp hC dL_law_623 ?_
    refine jj_if_eqT hC dL_law_624 (tgt := 629) (by decide) (by rw [hy hoc, hoc]; exact ts_lcmp _) ?_
    refine jj_goto hC dL_law_629 (tgt := 1307) (by decide) ?_
    refine jj_widen (k' := kc + 2) (n' := ks + 13) (by show kc + 1 + 0 + 0 ≤ kc + 2; omega) (by show ks + 6 + 0 + 0 ≤ ks + 13; omega) ?_
    refine jj_sub [0, 1, 2, 3, 4] (lv' := [(0, _), (1, _), (2, _), (3, _), (4, _)]) rfl ?_
    exact hk _ _ _ _ _ _ (by rw [hoc]; exact hI2)
  · refine jj_if_neT hC dL_law_614 (tgt := 629) (by decide) (by rw [hcd]; exact nI_ne0 hc1 (by omega)) ?_
    refine jj_goto hC dL_law_629 (tgt := 1307) (by decide) ?_
    refine jj_widen (k' := kc + 2) (n' := ks + 13) (by show kc + 1 + 0 + 0 ≤ kc + 2; omega) (by show ks + 6 + 0 + 0 ≤ ks + 13; omega) ?_
    refine jj_sub [0, 1, 2, 3, 4] (lv' := [(0, _), (1, _), (2, _), (3, _), (4, _)]) rfl ?_
    exact hk _ _ _ _ _ _ (by rw [hoc]; exact hI)
set_option maxRecDepth 100000 in
set_option maxHeartbeats 4000000 in
theorem la_swap {E : jj_E} {Q : State → Prop} {sb L : Nat} {xs : Nat → Int32} {c1 c2 c3 : ClassId} (B9 : jj_L E sb L xs c1 c2 c3) (a bb : Nat → Nat) (o : Nat) {v : ts_V} {g : Nat → Int32} {h : Int32} {y : Nat → Int64} {th : Int32} {z : Nat → Int32} (hI : ts_I v) {i kc ks : Nat} (hi : i + 6 ≤ L) (hR : kc + 2 ≤ 601024 ∧ ks + 13 ≤ 7293034) (hk : ∀ (v : ts_V) (g : Nat → Int32) (h : Int32) (y : Nat → Int64) (th : Int32) (z : Nat → Int32), ts_I v → jj_J E (kc + 2) (ks + 13) Q ((wx a c1 c2 v g h ++ ts_oa c3 o y) ++ wm bb c1 v th z) 1307 [(0, .ref sb), (1, .ref (a 0)), (2, .ref (bb 0)), (3, .ref o), (4, .int (nI i))] []) : jj_J E kc ks Q ((wx a c1 c2 v g h ++ ts_oa c3 o y) ++ wm bb c1 v th z) 632 [(0, .ref sb), (1, .ref (a 0)), (2, .ref (bb 0)), (3, .ref o), (4, .int (nI i))] [] := by
  obtain ⟨hC, hl, hH, hV, hN, hX, hbl, hbA, hL⟩ := id B9
  refine jj_aload_n hC dL_law_632 rfl ?_
  refine jj_aload_n hC dL_law_633 rfl ?_
  refine jj_iload hC dL_law_634 rfl ?_
  refine jj_iconst hC dL_law_636 (v := nI 1) (by decide) ?_
  refine jj_iaddN hC dL_law_637 ?_
  refine jj_sld hC hX hbl hbA (by omega) (by omega) dL_law_638 ?_
  refine jj_aload_n hC dL_law_639 rfl ?_
  refine jj_iload hC dL_law_640 rfl ?_
  refine jj_iconst hC dL_law_642 (v := nI 2) (by decide) ?_
  refine jj_iaddN hC dL_law_643 ?_
  refine jj_sld hC hX hbl hbA (by omega) (by omega) dL_law_644 ?_
  refine jj_aload_n hC dL_law_645 rfl ?_
  refine jj_scallwL hC hH hV hN (lm_swap _ _ a c1 c2 c3 v g h o y hl hI (xs (i + 1)) (xs (i + 2))) gL_law_L_swap rfl 4 (by decide +kernel) ⟨by decide, by decide, by show kc + 1 ≤ 601024; omega, by show ks + 6 ≤ 7293034; omega⟩ rfl rfl rfl (Nat.le_of_ble_eq_true rfl) dL_law_646 (fun r u hp => ?_)
  obtain ⟨⟨g2, h2⟩, y2⟩ := u
  obtain ⟨rfl, hy⟩ := hp
  refine jj_istore hC dL_law_649 (by decide) [1, 2, 3, 4, 5, 0] (lv' := [(0, _), (1, _), (2, _), (3, _), (4, _), (5, .int _)]) rfl ?_
  refine jj_aload_n hC dL_law_651 rfl ?_
  refine jj_aload_n hC dL_law_652 rfl ?_
  refine jj_iload hC dL_law_653 rfl ?_
  refine jj_iconst hC dL_law_655 (v := nI 1) (by decide) ?_
  refine jj_iaddN hC dL_law_656 ?_
  refine jj_sld hC hX hbl hbA (by omega) (by omega) dL_law_657 ?_
  refine jj_aload_n hC dL_law_658 rfl ?_
  refine jj_iload hC dL_law_659 rfl ?_
  refine jj_iconst hC dL_law_661 (v := nI 2) (by decide) ?_
  refine jj_iaddN hC dL_law_662 ?_
  refine jj_sld hC hX hbl hbA (by omega) (by omega) dL_law_663 ?_
  refine jj_calliR hC (mo_swap _ _ bb c1 c2 c3 v th z hI (xs (i + 1)) (xs (i + 2))) gL_law_X1_swap rfl 2 (by decide +kernel) ⟨by decide, by decide, by show kc + 1 + 0 ≤ 601024; omega, by show ks + 6 + 0 ≤ 7293034; omega⟩ 0 1 (by rfl) rfl rfl rfl rfl (Nat.le_of_ble_eq_true rfl) dL_law_664 (fun r u hp => ?_)
  obtain rfl := hp
  revert u
  intro z2
  refine jj_istore hC dL_law_667 (by decide) [1, 2, 3, 4, 5, 6, 0] (lv' := [(0, _), (1, _), (2, _), (3, _), (4, _), (5, _), (6, .int _)]) rfl ?_
  refine jj_aload_n hC dL_law_669 rfl ?_
  refine jj_calliR hC (mm_thrown _ _ bb c1 c2 c3 (ts_if (((((ts_req (ts_in (xs (i + 1)) (ts_n v)) jj_IO).or (ts_req (ts_in (xs (i + 2)) (ts_n v)) jj_IO)).or (ts_req (decide (¬ ts_ow v (ts_N (xs (i + 1))) = ts_ow v (ts_N (xs (i + 2))))) jj_IA)).or (ts_req (!(ts_lt v (ts_N (xs (i + 1))))) jj_IS)).or (ts_req (!(ts_lt v (ts_N (xs (i + 2))))) jj_IS)) ((ts_rs v (ts_N (xs (i + 1))) (ts_N (xs (i + 2)))).2) v) (ts_cd 1 2 3 (((((ts_req (ts_in (xs (i + 1)) (ts_n v)) jj_IO).or (ts_req (ts_in (xs (i + 2)) (ts_n v)) jj_IO)).or (ts_req (decide (¬ ts_ow v (ts_N (xs (i + 1))) = ts_ow v (ts_N (xs (i + 2))))) jj_IA)).or (ts_req (!(ts_lt v (ts_N (xs (i + 1))))) jj_IS)).or (ts_req (!(ts_lt v (ts_N (xs (i + 2))))) jj_IS))) z2) gL_law_X1_thrown rfl 0 (by decide +kernel) ⟨by decide, by decide, by show kc + 1 + 0 + 0 ≤ 601024; omega, by show ks + 6 + 0 + 0 ≤ 7293034; omega⟩ 0 1 (by rfl) rfl rfl rfl rfl (Nat.le_of_ble_eq_true rfl) dL_law_670 (fun r u hp => ?_)
  obtain rfl := hp
  refine jj_iload hC dL_law_673 rfl ?_
  refine jj_icmp_eqT hC dL_law_675 (tgt := 680) (by decide) rfl ?_
  refine jj_iload hC dL_law_680 rfl ?_
  rcases lz_swap hI (xs (i + 1)) (xs (i + 2)) with ⟨hoc, hI2⟩ | ⟨Ex, c, hoc, hc1, hc2, hcd⟩
  · skip
    refine jj_if_neF hC dL_law_682 (tgt := 697) (by decide) (by rw [hoc]; first | rfl | exact fun q => q rfl) ?_
    refine jj_aload_n hC dL_law_685 rfl ?_
    refine jj_iconst hC dL_law_686 (v := nI 0) (by decide) ?_
    refine jj_lald hC 26 2 dL_law_687 (ts_gL (ts_getapp (by rfl))) rfl (by decide) (by decide) ?_
    refine jj_iload hC dL_law_688 rfl ?_
    refine jj_i2l hC dL_law_690 ?_
    refine jj_lcmp hC dL_law_691 ?_
    refine jj_if_eqT hC dL_law_692 (tgt := 697) (by decide) (by rw [hy hoc, hoc]; exact ts_lcmp _) ?_
    refine jj_goto hC dL_law_697 (tgt := 1307) (by decide) ?_
    refine jj_widen (k' := kc + 2) (n' := ks + 13) (by show kc + 1 + 0 + 0 ≤ kc + 2; omega) (by show ks + 6 + 0 + 0 ≤ ks + 13; omega) ?_
    refine jj_sub [0, 1, 2, 3, 4] (lv' := [(0, _), (1, _), (2, _), (3, _), (4, _)]) rfl ?_
    exact hk _ _ _ _ _ _ (by rw [hoc]; exact hI2)
  · refine jj_if_neT hC dL_law_682 (tgt := 697) (by decide) (by rw [hcd]; exact nI_ne0 hc1 (by omega)) ?_
    refine jj_goto hC dL_law_697 (tgt := 1307) (by decide) ?_
    refine jj_widen (k' := kc + 2) (n' := ks + 13) (by show kc + 1 + 0 + 0 ≤ kc + 2; omega) (by show ks + 6 + 0 + 0 ≤ ks + 13; omega) ?_
    refine jj_sub [0, 1, 2, 3, 4] (lv' := [(0, _), (1, _), (2, _), (3, _), (4, _)]) rfl ?_
    exact hk _ _ _ _ _ _ (by rw [hoc]; exact hI)
set_option maxRecDepth 100000 in
set_option maxHeartbeats 4000000 in
theorem la_best {E : jj_E} {Q : State → Prop} {sb L : Nat} {xs : Nat → Int32} {c1 c2 c3 : ClassId} (B9 : jj_L E sb L xs c1 c2 c3) (a bb : Nat → Nat) (o : Nat) {v : ts_V} {g : Nat → Int32} {h : Int32} {y : Nat → Int64} {th : Int32} {z : Nat → Int32} (hI : ts_I v) {i kc ks : Nat} (hi : i + 6 ≤ L) (hR : kc + 2 ≤ 601024 ∧ ks + 13 ≤ 7293034) (hk : ∀ (v : ts_V) (g : Nat → Int32) (h : Int32) (y : Nat → Int64) (th : Int32) (z : Nat → Int32), ts_I v → jj_J E (kc + 2) (ks + 13) Q ((wx a c1 c2 v g h ++ ts_oa c3 o y) ++ wm bb c1 v th z) 1307 [(0, .ref sb), (1, .ref (a 0)), (2, .ref (bb 0)), (3, .ref o), (4, .int (nI i))] []) : jj_J E kc ks Q ((wx a c1 c2 v g h ++ ts_oa c3 o y) ++ wm bb c1 v th z) 700 [(0, .ref sb), (1, .ref (a 0)), (2, .ref (bb 0)), (3, .ref o), (4, .int (nI i))] [] := by
  obtain ⟨hC, hl, hH, hV, hN, hX, hbl, hbA, hL⟩ := id B9
  refine jj_aload_n hC dL_law_700 rfl ?_
  refine jj_aload_n hC dL_law_701 rfl ?_
  refine jj_iload hC dL_law_702 rfl ?_
  refine jj_iconst hC dL_law_704 (v := nI 1) (by decide) ?_
  refine jj_iaddN hC dL_law_705 ?_
  refine jj_sld hC hX hbl hbA (by omega) (by omega) dL_law_706 ?_
  refine jj_aload_n hC dL_law_707 rfl ?_
  refine jj_iload hC dL_law_708 rfl ?_
  refine jj_iconst hC dL_law_710 (v := nI 2) (by decide) ?_
  refine jj_iaddN hC dL_law_711 ?_
  refine jj_sld hC hX hbl hbA (by omega) (by omega) dL_law_712 ?_
  refine jj_aload_n hC dL_law_713 rfl ?_
  refine jj_scallwL hC hH hV hN (lm_best _ _ a c1 c2 c3 v g h o y hl hI (xs (i + 1)) (xs (i + 2))) gL_law_L_best rfl 4 (by decide +kernel) ⟨by decide, by decide, by show kc + 1 ≤ 601024; omega, by show ks + 6 ≤ 7293034; omega⟩ rfl rfl rfl (Nat.le_of_ble_eq_true rfl) dL_law_714 (fun r u hp => ?_)
  obtain ⟨⟨g2, h2⟩, y2⟩ := u
  obtain ⟨rfl, hy⟩ := hp
  refine jj_istore hC dL_law_717 (by decide) [1, 2, 3, 4, 5, 0] (lv' := [(0, _), (1, _), (2, _), (3, _), (4, _), (5, .int _)]) rfl ?_
  refine jj_aload_n hC dL_law_719 rfl ?_
  refine jj_aload_n hC dL_law_720 rfl ?_
  refine jj_iload hC dL_law_721 rfl ?_
  refine jj_iconst hC dL_law_723 (v := nI 1) (by decide) ?_
  refine jj_iaddN hC dL_law_724 ?_
  refine jj_sld hC hX hbl hbA (by omega) (by omega) dL_law_725 ?_
  refine jj_aload_n hC dL_law_726 rfl ?_
  refine jj_iload hC dL_law_727 rfl ?_
  refine jj_iconst hC dL_law_729 (v := nI 2) (by decide) ?_
  refine jj_iaddN hC dL_law_730 ?_
  refine jj_sld hC hX hbl hbA (by omega) (by omega) dL_law_731 ?_
  refine jj_calliR hC (mo_best _ _ bb c1 c2 c3 v th z hI (xs (i + 1)) (xs (i + 2))) gL_law_X1_best rfl 2 (by decide +kernel) ⟨by decide, by decide, by show kc + 1 + 0 ≤ 601024; omega, by show ks + 6 + 0 ≤ 7293034; omega⟩ 0 1 (by rfl) rfl rfl rfl rfl (Nat.le_of_ble_eq_true rfl) dL_law_732 (fun r u hp => ?_)
  obtain rfl := hp
  revert u
  intro z2
  refine jj_istore hC dL_law_735 (by decide) [1, 2, 3, 4, 5, 6, 0] (lv' := [(0, _), (1, _), (2, _), (3, _), (4, _), (5, _), (6, .int _)]) rfl ?_
  refine jj_aload_n hC dL_law_737 rfl ?_
  refine jj_calliR hC (mm_thrown _ _ bb c1 c2 c3 (ts_if (((ts_req (ts_in (xs (i + 1)) (ts_k v)) jj_IO).or (ts_req (ts_in (xs (i + 2)) (ts_k v)) jj_IO)).or (ts_req (decide (¬ (xs (i + 1)) = (xs (i + 2)))) jj_IA)) (v) v) (ts_cd 1 2 0 (((ts_req (ts_in (xs (i + 1)) (ts_k v)) jj_IO).or (ts_req (ts_in (xs (i + 2)) (ts_k v)) jj_IO)).or (ts_req (decide (¬ (xs (i + 1)) = (xs (i + 2)))) jj_IA))) z2) gL_law_X1_thrown rfl 0 (by decide +kernel) ⟨by decide, by decide, by show kc + 1 + 0 + 0 ≤ 601024; omega, by show ks + 6 + 0 + 0 ≤ 7293034; omega⟩ 0 1 (by rfl) rfl rfl rfl rfl (Nat.le_of_ble_eq_true rfl) dL_law_738 (fun r u hp => ?_)
  obtain rfl := hp
  refine jj_iload hC dL_law_741 rfl ?_
  refine jj_icmp_eqT hC dL_law_743 (tgt := 748) (by decide) rfl ?_
  refine jj_iload hC dL_law_748 rfl ?_
  rcases lz_best hI (xs (i + 1)) (xs (i + 2)) with ⟨hoc, hI2⟩ | ⟨Ex, c, hoc, hc1, hc2, hcd⟩
  · skip
    refine jj_if_neF hC dL_law_750 (tgt := 765) (by decide) (by rw [hoc]; first | rfl | exact fun q => q rfl) ?_
    refine jj_aload_n hC dL_law_753 rfl ?_
    refine jj_iconst hC dL_law_754 (v := nI 0) (by decide) ?_
    refine jj_lald hC 26 2 dL_law_755 (ts_gL (ts_getapp (by rfl))) rfl (by decide) (by decide) ?_
    refine jj_iload hC dL_law_756 rfl ?_
    refine jj_i2l hC dL_law_758 ?_
    refine jj_lcmp hC dL_law_759 ?_
    refine jj_if_eqT hC dL_law_760 (tgt := 765) (by decide) (by rw [hy hoc, hoc]; exact ts_lcmp _) ?_
    refine jj_goto hC dL_law_765 (tgt := 1307) (by decide) ?_
    refine jj_widen (k' := kc + 2) (n' := ks + 13) (by show kc + 1 + 0 + 0 ≤ kc + 2; omega) (by show ks + 6 + 0 + 0 ≤ ks + 13; omega) ?_
    refine jj_sub [0, 1, 2, 3, 4] (lv' := [(0, _), (1, _), (2, _), (3, _), (4, _)]) rfl ?_
    exact hk _ _ _ _ _ _ (by rw [hoc]; exact hI2)
  · refine jj_if_neT hC dL_law_750 (tgt := 765) (by decide) (by rw [hcd]; exact nI_ne0 hc1 (by omega)) ?_
    refine jj_goto hC dL_law_765 (tgt := 1307) (by decide) ?_
    refine jj_widen (k' := kc + 2) (n' := ks + 13) (by show kc + 1 + 0 + 0 ≤ kc + 2; omega) (by show ks + 6 + 0 + 0 ≤ ks + 13; omega) ?_
    refine jj_sub [0, 1, 2, 3, 4] (lv' := [(0, _), (1, _), (2, _), (3, _), (4, _)]) rfl ?_
    exact hk _ _ _ _ _ _ (by rw [hoc]; exact hI)
set_option maxRecDepth 100000 in
set_option maxHeartbeats 4000000 in
theorem la_ring {E : jj_E} {Q : State → Prop} {sb L : Nat} {xs : Nat → Int32} {c1 c2 c3 : ClassId} (B9 : jj_L E sb L xs c1 c2 c3) (a bb : Nat → Nat) (o : Nat) {v : ts_V} {g : Nat → Int32} {h : Int32} {y : Nat → Int64} {th : Int32} {z : Nat → Int32} (hI : ts_I v) {i kc ks : Nat} (hi : i + 6 ≤ L) (hR : kc + 2 ≤ 601024 ∧ ks + 13 ≤ 7293034) (hk : ∀ (v : ts_V) (g : Nat → Int32) (h : Int32) (y : Nat → Int64) (th : Int32) (z : Nat → Int32), ts_I v → jj_J E (kc + 2) (ks + 13) Q ((wx a c1 c2 v g h ++ ts_oa c3 o y) ++ wm bb c1 v th z) 1307 [(0, .ref sb), (1, .ref (a 0)), (2, .ref (bb 0)), (3, .ref o), (4, .int (nI i))] []) : jj_J E kc ks Q ((wx a c1 c2 v g h ++ ts_oa c3 o y) ++ wm bb c1 v th z) 768 [(0, .ref sb), (1, .ref (a 0)), (2, .ref (bb 0)), (3, .ref o), (4, .int (nI i))] [] := by
  obtain ⟨hC, hl, hH, hV, hN, hX, hbl, hbA, hL⟩ := id B9
  refine jj_aload_n hC dL_law_768 rfl ?_
  refine jj_aload_n hC dL_law_769 rfl ?_
  refine jj_iload hC dL_law_770 rfl ?_
  refine jj_iconst hC dL_law_772 (v := nI 1) (by decide) ?_
  refine jj_iaddN hC dL_law_773 ?_
  refine jj_sld hC hX hbl hbA (by omega) (by omega) dL_law_774 ?_
  refine jj_aload_n hC dL_law_775 rfl ?_
  refine jj_iload hC dL_law_776 rfl ?_
  refine jj_iconst hC dL_law_778 (v := nI 2) (by decide) ?_
  refine jj_iaddN hC dL_law_779 ?_
  refine jj_sld hC hX hbl hbA (by omega) (by omega) dL_law_780 ?_
  refine jj_aload_n hC dL_law_781 rfl ?_
  refine jj_iload hC dL_law_782 rfl ?_
  refine jj_iconst hC dL_law_784 (v := nI 3) (by decide) ?_
  refine jj_iaddN hC dL_law_785 ?_
  refine jj_sld hC hX hbl hbA (by omega) (by omega) dL_law_786 ?_
  refine jj_aload_n hC dL_law_787 rfl ?_
  refine jj_scallwL hC hH hV hN (lm_ring _ _ a c1 c2 c3 v g h o y hl hI (xs (i + 1)) (xs (i + 2)) (xs (i + 3))) gL_law_L_ring rfl 5 (by decide +kernel) ⟨by decide, by decide, by show kc + 1 ≤ 601024; omega, by show ks + 6 ≤ 7293034; omega⟩ rfl rfl rfl (Nat.le_of_ble_eq_true rfl) dL_law_788 (fun r u hp => ?_)
  obtain ⟨⟨g2, h2⟩, y2⟩ := u
  obtain ⟨rfl, hy⟩ := hp
  refine jj_istore hC dL_law_791 (by decide) [1, 2, 3, 4, 5, 0] (lv' := [(0, _), (1, _), (2, _), (3, _), (4, _), (5, .int _)]) rfl ?_
  refine jj_aload_n hC dL_law_793 rfl ?_
  refine jj_aload_n hC dL_law_794 rfl ?_
  refine jj_iload hC dL_law_795 rfl ?_
  refine jj_iconst hC dL_law_797 (v := nI 1) (by decide) ?_
  refine jj_iaddN hC dL_law_798 ?_
  refine jj_sld hC hX hbl hbA (by omega) (by omega) dL_law_799 ?_
  refine jj_aload_n hC dL_law_800 rfl ?_
  refine jj_iload hC dL_law_801 rfl ?_
  refine jj_iconst hC dL_law_803 (v := nI 2) (by decide) ?_
  refine jj_iaddN hC dL_law_804 ?_
  refine jj_sld hC hX hbl hbA (by omega) (by omega) dL_law_805 ?_
  refine jj_aload_n hC dL_law_806 rfl ?_
  refine jj_iload hC dL_law_807 rfl ?_
  refine jj_iconst hC dL_law_809 (v := nI 3) (by decide) ?_
  refine jj_iaddN hC dL_law_810 ?_
  refine jj_sld hC hX hbl hbA (by omega) (by omega) dL_law_811 ?_
  refine jj_calliR hC (mo_ring _ _ bb c1 c2 c3 v th z hI (xs (i + 1)) (xs (i + 2)) (xs (i + 3))) gL_law_X1_ring rfl 3 (by decide +kernel) ⟨by decide, by decide, by show kc + 1 + 1 ≤ 601024; omega, by show ks + 6 + 3 ≤ 7293034; omega⟩ 0 1 (by rfl) rfl rfl rfl rfl (Nat.le_of_ble_eq_true rfl) dL_law_812 (fun r u hp => ?_)
  obtain rfl := hp
  revert u
  intro z2
  refine jj_istore hC dL_law_815 (by decide) [1, 2, 3, 4, 5, 6, 0] (lv' := [(0, _), (1, _), (2, _), (3, _), (4, _), (5, _), (6, .int _)]) rfl ?_
  refine jj_aload_n hC dL_law_817 rfl ?_
  refine jj_calliR hC (mm_thrown _ _ bb c1 c2 c3 (ts_if ((((((ts_req (ts_in (xs (i + 1)) (ts_n v)) jj_IO).or (ts_req (ts_in (xs (i + 2)) (ts_n v)) jj_IO)).or (ts_req (ts_in (xs (i + 3)) (ts_n v)) jj_IO)).or (ts_req (decide (¬ ts_ow v (ts_N (xs (i + 1))) = ts_ow v (ts_N (xs (i + 2))))) jj_IA)).or (ts_req (decide (¬ ts_ow v (ts_N (xs (i + 2))) = ts_ow v (ts_N (xs (i + 3))))) jj_IA)).or (ts_req (decide (¬ ts_ow v (ts_N (xs (i + 3))) = ts_ow v (ts_N (xs (i + 1))))) jj_IA)) (v) v) (ts_cd 1 2 0 ((((((ts_req (ts_in (xs (i + 1)) (ts_n v)) jj_IO).or (ts_req (ts_in (xs (i + 2)) (ts_n v)) jj_IO)).or (ts_req (ts_in (xs (i + 3)) (ts_n v)) jj_IO)).or (ts_req (decide (¬ ts_ow v (ts_N (xs (i + 1))) = ts_ow v (ts_N (xs (i + 2))))) jj_IA)).or (ts_req (decide (¬ ts_ow v (ts_N (xs (i + 2))) = ts_ow v (ts_N (xs (i + 3))))) jj_IA)).or (ts_req (decide (¬ ts_ow v (ts_N (xs (i + 3))) = ts_ow v (ts_N (xs (i + 1))))) jj_IA))) z2) gL_law_X1_thrown rfl 0 (by decide +kernel) ⟨by decide, by decide, by show kc + 1 + 1 + 0 ≤ 601024; omega, by show ks + 6 + 3 + 0 ≤ 7293034; omega⟩ 0 1 (by rfl) rfl rfl rfl rfl (Nat.le_of_ble_eq_true rfl) dL_law_818 (fun r u hp => ?_)
  obtain rfl := hp
  refine jj_iload hC dL_law_821 rfl ?_
  refine jj_icmp_eqT hC dL_law_823 (tgt := 828) (by decide) rfl ?_
  refine jj_iload hC dL_law_828 rfl ?_
  rcases lz_ring hI (xs (i + 1)) (xs (i + 2)) (xs (i + 3)) with ⟨hoc, hI2⟩ | ⟨Ex, c, hoc, hc1, hc2, hcd⟩
  · skip
    refine jj_if_neF hC dL_law_830 (tgt := 845) (by decide) (by rw [hoc]; first | rfl | exact fun q => q rfl) ?_
    refine jj_aload_n hC dL_law_833 rfl ?_
    refine jj_iconst hC dL_law_834 (v := nI 0) (by decide) ?_
    refine jj_lald hC 26 2 dL_law_835 (ts_gL (ts_getapp (by rfl))) rfl (by decide) (by decide) ?_
    refine jj_iload hC dL_law_836 rfl ?_
    refine jj_i2l hC dL_law_838 ?_
    refine jj_lcmp hC dL_law_839 ?_
    refine jj_if_eqT hC dL_law_840 (tgt := 845) (by decide) (by rw [hy hoc, hoc]; exact ts_lcmp _) ?_
    refine jj_goto hC dL_law_845 (tgt := 1307) (by decide) ?_
    refine jj_widen (k' := kc + 2) (n' := ks + 13) (by show kc + 1 + 1 + 0 ≤ kc + 2; omega) (by show ks + 6 + 3 + 0 ≤ ks + 13; omega) ?_
    refine jj_sub [0, 1, 2, 3, 4] (lv' := [(0, _), (1, _), (2, _), (3, _), (4, _)]) rfl ?_
    exact hk _ _ _ _ _ _ (by rw [hoc]; exact hI2)
  · refine jj_if_neT hC dL_law_830 (tgt := 845) (by decide) (by rw [hcd]; exact nI_ne0 hc1 (by omega)) ?_
    refine jj_goto hC dL_law_845 (tgt := 1307) (by decide) ?_
    refine jj_widen (k' := kc + 2) (n' := ks + 13) (by show kc + 1 + 1 + 0 ≤ kc + 2; omega) (by show ks + 6 + 3 + 0 ≤ ks + 13; omega) ?_
    refine jj_sub [0, 1, 2, 3, 4] (lv' := [(0, _), (1, _), (2, _), (3, _), (4, _)]) rfl ?_
    exact hk _ _ _ _ _ _ (by rw [hoc]; exact hI)
set_option maxRecDepth 100000 in
set_option maxHeartbeats 4000000 in
theorem la_fair {E : jj_E} {Q : State → Prop} {sb L : Nat} {xs : Nat → Int32} {c1 c2 c3 : ClassId} (B9 : jj_L E sb L xs c1 c2 c3) (a bb : Nat → Nat) (o : Nat) {v : ts_V} {g : Nat → Int32} {h : Int32} {y : Nat → Int64} {th : Int32} {z : Nat → Int32} (hI : ts_I v) {i kc ks : Nat} (hi : i + 6 ≤ L) (hR : kc + 2 ≤ 601024 ∧ ks + 13 ≤ 7293034) (hk : ∀ (v : ts_V) (g : Nat → Int32) (h : Int32) (y : Nat → Int64) (th : Int32) (z : Nat → Int32), ts_I v → jj_J E (kc + 2) (ks + 13) Q ((wx a c1 c2 v g h ++ ts_oa c3 o y) ++ wm bb c1 v th z) 1307 [(0, .ref sb), (1, .ref (a 0)), (2, .ref (bb 0)), (3, .ref o), (4, .int (nI i))] []) : jj_J E kc ks Q ((wx a c1 c2 v g h ++ ts_oa c3 o y) ++ wm bb c1 v th z) 848 [(0, .ref sb), (1, .ref (a 0)), (2, .ref (bb 0)), (3, .ref o), (4, .int (nI i))] [] := by
  obtain ⟨hC, hl, hH, hV, hN, hX, hbl, hbA, hL⟩ := id B9
  refine jj_aload_n hC dL_law_848 rfl ?_
  refine jj_aload_n hC dL_law_849 rfl ?_
  refine jj_iload hC dL_law_850 rfl ?_
  refine jj_iconst hC dL_law_852 (v := nI 1) (by decide) ?_
  refine jj_iaddN hC dL_law_853 ?_
  refine jj_sld hC hX hbl hbA (by omega) (by omega) dL_law_854 ?_
  refine jj_aload_n hC dL_law_855 rfl ?_
  refine jj_scallwL hC hH hV hN (lm_fair _ _ a c1 c2 c3 v g h o y hl hI (xs (i + 1))) gL_law_L_fair rfl 3 (by decide +kernel) ⟨by decide, by decide, by show kc + 1 ≤ 601024; omega, by show ks + 6 ≤ 7293034; omega⟩ rfl rfl rfl (Nat.le_of_ble_eq_true rfl) dL_law_856 (fun r u hp => ?_)
  obtain ⟨⟨g2, h2⟩, y2⟩ := u
  obtain ⟨rfl, hy⟩ := hp
  refine jj_istore hC dL_law_859 (by decide) [1, 2, 3, 4, 5, 0] (lv' := [(0, _), (1, _), (2, _), (3, _), (4, _), (5, .int _)]) rfl ?_
  refine jj_aload_n hC dL_law_861 rfl ?_
  refine jj_aload_n hC dL_law_862 rfl ?_
  refine jj_iload hC dL_law_863 rfl ?_
  refine jj_iconst hC dL_law_865 (v := nI 1) (by decide) ?_
  refine jj_iaddN hC dL_law_866 ?_
  refine jj_sld hC hX hbl hbA (by omega) (by omega) dL_law_867 ?_
  refine jj_calliR hC (mo_fair _ _ bb c1 c2 c3 v th z hI (xs (i + 1))) gL_law_X1_fair rfl 1 (by decide +kernel) ⟨by decide, by decide, by show kc + 1 + 0 ≤ 601024; omega, by show ks + 6 + 0 ≤ 7293034; omega⟩ 0 1 (by rfl) rfl rfl rfl rfl (Nat.le_of_ble_eq_true rfl) dL_law_868 (fun r u hp => ?_)
  obtain rfl := hp
  revert u
  intro z2
  refine jj_istore hC dL_law_871 (by decide) [1, 2, 3, 4, 5, 6, 0] (lv' := [(0, _), (1, _), (2, _), (3, _), (4, _), (5, _), (6, .int _)]) rfl ?_
  refine jj_aload_n hC dL_law_873 rfl ?_
  refine jj_calliR hC (mm_thrown _ _ bb c1 c2 c3 (ts_if (ts_req (ts_rg (xs (i + 1)) 1 10) jj_IA) ((ts_fr v (ts_N (xs (i + 1))) 0).1) v) (ts_cd 0 1 0 (ts_req (ts_rg (xs (i + 1)) 1 10) jj_IA)) z2) gL_law_X1_thrown rfl 0 (by decide +kernel) ⟨by decide, by decide, by show kc + 1 + 0 + 0 ≤ 601024; omega, by show ks + 6 + 0 + 0 ≤ 7293034; omega⟩ 0 1 (by rfl) rfl rfl rfl rfl (Nat.le_of_ble_eq_true rfl) dL_law_874 (fun r u hp => ?_)
  obtain rfl := hp
  refine jj_iload hC dL_law_877 rfl ?_
  refine jj_icmp_eqT hC dL_law_879 (tgt := 884) (by decide) rfl ?_
  refine jj_iload hC dL_law_884 rfl ?_
  rcases lz_fair hI (xs (i + 1)) with ⟨hoc, hI2⟩ | ⟨Ex, c, hoc, hc1, hc2, hcd⟩
  · skip
    refine jj_if_neF hC dL_law_886 (tgt := 901) (by decide) (by rw [hoc]; first | rfl | exact fun q => q rfl) ?_
    refine jj_aload_n hC dL_law_889 rfl ?_
    refine jj_iconst hC dL_law_890 (v := nI 0) (by decide) ?_
    refine jj_lald hC 26 2 dL_law_891 (ts_gL (ts_getapp (by rfl))) rfl (by decide) (by decide) ?_
    refine jj_iload hC dL_law_892 rfl ?_
    refine jj_i2l hC dL_law_894 ?_
    refine jj_lcmp hC dL_law_895 ?_
    refine jj_if_eqT hC dL_law_896 (tgt := 901) (by decide) (by rw [hy hoc, hoc]; exact ts_lcmp _) ?_
    refine jj_goto hC dL_law_901 (tgt := 1307) (by decide) ?_
    refine jj_widen (k' := kc + 2) (n' := ks + 13) (by show kc + 1 + 0 + 0 ≤ kc + 2; omega) (by show ks + 6 + 0 + 0 ≤ ks + 13; omega) ?_
    refine jj_sub [0, 1, 2, 3, 4] (lv' := [(0, _), (1, _), (2, _), (3, _), (4, _)]) rfl ?_
    exact hk _ _ _ _ _ _ (by rw [hoc]; exact hI2)
  · refine jj_if_neT hC dL_law_886 (tgt := 901) (by decide) (by rw [hcd]; exact nI_ne0 hc1 (by omega)) ?_
    refine jj_goto hC dL_law_901 (tgt := 1307) (by decide) ?_
    refine jj_widen (k' := kc + 2) (n' := ks + 13) (by show kc + 1 + 0 + 0 ≤ kc + 2; omega) (by show ks + 6 + 0 + 0 ≤ ks + 13; omega) ?_
    refine jj_sub [0, 1, 2, 3, 4] (lv' := [(0, _), (1, _), (2, _), (3, _), (4, _)]) rfl ?_
    exact hk _ _ _ _ _ _ (by rw [hoc]; exact hI)
set_option maxRecDepth 100000 in
set_option maxHeartbeats 4000000 in
theorem la_lend {E : jj_E} {Q : State → Prop} {sb L : Nat} {xs : Nat → Int32} {c1 c2 c3 : ClassId} (B9 : jj_L E sb L xs c1 c2 c3) (a bb : Nat → Nat) (o : Nat) {v : ts_V} {g : Nat → Int32} {h : Int32} {y : Nat → Int64} {th : Int32} {z : Nat → Int32} (hI : ts_I v) {i kc ks : Nat} (hi : i + 6 ≤ L) (hR : kc + 2 ≤ 601024 ∧ ks + 13 ≤ 7293034) (hk : ∀ (v : ts_V) (g : Nat → Int32) (h : Int32) (y : Nat → Int64) (th : Int32) (z : Nat → Int32), ts_I v → jj_J E (kc + 2) (ks + 13) Q ((wx a c1 c2 v g h ++ ts_oa c3 o y) ++ wm bb c1 v th z) 1307 [(0, .ref sb), (1, .ref (a 0)), (2, .ref (bb 0)), (3, .ref o), (4, .int (nI i))] []) : jj_J E kc ks Q ((wx a c1 c2 v g h ++ ts_oa c3 o y) ++ wm bb c1 v th z) 904 [(0, .ref sb), (1, .ref (a 0)), (2, .ref (bb 0)), (3, .ref o), (4, .int (nI i))] [] := by
  obtain ⟨hC, hl, hH, hV, hN, hX, hbl, hbA, hL⟩ := id B9
  refine jj_aload_n hC dL_law_904 rfl ?_
  refine jj_aload_n hC dL_law_905 rfl ?_
  refine jj_iload hC dL_law_906 rfl ?_
  refine jj_iconst hC dL_law_908 (v := nI 1) (by decide) ?_
  refine jj_iaddN hC dL_law_909 ?_
  refine jj_sld hC hX hbl hbA (by omega) (by omega) dL_law_910 ?_
  refine jj_aload_n hC dL_law_911 rfl ?_
  refine jj_iload hC dL_law_912 rfl ?_
  refine jj_iconst hC dL_law_914 (v := nI 2) (by decide) ?_
  refine jj_iaddN hC dL_law_915 ?_
  refine jj_sld hC hX hbl hbA (by omega) (by omega) dL_law_916 ?_
  refine jj_aload_n hC dL_law_917 rfl ?_
  refine jj_scallwL hC hH hV hN (lm_lend _ _ a c1 c2 c3 v g h o y hl hI (xs (i + 1)) (xs (i + 2))) gL_law_L_lend rfl 4 (by decide +kernel) ⟨by decide, by decide, by show kc + 1 ≤ 601024; omega, by show ks + 6 ≤ 7293034; omega⟩ rfl rfl rfl (Nat.le_of_ble_eq_true rfl) dL_law_918 (fun r u hp => ?_)
  obtain ⟨⟨g2, h2⟩, y2⟩ := u
  obtain ⟨rfl, hy⟩ := hp
  refine jj_istore hC dL_law_921 (by decide) [1, 2, 3, 4, 5, 0] (lv' := [(0, _), (1, _), (2, _), (3, _), (4, _), (5, .int _)]) rfl ?_
  refine jj_aload_n hC dL_law_923 rfl ?_
  refine jj_aload_n hC dL_law_924 rfl ?_
  refine jj_iload hC dL_law_925 rfl ?_
  refine jj_iconst hC dL_law_927 (v := nI 1) (by decide) ?_
  refine jj_iaddN hC dL_law_928 ?_
  refine jj_sld hC hX hbl hbA (by omega) (by omega) dL_law_929 ?_
  refine jj_aload_n hC dL_law_930 rfl ?_
  refine jj_iload hC dL_law_931 rfl ?_
  refine jj_iconst hC dL_law_933 (v := nI 2) (by decide) ?_
  refine jj_iaddN hC dL_law_934 ?_
  refine jj_sld hC hX hbl hbA (by omega) (by omega) dL_law_935 ?_
  refine jj_calliR hC (mo_lend _ _ bb c1 c2 c3 v th z hI (xs (i + 1)) (xs (i + 2))) gL_law_X1_lend rfl 2 (by decide +kernel) ⟨by decide, by decide, by show kc + 1 + 0 ≤ 601024; omega, by show ks + 6 + 0 ≤ 7293034; omega⟩ 0 1 (by rfl) rfl rfl rfl rfl (Nat.le_of_ble_eq_true rfl) dL_law_936 (fun r u hp => ?_)
  obtain rfl := hp
  revert u
  intro z2
  refine jj_istore hC dL_law_939 (by decide) [1, 2, 3, 4, 5, 6, 0] (lv' := [(0, _), (1, _), (2, _), (3, _), (4, _), (5, _), (6, .int _)]) rfl ?_
  refine jj_aload_n hC dL_law_941 rfl ?_
  refine jj_calliR hC (mm_thrown _ _ bb c1 c2 c3 (ts_if (((ts_req (ts_in (xs (i + 1)) (ts_n v)) jj_IO).or (ts_req (ts_rg (xs (i + 2)) 1 30) jj_IA)).or (ts_req (!(ts_lt v (ts_N (xs (i + 1))))) jj_IS)) ((ts_wk' (ts_ti' v (va_up (ts_ti v) (ts_N (xs (i + 1))) (ts_w v + (xs (i + 2))))) (va_up (ts_wk v) (ts_N (xs (i + 1))) (xs (i + 2))))) v) (ts_cd 1 2 3 (((ts_req (ts_in (xs (i + 1)) (ts_n v)) jj_IO).or (ts_req (ts_rg (xs (i + 2)) 1 30) jj_IA)).or (ts_req (!(ts_lt v (ts_N (xs (i + 1))))) jj_IS))) z2) gL_law_X1_thrown rfl 0 (by decide +kernel) ⟨by decide, by decide, by show kc + 1 + 0 + 0 ≤ 601024; omega, by show ks + 6 + 0 + 0 ≤ 7293034; omega⟩ 0 1 (by rfl) rfl rfl rfl rfl (Nat.le_of_ble_eq_true rfl) dL_law_942 (fun r u hp => ?_)
  obtain rfl := hp
  refine jj_iload hC dL_law_945 rfl ?_
  refine jj_icmp_eqT hC dL_law_947 (tgt := 952) (by decide) rfl ?_
  refine jj_iload hC dL_law_952 rfl ?_
  rcases lz_lend hI (xs (i + 1)) (xs (i + 2)) with ⟨hoc, hI2⟩ | ⟨Ex, c, hoc, hc1, hc2, hcd⟩
  · skip
    refine jj_if_neF hC dL_law_954 (tgt := 969) (by decide) (by rw [hoc]; first | rfl | exact fun q => q rfl) ?_
    refine jj_aload_n hC dL_law_957 rfl ?_
    refine jj_iconst hC dL_law_958 (v := nI 0) (by decide) ?_
    refine jj_lald hC 26 2 dL_law_959 (ts_gL (ts_getapp (by rfl))) rfl (by decide) (by decide) ?_
    refine jj_iload hC dL_law_960 rfl ?_
    refine jj_i2l hC dL_law_962 ?_
    refine jj_lcmp hC dL_law_963 ?_
    refine jj_if_eqT hC dL_law_964 (tgt := 969) (by decide) (by rw [hy hoc, hoc]; exact ts_lcmp _) ?_
    refine jj_goto hC dL_law_969 (tgt := 1307) (by decide) ?_
    refine jj_widen (k' := kc + 2) (n' := ks + 13) (by show kc + 1 + 0 + 0 ≤ kc + 2; omega) (by show ks + 6 + 0 + 0 ≤ ks + 13; omega) ?_
    refine jj_sub [0, 1, 2, 3, 4] (lv' := [(0, _), (1, _), (2, _), (3, _), (4, _)]) rfl ?_
    exact hk _ _ _ _ _ _ (by rw [hoc]; exact hI2)
  · refine jj_if_neT hC dL_law_954 (tgt := 969) (by decide) (by rw [hcd]; exact nI_ne0 hc1 (by omega)) ?_
    refine jj_goto hC dL_law_969 (tgt := 1307) (by decide) ?_
    refine jj_widen (k' := kc + 2) (n' := ks + 13) (by show kc + 1 + 0 + 0 ≤ kc + 2; omega) (by show ks + 6 + 0 + 0 ≤ ks + 13; omega) ?_
    refine jj_sub [0, 1, 2, 3, 4] (lv' := [(0, _), (1, _), (2, _), (3, _), (4, _)]) rfl ?_
    exact hk _ _ _ _ _ _ (by rw [hoc]; exact hI)
set_option maxRecDepth 100000 in
set_option maxHeartbeats 4000000 in
theorem la_shows {E : jj_E} {Q : State → Prop} {sb L : Nat} {xs : Nat → Int32} {c1 c2 c3 : ClassId} (B9 : jj_L E sb L xs c1 c2 c3) (a bb : Nat → Nat) (o : Nat) {v : ts_V} {g : Nat → Int32} {h : Int32} {y : Nat → Int64} {th : Int32} {z : Nat → Int32} (hI : ts_I v) {i kc ks : Nat} (hi : i + 6 ≤ L) (hR : kc + 2 ≤ 601024 ∧ ks + 13 ≤ 7293034) (hk : ∀ (v : ts_V) (g : Nat → Int32) (h : Int32) (y : Nat → Int64) (th : Int32) (z : Nat → Int32), ts_I v → jj_J E (kc + 2) (ks + 13) Q ((wx a c1 c2 v g h ++ ts_oa c3 o y) ++ wm bb c1 v th z) 1307 [(0, .ref sb), (1, .ref (a 0)), (2, .ref (bb 0)), (3, .ref o), (4, .int (nI i))] []) : jj_J E kc ks Q ((wx a c1 c2 v g h ++ ts_oa c3 o y) ++ wm bb c1 v th z) 972 [(0, .ref sb), (1, .ref (a 0)), (2, .ref (bb 0)), (3, .ref o), (4, .int (nI i))] [] := by
  obtain ⟨hC, hl, hH, hV, hN, hX, hbl, hbA, hL⟩ := id B9
  refine jj_aload_n hC dL_law_972 rfl ?_
  refine jj_aload_n hC dL_law_973 rfl ?_
  refine jj_iload hC dL_law_974 rfl ?_
  refine jj_iconst hC dL_law_976 (v := nI 1) (by decide) ?_
  refine jj_iaddN hC dL_law_977 ?_
  refine jj_sld hC hX hbl hbA (by omega) (by omega) dL_law_978 ?_
  refine jj_aload_n hC dL_law_979 rfl ?_
  refine jj_scallwL hC hH hV hN (lm_shows _ _ a c1 c2 c3 v g h o y hl hI (xs (i + 1))) gL_law_L_shows rfl 3 (by decide +kernel) ⟨by decide, by decide, by show kc + 1 ≤ 601024; omega, by show ks + 6 ≤ 7293034; omega⟩ rfl rfl rfl (Nat.le_of_ble_eq_true rfl) dL_law_980 (fun r u hp => ?_)
  obtain ⟨⟨g2, h2⟩, y2⟩ := u
  obtain ⟨rfl, hy⟩ := hp
  refine jj_istore hC dL_law_983 (by decide) [1, 2, 3, 4, 5, 0] (lv' := [(0, _), (1, _), (2, _), (3, _), (4, _), (5, .int _)]) rfl ?_
  refine jj_aload_n hC dL_law_985 rfl ?_
  refine jj_aload_n hC dL_law_986 rfl ?_
  refine jj_iload hC dL_law_987 rfl ?_
  refine jj_iconst hC dL_law_989 (v := nI 1) (by decide) ?_
  refine jj_iaddN hC dL_law_990 ?_
  refine jj_sld hC hX hbl hbA (by omega) (by omega) dL_law_991 ?_
  refine jj_calliR hC (mo_shows _ _ bb c1 c2 c3 v th z hI (xs (i + 1))) gL_law_X1_shows rfl 1 (by decide +kernel) ⟨by decide, by decide, by show kc + 1 + 0 ≤ 601024; omega, by show ks + 6 + 0 ≤ 7293034; omega⟩ 0 1 (by rfl) rfl rfl rfl rfl (Nat.le_of_ble_eq_true rfl) dL_law_992 (fun r u hp => ?_)
  obtain rfl := hp
  revert u
  intro z2
  refine jj_istore hC dL_law_995 (by decide) [1, 2, 3, 4, 5, 6, 0] (lv' := [(0, _), (1, _), (2, _), (3, _), (4, _), (5, _), (6, .int _)]) rfl ?_
  refine jj_aload_n hC dL_law_997 rfl ?_
  refine jj_calliR hC (mm_thrown _ _ bb c1 c2 c3 (ts_if (ts_req (ts_in (xs (i + 1)) 8) jj_IO) (v) v) (ts_cd 1 0 0 (ts_req (ts_in (xs (i + 1)) 8) jj_IO)) z2) gL_law_X1_thrown rfl 0 (by decide +kernel) ⟨by decide, by decide, by show kc + 1 + 0 + 0 ≤ 601024; omega, by show ks + 6 + 0 + 0 ≤ 7293034; omega⟩ 0 1 (by rfl) rfl rfl rfl rfl (Nat.le_of_ble_eq_true rfl) dL_law_998 (fun r u hp => ?_)
  obtain rfl := hp
  refine jj_iload hC dL_law_1001 rfl ?_
  refine jj_icmp_eqT hC dL_law_1003 (tgt := 1008) (by decide) rfl ?_
  refine jj_iload hC dL_law_1008 rfl ?_
  rcases lz_shows hI (xs (i + 1)) with ⟨hoc, hI2⟩ | ⟨Ex, c, hoc, hc1, hc2, hcd⟩
  · skip
    refine jj_if_neF hC dL_law_1010 (tgt := 1025) (by decide) (by rw [hoc]; first | rfl | exact fun q => q rfl) ?_
    refine jj_aload_n hC dL_law_1013 rfl ?_
    refine jj_iconst hC dL_law_1014 (v := nI 0) (by decide) ?_
    refine jj_lald hC 26 2 dL_law_1015 (ts_gL (ts_getapp (by rfl))) rfl (by decide) (by decide) ?_
    refine jj_iload hC dL_law_1016 rfl ?_
    refine jj_i2l hC dL_law_1018 ?_
    refine jj_lcmp hC dL_law_1019 ?_
    refine jj_if_eqT hC dL_law_1020 (tgt := 1025) (by decide) (by rw [hy hoc, hoc]; exact ts_lcmp _) ?_
    refine jj_goto hC dL_law_1025 (tgt := 1307) (by decide) ?_
    refine jj_widen (k' := kc + 2) (n' := ks + 13) (by show kc + 1 + 0 + 0 ≤ kc + 2; omega) (by show ks + 6 + 0 + 0 ≤ ks + 13; omega) ?_
    refine jj_sub [0, 1, 2, 3, 4] (lv' := [(0, _), (1, _), (2, _), (3, _), (4, _)]) rfl ?_
    exact hk _ _ _ _ _ _ (by rw [hoc]; exact hI2)
  · refine jj_if_neT hC dL_law_1010 (tgt := 1025) (by decide) (by rw [hcd]; exact nI_ne0 hc1 (by omega)) ?_
    refine jj_goto hC dL_law_1025 (tgt := 1307) (by decide) ?_
    refine jj_widen (k' := kc + 2) (n' := ks + 13) (by show kc + 1 + 0 + 0 ≤ kc + 2; omega) (by show ks + 6 + 0 + 0 ≤ ks + 13; omega) ?_
    refine jj_sub [0, 1, 2, 3, 4] (lv' := [(0, _), (1, _), (2, _), (3, _), (4, _)]) rfl ?_
    exact hk _ _ _ _ _ _ (by rw [hoc]; exact hI)
set_option maxRecDepth 100000 in
set_option maxHeartbeats 4000000 in
theorem la_lacks {E : jj_E} {Q : State → Prop} {sb L : Nat} {xs : Nat → Int32} {c1 c2 c3 : ClassId} (B9 : jj_L E sb L xs c1 c2 c3) (a bb : Nat → Nat) (o : Nat) {v : ts_V} {g : Nat → Int32} {h : Int32} {y : Nat → Int64} {th : Int32} {z : Nat → Int32} (hI : ts_I v) {i kc ks : Nat} (hi : i + 6 ≤ L) (hR : kc + 2 ≤ 601024 ∧ ks + 13 ≤ 7293034) (hk : ∀ (v : ts_V) (g : Nat → Int32) (h : Int32) (y : Nat → Int64) (th : Int32) (z : Nat → Int32), ts_I v → jj_J E (kc + 2) (ks + 13) Q ((wx a c1 c2 v g h ++ ts_oa c3 o y) ++ wm bb c1 v th z) 1307 [(0, .ref sb), (1, .ref (a 0)), (2, .ref (bb 0)), (3, .ref o), (4, .int (nI i))] []) : jj_J E kc ks Q ((wx a c1 c2 v g h ++ ts_oa c3 o y) ++ wm bb c1 v th z) 1028 [(0, .ref sb), (1, .ref (a 0)), (2, .ref (bb 0)), (3, .ref o), (4, .int (nI i))] [] := by
  obtain ⟨hC, hl, hH, hV, hN, hX, hbl, hbA, hL⟩ := id B9
  refine jj_aload_n hC dL_law_1028 rfl ?_
  refine jj_aload_n hC dL_law_1029 rfl ?_
  refine jj_iload hC dL_law_1030 rfl ?_
  refine jj_iconst hC dL_law_1032 (v := nI 1) (by decide) ?_
  refine jj_iaddN hC dL_law_1033 ?_
  refine jj_sld hC hX hbl hbA (by omega) (by omega) dL_law_1034 ?_
  refine jj_aload_n hC dL_law_1035 rfl ?_
  refine jj_scallwL hC hH hV hN (lm_lacks _ _ a c1 c2 c3 v g h o y hl hI (xs (i + 1))) gL_law_L_lacks rfl 3 (by decide +kernel) ⟨by decide, by decide, by show kc + 1 ≤ 601024; omega, by show ks + 6 ≤ 7293034; omega⟩ rfl rfl rfl (Nat.le_of_ble_eq_true rfl) dL_law_1036 (fun r u hp => ?_)
  obtain ⟨⟨g2, h2⟩, y2⟩ := u
  obtain ⟨rfl, hy⟩ := hp
  refine jj_istore hC dL_law_1039 (by decide) [1, 2, 3, 4, 5, 0] (lv' := [(0, _), (1, _), (2, _), (3, _), (4, _), (5, .int _)]) rfl ?_
  refine jj_aload_n hC dL_law_1041 rfl ?_
  refine jj_aload_n hC dL_law_1042 rfl ?_
  refine jj_iload hC dL_law_1043 rfl ?_
  refine jj_iconst hC dL_law_1045 (v := nI 1) (by decide) ?_
  refine jj_iaddN hC dL_law_1046 ?_
  refine jj_sld hC hX hbl hbA (by omega) (by omega) dL_law_1047 ?_
  refine jj_calliR hC (mo_lacks _ _ bb c1 c2 c3 v th z hI (xs (i + 1))) gL_law_X1_lacks rfl 1 (by decide +kernel) ⟨by decide, by decide, by show kc + 1 + 0 ≤ 601024; omega, by show ks + 6 + 0 ≤ 7293034; omega⟩ 0 1 (by rfl) rfl rfl rfl rfl (Nat.le_of_ble_eq_true rfl) dL_law_1048 (fun r u hp => ?_)
  obtain rfl := hp
  revert u
  intro z2
  refine jj_istore hC dL_law_1051 (by decide) [1, 2, 3, 4, 5, 6, 0] (lv' := [(0, _), (1, _), (2, _), (3, _), (4, _), (5, _), (6, .int _)]) rfl ?_
  refine jj_aload_n hC dL_law_1053 rfl ?_
  refine jj_calliR hC (mm_thrown _ _ bb c1 c2 c3 (ts_if (ts_req (ts_in (xs (i + 1)) 8) jj_IO) (v) v) (ts_cd 1 0 0 (ts_req (ts_in (xs (i + 1)) 8) jj_IO)) z2) gL_law_X1_thrown rfl 0 (by decide +kernel) ⟨by decide, by decide, by show kc + 1 + 0 + 0 ≤ 601024; omega, by show ks + 6 + 0 + 0 ≤ 7293034; omega⟩ 0 1 (by rfl) rfl rfl rfl rfl (Nat.le_of_ble_eq_true rfl) dL_law_1054 (fun r u hp => ?_)
  obtain rfl := hp
  refine jj_iload hC dL_law_1057 rfl ?_
  refine jj_icmp_eqT hC dL_law_1059 (tgt := 1064) (by decide) rfl ?_
  refine jj_iload hC dL_law_1064 rfl ?_
  rcases lz_lacks hI (xs (i + 1)) with ⟨hoc, hI2⟩ | ⟨Ex, c, hoc, hc1, hc2, hcd⟩
  · skip
    refine jj_if_neF hC dL_law_1066 (tgt := 1081) (by decide) (by rw [hoc]; first | rfl | exact fun q => q rfl) ?_
    refine jj_aload_n hC dL_law_1069 rfl ?_
    refine jj_iconst hC dL_law_1070 (v := nI 0) (by decide) ?_
    refine jj_lald hC 26 2 dL_law_1071 (ts_gL (ts_getapp (by rfl))) rfl (by decide) (by decide) ?_
    refine jj_iload hC dL_law_1072 rfl ?_
    refine jj_i2l hC dL_law_1074 ?_
    refine jj_lcmp hC dL_law_1075 ?_
    refine jj_if_eqT hC dL_law_1076 (tgt := 1081) (by decide) (by rw [hy hoc, hoc]; exact ts_lcmp _) ?_
    refine jj_goto hC dL_law_1081 (tgt := 1307) (by decide) ?_
    refine jj_widen (k' := kc + 2) (n' := ks + 13) (by show kc + 1 + 0 + 0 ≤ kc + 2; omega) (by show ks + 6 + 0 + 0 ≤ ks + 13; omega) ?_
    refine jj_sub [0, 1, 2, 3, 4] (lv' := [(0, _), (1, _), (2, _), (3, _), (4, _)]) rfl ?_
    exact hk _ _ _ _ _ _ (by rw [hoc]; exact hI2)
  · refine jj_if_neT hC dL_law_1066 (tgt := 1081) (by decide) (by rw [hcd]; exact nI_ne0 hc1 (by omega)) ?_
    refine jj_goto hC dL_law_1081 (tgt := 1307) (by decide) ?_
    refine jj_widen (k' := kc + 2) (n' := ks + 13) (by show kc + 1 + 0 + 0 ≤ kc + 2; omega) (by show ks + 6 + 0 + 0 ≤ ks + 13; omega) ?_
    refine jj_sub [0, 1, 2, 3, 4] (lv' := [(0, _), (1, _), (2, _), (3, _), (4, _)]) rfl ?_
    exact hk _ _ _ _ _ _ (by rw [hoc]; exact hI)
set_option maxRecDepth 100000 in
set_option maxHeartbeats 4000000 in
theorem la_finest {E : jj_E} {Q : State → Prop} {sb L : Nat} {xs : Nat → Int32} {c1 c2 c3 : ClassId} (B9 : jj_L E sb L xs c1 c2 c3) (a bb : Nat → Nat) (o : Nat) {v : ts_V} {g : Nat → Int32} {h : Int32} {y : Nat → Int64} {th : Int32} {z : Nat → Int32} (hI : ts_I v) {i kc ks : Nat} (hi : i + 6 ≤ L) (hR : kc + 2 ≤ 601024 ∧ ks + 13 ≤ 7293034) (hk : ∀ (v : ts_V) (g : Nat → Int32) (h : Int32) (y : Nat → Int64) (th : Int32) (z : Nat → Int32), ts_I v → jj_J E (kc + 2) (ks + 13) Q ((wx a c1 c2 v g h ++ ts_oa c3 o y) ++ wm bb c1 v th z) 1307 [(0, .ref sb), (1, .ref (a 0)), (2, .ref (bb 0)), (3, .ref o), (4, .int (nI i))] []) : jj_J E kc ks Q ((wx a c1 c2 v g h ++ ts_oa c3 o y) ++ wm bb c1 v th z) 1084 [(0, .ref sb), (1, .ref (a 0)), (2, .ref (bb 0)), (3, .ref o), (4, .int (nI i))] [] := by
  obtain ⟨hC, hl, hH, hV, hN, hX, hbl, hbA, hL⟩ := id B9
  refine jj_aload_n hC dL_law_1084 rfl ?_
  refine jj_aload_n hC dL_law_1085 rfl ?_
  refine jj_iload hC dL_law_1086 rfl ?_
  refine jj_iconst hC dL_law_1088 (v := nI 1) (by decide) ?_
  refine jj_iaddN hC dL_law_1089 ?_
  refine jj_sld hC hX hbl hbA (by omega) (by omega) dL_law_1090 ?_
  refine jj_aload_n hC dL_law_1091 rfl ?_
  refine jj_scallwL hC hH hV hN (lm_finest _ _ a c1 c2 c3 v g h o y hl hI (xs (i + 1))) gL_law_L_finest rfl 3 (by decide +kernel) ⟨by decide, by decide, by show kc + 1 ≤ 601024; omega, by show ks + 6 ≤ 7293034; omega⟩ rfl rfl rfl (Nat.le_of_ble_eq_true rfl) dL_law_1092 (fun r u hp => ?_)
  obtain ⟨⟨g2, h2⟩, y2⟩ := u
  obtain ⟨rfl, hy⟩ := hp
  refine jj_istore hC dL_law_1095 (by decide) [1, 2, 3, 4, 5, 0] (lv' := [(0, _), (1, _), (2, _), (3, _), (4, _), (5, .int _)]) rfl ?_
  refine jj_aload_n hC dL_law_1097 rfl ?_
  refine jj_aload_n hC dL_law_1098 rfl ?_
  refine jj_iload hC dL_law_1099 rfl ?_
  refine jj_iconst hC dL_law_1101 (v := nI 1) (by decide) ?_
  refine jj_iaddN hC dL_law_1102 ?_
  refine jj_sld hC hX hbl hbA (by omega) (by omega) dL_law_1103 ?_
  refine jj_calliR hC (mo_finest _ _ bb c1 c2 c3 v th z hI (xs (i + 1))) gL_law_X1_finest rfl 1 (by decide +kernel) ⟨by decide, by decide, by show kc + 1 + 0 ≤ 601024; omega, by show ks + 6 + 0 ≤ 7293034; omega⟩ 0 1 (by rfl) rfl rfl rfl rfl (Nat.le_of_ble_eq_true rfl) dL_law_1104 (fun r u hp => ?_)
  obtain rfl := hp
  revert u
  intro z2
  refine jj_istore hC dL_law_1107 (by decide) [1, 2, 3, 4, 5, 6, 0] (lv' := [(0, _), (1, _), (2, _), (3, _), (4, _), (5, _), (6, .int _)]) rfl ?_
  refine jj_aload_n hC dL_law_1109 rfl ?_
  refine jj_calliR hC (mm_thrown _ _ bb c1 c2 c3 (ts_if (ts_req (ts_in (xs (i + 1)) 8) jj_IO) (v) v) (ts_cd 1 0 0 (ts_req (ts_in (xs (i + 1)) 8) jj_IO)) z2) gL_law_X1_thrown rfl 0 (by decide +kernel) ⟨by decide, by decide, by show kc + 1 + 0 + 0 ≤ 601024; omega, by show ks + 6 + 0 + 0 ≤ 7293034; omega⟩ 0 1 (by rfl) rfl rfl rfl rfl (Nat.le_of_ble_eq_true rfl) dL_law_1110 (fun r u hp => ?_)
  obtain rfl := hp
  refine jj_iload hC dL_law_1113 rfl ?_
  refine jj_icmp_eqT hC dL_law_1115 (tgt := 1120) (by decide) rfl ?_
  refine jj_iload hC dL_law_1120 rfl ?_
  rcases lz_finest hI (xs (i + 1)) with ⟨hoc, hI2⟩ | ⟨Ex, c, hoc, hc1, hc2, hcd⟩
  · skip
    refine jj_if_neF hC dL_law_1122 (tgt := 1137) (by decide) (by rw [hoc]; first | rfl | exact fun q => q rfl) ?_
    refine jj_aload_n hC dL_law_1125 rfl ?_
    refine jj_iconst hC dL_law_1126 (v := nI 0) (by decide) ?_
    refine jj_lald hC 26 2 dL_law_1127 (ts_gL (ts_getapp (by rfl))) rfl (by decide) (by decide) ?_
    refine jj_iload hC dL_law_1128 rfl ?_
    refine jj_i2l hC dL_law_1130 ?_
    refine jj_lcmp hC dL_law_1131 ?_
    refine jj_if_eqT hC dL_law_1132 (tgt := 1137) (by decide) (by rw [hy hoc, hoc]; exact ts_lcmp _) ?_
    refine jj_goto hC dL_law_1137 (tgt := 1307) (by decide) ?_
    refine jj_widen (k' := kc + 2) (n' := ks + 13) (by show kc + 1 + 0 + 0 ≤ kc + 2; omega) (by show ks + 6 + 0 + 0 ≤ ks + 13; omega) ?_
    refine jj_sub [0, 1, 2, 3, 4] (lv' := [(0, _), (1, _), (2, _), (3, _), (4, _)]) rfl ?_
    exact hk _ _ _ _ _ _ (by rw [hoc]; exact hI2)
  · refine jj_if_neT hC dL_law_1122 (tgt := 1137) (by decide) (by rw [hcd]; exact nI_ne0 hc1 (by omega)) ?_
    refine jj_goto hC dL_law_1137 (tgt := 1307) (by decide) ?_
    refine jj_widen (k' := kc + 2) (n' := ks + 13) (by show kc + 1 + 0 + 0 ≤ kc + 2; omega) (by show ks + 6 + 0 + 0 ≤ ks + 13; omega) ?_
    refine jj_sub [0, 1, 2, 3, 4] (lv' := [(0, _), (1, _), (2, _), (3, _), (4, _)]) rfl ?_
    exact hk _ _ _ _ _ _ (by rw [hoc]; exact hI)
set_option maxRecDepth 100000 in
set_option maxHeartbeats 4000000 in
theorem la_pass {E : jj_E} {Q : State → Prop} {sb L : Nat} {xs : Nat → Int32} {c1 c2 c3 : ClassId} (B9 : jj_L E sb L xs c1 c2 c3) (a bb : Nat → Nat) (o : Nat) {v : ts_V} {g : Nat → Int32} {h : Int32} {y : Nat → Int64} {th : Int32} {z : Nat → Int32} (hI : ts_I v) {i kc ks : Nat} (hi : i + 6 ≤ L) (hR : kc + 2 ≤ 601024 ∧ ks + 13 ≤ 7293034) (hk : ∀ (v : ts_V) (g : Nat → Int32) (h : Int32) (y : Nat → Int64) (th : Int32) (z : Nat → Int32), ts_I v → jj_J E (kc + 2) (ks + 13) Q ((wx a c1 c2 v g h ++ ts_oa c3 o y) ++ wm bb c1 v th z) 1307 [(0, .ref sb), (1, .ref (a 0)), (2, .ref (bb 0)), (3, .ref o), (4, .int (nI i))] []) : jj_J E kc ks Q ((wx a c1 c2 v g h ++ ts_oa c3 o y) ++ wm bb c1 v th z) 1140 [(0, .ref sb), (1, .ref (a 0)), (2, .ref (bb 0)), (3, .ref o), (4, .int (nI i))] [] := by
  obtain ⟨hC, hl, hH, hV, hN, hX, hbl, hbA, hL⟩ := id B9
  refine jj_aload_n hC dL_law_1140 rfl ?_
  refine jj_aload_n hC dL_law_1141 rfl ?_
  refine jj_iload hC dL_law_1142 rfl ?_
  refine jj_iconst hC dL_law_1144 (v := nI 1) (by decide) ?_
  refine jj_iaddN hC dL_law_1145 ?_
  refine jj_sld hC hX hbl hbA (by omega) (by omega) dL_law_1146 ?_
  refine jj_aload_n hC dL_law_1147 rfl ?_
  refine jj_scallwL hC hH hV hN (lm_pass _ _ a c1 c2 c3 v g h o y hl hI (xs (i + 1))) gL_law_L_pass rfl 3 (by decide +kernel) ⟨by decide, by decide, by show kc + 1 ≤ 601024; omega, by show ks + 6 ≤ 7293034; omega⟩ rfl rfl rfl (Nat.le_of_ble_eq_true rfl) dL_law_1148 (fun r u hp => ?_)
  obtain ⟨⟨g2, h2⟩, y2⟩ := u
  obtain ⟨rfl, hy⟩ := hp
  refine jj_istore hC dL_law_1151 (by decide) [1, 2, 3, 4, 5, 0] (lv' := [(0, _), (1, _), (2, _), (3, _), (4, _), (5, .int _)]) rfl ?_
  refine jj_aload_n hC dL_law_1153 rfl ?_
  refine jj_aload_n hC dL_law_1154 rfl ?_
  refine jj_iload hC dL_law_1155 rfl ?_
  refine jj_iconst hC dL_law_1157 (v := nI 1) (by decide) ?_
  refine jj_iaddN hC dL_law_1158 ?_
  refine jj_sld hC hX hbl hbA (by omega) (by omega) dL_law_1159 ?_
  refine jj_calliR hC (mo_pass _ _ bb c1 c2 c3 v th z hI (xs (i + 1))) gL_law_X1_pass rfl 1 (by decide +kernel) ⟨by decide, by decide, by show kc + 1 + 0 ≤ 601024; omega, by show ks + 6 + 0 ≤ 7293034; omega⟩ 0 1 (by rfl) rfl rfl rfl rfl (Nat.le_of_ble_eq_true rfl) dL_law_1160 (fun r u hp => ?_)
  obtain rfl := hp
  revert u
  intro z2
  refine jj_istore hC dL_law_1163 (by decide) [1, 2, 3, 4, 5, 6, 0] (lv' := [(0, _), (1, _), (2, _), (3, _), (4, _), (5, _), (6, .int _)]) rfl ?_
  refine jj_aload_n hC dL_law_1165 rfl ?_
  refine jj_calliR hC (mm_thrown _ _ bb c1 c2 c3 (ts_if (ts_req (ts_rg (xs (i + 1)) 1 60) jj_IA) ((ts_pa v (ts_N (xs (i + 1)))).1) v) (ts_cd 0 1 0 (ts_req (ts_rg (xs (i + 1)) 1 60) jj_IA)) z2) gL_law_X1_thrown rfl 0 (by decide +kernel) ⟨by decide, by decide, by show kc + 1 + 0 + 0 ≤ 601024; omega, by show ks + 6 + 0 + 0 ≤ 7293034; omega⟩ 0 1 (by rfl) rfl rfl rfl rfl (Nat.le_of_ble_eq_true rfl) dL_law_1166 (fun r u hp => ?_)
  obtain rfl := hp
  refine jj_iload hC dL_law_1169 rfl ?_
  refine jj_icmp_eqT hC dL_law_1171 (tgt := 1176) (by decide) rfl ?_
  refine jj_iload hC dL_law_1176 rfl ?_
  rcases lz_pass hI (xs (i + 1)) with ⟨hoc, hI2⟩ | ⟨Ex, c, hoc, hc1, hc2, hcd⟩
  · skip
    refine jj_if_neF hC dL_law_1178 (tgt := 1193) (by decide) (by rw [hoc]; first | rfl | exact fun q => q rfl) ?_
    refine jj_aload_n hC dL_law_1181 rfl ?_
    refine jj_iconst hC dL_law_1182 (v := nI 0) (by decide) ?_
    refine jj_lald hC 26 2 dL_law_1183 (ts_gL (ts_getapp (by rfl))) rfl (by decide) (by decide) ?_
    refine jj_iload hC dL_law_1184 rfl ?_
    refine jj_i2l hC dL_law_1186 ?_
    refine jj_lcmp hC dL_law_1187 ?_
    refine jj_if_eqT hC dL_law_1188 (tgt := 1193) (by decide) (by rw [hy hoc, hoc]; exact ts_lcmp _) ?_
    refine jj_goto hC dL_law_1193 (tgt := 1307) (by decide) ?_
    refine jj_widen (k' := kc + 2) (n' := ks + 13) (by show kc + 1 + 0 + 0 ≤ kc + 2; omega) (by show ks + 6 + 0 + 0 ≤ ks + 13; omega) ?_
    refine jj_sub [0, 1, 2, 3, 4] (lv' := [(0, _), (1, _), (2, _), (3, _), (4, _)]) rfl ?_
    exact hk _ _ _ _ _ _ (by rw [hoc]; exact hI2)
  · refine jj_if_neT hC dL_law_1178 (tgt := 1193) (by decide) (by rw [hcd]; exact nI_ne0 hc1 (by omega)) ?_
    refine jj_goto hC dL_law_1193 (tgt := 1307) (by decide) ?_
    refine jj_widen (k' := kc + 2) (n' := ks + 13) (by show kc + 1 + 0 + 0 ≤ kc + 2; omega) (by show ks + 6 + 0 + 0 ≤ ks + 13; omega) ?_
    refine jj_sub [0, 1, 2, 3, 4] (lv' := [(0, _), (1, _), (2, _), (3, _), (4, _)]) rfl ?_
    exact hk _ _ _ _ _ _ (by rw [hoc]; exact hI)
set_option maxRecDepth 100000 in
set_option maxHeartbeats 4000000 in
theorem la_count {E : jj_E} {Q : State → Prop} {sb L : Nat} {xs : Nat → Int32} {c1 c2 c3 : ClassId} (B9 : jj_L E sb L xs c1 c2 c3) (a bb : Nat → Nat) (o : Nat) {v : ts_V} {g : Nat → Int32} {h : Int32} {y : Nat → Int64} {th : Int32} {z : Nat → Int32} (hI : ts_I v) {i kc ks : Nat} (hi : i + 6 ≤ L) (hR : kc + 2 ≤ 601024 ∧ ks + 13 ≤ 7293034) (hk : ∀ (v : ts_V) (g : Nat → Int32) (h : Int32) (y : Nat → Int64) (th : Int32) (z : Nat → Int32), ts_I v → jj_J E (kc + 2) (ks + 13) Q ((wx a c1 c2 v g h ++ ts_oa c3 o y) ++ wm bb c1 v th z) 1307 [(0, .ref sb), (1, .ref (a 0)), (2, .ref (bb 0)), (3, .ref o), (4, .int (nI i))] []) : jj_J E kc ks Q ((wx a c1 c2 v g h ++ ts_oa c3 o y) ++ wm bb c1 v th z) 1196 [(0, .ref sb), (1, .ref (a 0)), (2, .ref (bb 0)), (3, .ref o), (4, .int (nI i))] [] := by
  obtain ⟨hC, hl, hH, hV, hN, hX, hbl, hbA, hL⟩ := id B9
  refine jj_aload_n hC dL_law_1196 rfl ?_
  refine jj_aload_n hC dL_law_1197 rfl ?_
  refine jj_iload hC dL_law_1198 rfl ?_
  refine jj_iconst hC dL_law_1200 (v := nI 1) (by decide) ?_
  refine jj_iaddN hC dL_law_1201 ?_
  refine jj_sld hC hX hbl hbA (by omega) (by omega) dL_law_1202 ?_
  refine jj_aload_n hC dL_law_1203 rfl ?_
  refine jj_scallwL hC hH hV hN (lm_count _ _ a c1 c2 c3 v g h o y hl hI (xs (i + 1))) gL_law_L_count rfl 3 (by decide +kernel) ⟨by decide, by decide, by show kc + 1 ≤ 601024; omega, by show ks + 6 ≤ 7293034; omega⟩ rfl rfl rfl (Nat.le_of_ble_eq_true rfl) dL_law_1204 (fun r u hp => ?_)
  obtain ⟨⟨g2, h2⟩, y2⟩ := u
  obtain ⟨rfl, hy⟩ := hp
  refine jj_istore hC dL_law_1207 (by decide) [1, 2, 3, 4, 5, 0] (lv' := [(0, _), (1, _), (2, _), (3, _), (4, _), (5, .int _)]) rfl ?_
  refine jj_aload_n hC dL_law_1209 rfl ?_
  refine jj_aload_n hC dL_law_1210 rfl ?_
  refine jj_iload hC dL_law_1211 rfl ?_
  refine jj_iconst hC dL_law_1213 (v := nI 1) (by decide) ?_
  refine jj_iaddN hC dL_law_1214 ?_
  refine jj_sld hC hX hbl hbA (by omega) (by omega) dL_law_1215 ?_
  refine jj_calliR hC (mo_count _ _ bb c1 c2 c3 v th z hI (xs (i + 1))) gL_law_X1_count rfl 1 (by decide +kernel) ⟨by decide, by decide, by show kc + 1 + 0 ≤ 601024; omega, by show ks + 6 + 0 ≤ 7293034; omega⟩ 0 1 (by rfl) rfl rfl rfl rfl (Nat.le_of_ble_eq_true rfl) dL_law_1216 (fun r u hp => ?_)
  obtain rfl := hp
  revert u
  intro z2
  refine jj_istore hC dL_law_1219 (by decide) [1, 2, 3, 4, 5, 6, 0] (lv' := [(0, _), (1, _), (2, _), (3, _), (4, _), (5, _), (6, .int _)]) rfl ?_
  refine jj_aload_n hC dL_law_1221 rfl ?_
  refine jj_calliR hC (mm_thrown _ _ bb c1 c2 c3 (ts_if (ts_req (ts_in (xs (i + 1)) 7) jj_IO) (v) v) (ts_cd 1 0 0 (ts_req (ts_in (xs (i + 1)) 7) jj_IO)) z2) gL_law_X1_thrown rfl 0 (by decide +kernel) ⟨by decide, by decide, by show kc + 1 + 0 + 0 ≤ 601024; omega, by show ks + 6 + 0 + 0 ≤ 7293034; omega⟩ 0 1 (by rfl) rfl rfl rfl rfl (Nat.le_of_ble_eq_true rfl) dL_law_1222 (fun r u hp => ?_)
  obtain rfl := hp
  refine jj_iload hC dL_law_1225 rfl ?_
  refine jj_icmp_eqT hC dL_law_1227 (tgt := 1232) (by decide) rfl ?_
  refine jj_iload hC dL_law_1232 rfl ?_
  rcases lz_count hI (xs (i + 1)) with ⟨hoc, hI2⟩ | ⟨Ex, c, hoc, hc1, hc2, hcd⟩
  · skip
    refine jj_if_neF hC dL_law_1234 (tgt := 1249) (by decide) (by rw [hoc]; first | rfl | exact fun q => q rfl) ?_
    refine jj_aload_n hC dL_law_1237 rfl ?_
    refine jj_iconst hC dL_law_1238 (v := nI 0) (by decide) ?_
    refine jj_lald hC 26 2 dL_law_1239 (ts_gL (ts_getapp (by rfl))) rfl (by decide) (by decide) ?_
    refine jj_iload hC dL_law_1240 rfl ?_
    refine jj_i2l hC dL_law_1242 ?_
    refine jj_lcmp hC dL_law_1243 ?_
    refine jj_if_eqT hC dL_law_1244 (tgt := 1249) (by decide) (by rw [hy hoc, hoc]; exact ts_lcmp _) ?_
    refine jj_goto hC dL_law_1249 (tgt := 1307) (by decide) ?_
    refine jj_widen (k' := kc + 2) (n' := ks + 13) (by show kc + 1 + 0 + 0 ≤ kc + 2; omega) (by show ks + 6 + 0 + 0 ≤ ks + 13; omega) ?_
    refine jj_sub [0, 1, 2, 3, 4] (lv' := [(0, _), (1, _), (2, _), (3, _), (4, _)]) rfl ?_
    exact hk _ _ _ _ _ _ (by rw [hoc]; exact hI2)
  · refine jj_if_neT hC dL_law_1234 (tgt := 1249) (by decide) (by rw [hcd]; exact nI_ne0 hc1 (by omega)) ?_
    refine jj_goto hC dL_law_1249 (tgt := 1307) (by decide) ?_
    refine jj_widen (k' := kc + 2) (n' := ks + 13) (by show kc + 1 + 0 + 0 ≤ kc + 2; omega) (by show ks + 6 + 0 + 0 ≤ ks + 13; omega) ?_
    refine jj_sub [0, 1, 2, 3, 4] (lv' := [(0, _), (1, _), (2, _), (3, _), (4, _)]) rfl ?_
    exact hk _ _ _ _ _ _ (by rw [hoc]; exact hI)
set_option maxRecDepth 100000 in
set_option maxHeartbeats 4000000 in
theorem la_mean {E : jj_E} {Q : State → Prop} {sb L : Nat} {xs : Nat → Int32} {c1 c2 c3 : ClassId} (B9 : jj_L E sb L xs c1 c2 c3) (a bb : Nat → Nat) (o : Nat) {v : ts_V} {g : Nat → Int32} {h : Int32} {y : Nat → Int64} {th : Int32} {z : Nat → Int32} (hI : ts_I v) {i kc ks : Nat} (hi : i + 6 ≤ L) (hR : kc + 2 ≤ 601024 ∧ ks + 13 ≤ 7293034) (hk : ∀ (v : ts_V) (g : Nat → Int32) (h : Int32) (y : Nat → Int64) (th : Int32) (z : Nat → Int32), ts_I v → jj_J E (kc + 2) (ks + 13) Q ((wx a c1 c2 v g h ++ ts_oa c3 o y) ++ wm bb c1 v th z) 1307 [(0, .ref sb), (1, .ref (a 0)), (2, .ref (bb 0)), (3, .ref o), (4, .int (nI i))] []) : jj_J E kc ks Q ((wx a c1 c2 v g h ++ ts_oa c3 o y) ++ wm bb c1 v th z) 1252 [(0, .ref sb), (1, .ref (a 0)), (2, .ref (bb 0)), (3, .ref o), (4, .int (nI i))] [] := by
  obtain ⟨hC, hl, hH, hV, hN, hX, hbl, hbA, hL⟩ := id B9
  refine jj_aload_n hC dL_law_1252 rfl ?_
  refine jj_ws (ws' := wx a c1 c2 v g h ++ (ts_oa c3 o y ++ wm bb c1 v th z)) (List.append_assoc ..) ?_
  refine jj_calldL hC (xm_mean _ _ a c1 c2 c3 v g h hI) gL_law_X0_mean rfl 0 (by decide +kernel) ⟨by decide, by decide, by show kc + 0 ≤ 601024; omega, by show ks + 0 ≤ 7293034; omega⟩ 0 0 (by rfl) rfl rfl rfl rfl (Nat.le_of_ble_eq_true rfl) dL_law_1253 (fun r u hp => ?_)
  obtain rfl := hp
  obtain ⟨g2, h2⟩ := u
  refine jj_ws (ws' := (wx a c1 c2 v g2 h2 ++ ts_oa c3 o y) ++ wm bb c1 v th z) (List.append_assoc ..).symm ?_
  refine jj_dstore hC dL_law_1256 (by decide) [1, 2, 3, 4, 5, 0] (lv' := [(0, _), (1, _), (2, _), (3, _), (4, _), (5, .double _)]) rfl ?_
  refine jj_aload_n hC dL_law_1258 rfl ?_
  refine jj_calldR hC (mo_mean _ _ bb c1 c2 c3 v th z hI) gL_law_X1_mean rfl 0 (by decide +kernel) ⟨by decide, by decide, by show kc + 0 + 0 ≤ 601024; omega, by show ks + 0 + 0 ≤ 7293034; omega⟩ 0 1 (by rfl) rfl rfl rfl rfl (Nat.le_of_ble_eq_true rfl) dL_law_1259 (fun r u hp => ?_)
  obtain rfl := hp
  revert u
  intro z2
  refine jj_dstore hC dL_law_1262 (by decide) [1, 2, 3, 4, 5, 6, 0] (lv' := [(0, _), (1, _), (2, _), (3, _), (4, _), (5, _), (7, .double _)]) rfl ?_
  refine jj_dload hC dL_law_1264 rfl ?_
  refine jj_dload hC dL_law_1266 rfl ?_
  refine jj_dcmp hC dL_law_1268 ?_
  refine jj_if_eqT hC dL_law_1269 (tgt := 1290) (by decide) (ts_dcmp (ts_me_nn hI) _) ?_
  refine jj_goto hC dL_law_1290 (tgt := 1307) (by decide) ?_
  refine jj_widen (k' := kc + 2) (n' := ks + 13) (by show kc + 0 + 0 ≤ kc + 2; omega) (by show ks + 0 + 0 ≤ ks + 13; omega) ?_
  refine jj_sub [0, 1, 2, 3, 4] (lv' := [(0, _), (1, _), (2, _), (3, _), (4, _)]) rfl ?_
  exact hk _ _ _ _ _ _ hI
set_option maxRecDepth 100000 in
set_option maxHeartbeats 4000000 in
theorem la_digest {E : jj_E} {Q : State → Prop} {sb L : Nat} {xs : Nat → Int32} {c1 c2 c3 : ClassId} (B9 : jj_L E sb L xs c1 c2 c3) (a bb : Nat → Nat) (o : Nat) {v : ts_V} {g : Nat → Int32} {h : Int32} {y : Nat → Int64} {th : Int32} {z : Nat → Int32} (hI : ts_I v) {i kc ks : Nat} (hi : i + 6 ≤ L) (hR : kc + 2 ≤ 601024 ∧ ks + 13 ≤ 7293034) (hk : ∀ (v : ts_V) (g : Nat → Int32) (h : Int32) (y : Nat → Int64) (th : Int32) (z : Nat → Int32), ts_I v → jj_J E (kc + 2) (ks + 13) Q ((wx a c1 c2 v g h ++ ts_oa c3 o y) ++ wm bb c1 v th z) 1307 [(0, .ref sb), (1, .ref (a 0)), (2, .ref (bb 0)), (3, .ref o), (4, .int (nI i))] []) : jj_J E kc ks Q ((wx a c1 c2 v g h ++ ts_oa c3 o y) ++ wm bb c1 v th z) 1293 [(0, .ref sb), (1, .ref (a 0)), (2, .ref (bb 0)), (3, .ref o), (4, .int (nI i))] [] := by
  obtain ⟨hC, hl, hH, hV, hN, hX, hbl, hbA, hL⟩ := id B9
  refine jj_aload_n hC dL_law_1293 rfl ?_
  refine jj_ws (ws' := wx a c1 c2 v g h ++ (ts_oa c3 o y ++ wm bb c1 v th z)) (List.append_assoc ..) ?_
  refine jj_calllL hC (xm_digest _ _ a c1 c2 c3 v g h hI) gL_law_X0_digest rfl 0 (by decide +kernel) ⟨by decide, by decide, by show kc + 0 ≤ 601024; omega, by show ks + 0 ≤ 7293034; omega⟩ 0 0 (by rfl) rfl rfl rfl rfl (Nat.le_of_ble_eq_true rfl) dL_law_1294 (fun r u hp => ?_)
  obtain rfl := hp
  obtain ⟨g2, h2⟩ := u
  refine jj_ws (ws' := (wx a c1 c2 v g2 h2 ++ ts_oa c3 o y) ++ wm bb c1 v th z) (List.append_assoc ..).symm ?_
  refine jj_aload_n hC dL_law_1297 rfl ?_
  refine jj_calllR hC (mo_digest _ _ bb c1 c2 c3 v th z hI) gL_law_X1_digest rfl 0 (by decide +kernel) ⟨by decide, by decide, by show kc + 0 + 0 ≤ 601024; omega, by show ks + 0 + 0 ≤ 7293034; omega⟩ 0 1 (by rfl) rfl rfl rfl rfl (Nat.le_of_ble_eq_true rfl) dL_law_1298 (fun r u hp => ?_)
  obtain rfl := hp
  revert u
  intro z2
  refine jj_lcmp hC dL_law_1301 ?_
  refine jj_if_eqT hC dL_law_1302 (tgt := 1307) (by decide) (ts_lcmp _) ?_
  refine jj_widen (k' := kc + 2) (n' := ks + 13) (by show kc + 0 + 0 ≤ kc + 2; omega) (by show ks + 0 + 0 ≤ ks + 13; omega) ?_
  refine jj_sub [0, 1, 2, 3, 4] (lv' := [(0, _), (1, _), (2, _), (3, _), (4, _)]) rfl ?_
  exact hk _ _ _ _ _ _ hI
