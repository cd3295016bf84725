set_option maxHeartbeats 1000000 in
theorem lc_feed {X : CT} {l : Launch} {g : GT} {b0 L : Nat} {xs : Nat → Int32} {x : Nat} {a : Nat → Nat → Nat} {kp : Int32} {rd nw i0 i1 fa bo pl dr : S2} {b : Nat → Nat} {σ : S2} {ix : Nat} (hX : oK X l g RL code room_1) (hL : pL X b0 L xs) (hi : ix + 4 ≤ L) (hL2 : L ≤ 256) (hR : Rel kp rd nw i0 i1 fa bo pl σ) (k : KK X g b0 x b ix) : vJ X 54 927 (wX g x a kp rd nw i0 i1 fa bo pl dr ++ wM g b σ) 172 [some (.ref b0), some (.ref x), some (.ref (b 0)), some (.int (nI ix))] [] := by
  obtain ⟨o, kp', rd', nw', i0', i1', fa', bo', pl', dr', σ', cX, cM, hR'⟩ := st_feed (l := l) (g := g) (x := x) (a := a) (dr := dr) (b := b) hR (xs (nI ix + 1).toNatClampNeg)
  refine r_aload1 hX dL_law_172 ?_
  refine r_aload0 hX dL_law_173 ?_
  refine r_iload3 hX dL_law_174 ?_
  refine r_push hX dL_law_175 ?_
  refine r_iadd hX dL_law_176 ?_
  refine r_sld hX hL dL_law_177 (sidx (k := 1) rfl (by omega) hL2) ?_
  refine r_cV1i hX dL_law_178 kX5_feed (frm_l ad_wX) cX rfl (by decide) (Nat.le_of_ble_eq_true rfl) ?_
  refine r_aload2 hX dL_law_181 ?_
  refine r_aload0 hX dL_law_182 ?_
  refine r_iload3 hX dL_law_183 ?_
  refine r_push hX dL_law_184 ?_
  refine r_iadd hX dL_law_185 ?_
  refine r_sld hX hL dL_law_186 (sidx (k := 1) rfl (by omega) hL2) ?_
  refine r_cV1i hX dL_law_187 kX6_feed (frm_r ad_wM) cM rfl (by decide) (Nat.le_of_ble_eq_true rfl) ?_
  refine r_ic_eq hX dL_law_190 (fun _ => ?_) (fun h => absurd rfl h)
  exact k a kp' rd' nw' i0' i1' fa' bo' pl' dr' σ' hR'
set_option maxHeartbeats 1000000 in
theorem lc_street {X : CT} {l : Launch} {g : GT} {b0 L : Nat} {xs : Nat → Int32} {x : Nat} {a : Nat → Nat → Nat} {kp : Int32} {rd nw i0 i1 fa bo pl dr : S2} {b : Nat → Nat} {σ : S2} {ix : Nat} (hX : oK X l g RL code room_1) (hL : pL X b0 L xs) (hi : ix + 4 ≤ L) (hL2 : L ≤ 256) (hR : Rel kp rd nw i0 i1 fa bo pl σ) (k : KK X g b0 x b ix) : vJ X 54 927 (wX g x a kp rd nw i0 i1 fa bo pl dr ++ wM g b σ) 195 [some (.ref b0), some (.ref x), some (.ref (b 0)), some (.int (nI ix))] [] := by
  rcases st_street (l := l) (g := g) (x := x) (a := a) (dr := dr) (b := b) hR with ⟨o, kp', rd', nw', i0', i1', fa', bo', pl', dr', σ', cX, cM, hR'⟩ | ⟨o, rd', nw', fa', bo', dr', σ', cX, cM, hR'⟩
  · refine r_aload1 hX dL_law_195 ?_
    refine r_cV0i hX dL_law_196 kX5_street (frm_l ad_wX) cX rfl (by decide) (Nat.le_of_ble_eq_true rfl) ?_
    refine r_aload2 hX dL_law_199 ?_
    refine r_cV0i hX dL_law_200 kX6_street (frm_r ad_wM) cM rfl (by decide) (Nat.le_of_ble_eq_true rfl) ?_
    refine r_ic_eq hX dL_law_203 (fun _ => ?_) (fun h => absurd rfl h)
    exact k a kp' rd' nw' i0' i1' fa' bo' pl' dr' σ' hR'
  · refine r_aload1 hX dL_law_195 ?_
    refine r_cV0i hX dL_law_196 kX5_street (frm_l ad_wXs) cX rfl (by decide) (Nat.le_of_ble_eq_true rfl) ?_
    refine r_aload2 hX dL_law_199 ?_
    refine r_cV0i hX dL_law_200 kX6_street (frm_r ad_wM) cM rfl (by decide) (Nat.le_of_ble_eq_true rfl) ?_
    refine r_ic_eq hX dL_law_203 (fun _ => ?_) (fun h => absurd rfl h)
    exact r_perm [0, 1, 2, 3, 4, 5, 6, 7, 8, 9, 10, 11, 12, 13, 14, 15, 16, 17, 18, 25, 26, 27, 28, 29, 30, 19, 20, 21, 22, 23, 24, 31, 32, 33, 34, 35, 36, 37, 38, 39, 40, 41, 42, 43, 44, 45, 46, 47, 48, 49, 50, 51, 52, 53] (by decide) rfl (k (swp a) 0 rd' nw' i0 i1 fa' bo' dr' pl σ' hR')
set_option maxHeartbeats 1000000 in
theorem lc_fault {X : CT} {l : Launch} {g : GT} {b0 L : Nat} {xs : Nat → Int32} {x : Nat} {a : Nat → Nat → Nat} {kp : Int32} {rd nw i0 i1 fa bo pl dr : S2} {b : Nat → Nat} {σ : S2} {ix : Nat} (hX : oK X l g RL code room_1) (hL : pL X b0 L xs) (hi : ix + 4 ≤ L) (hL2 : L ≤ 256) (hR : Rel kp rd nw i0 i1 fa bo pl σ) (k : KK X g b0 x b ix) : vJ X 54 927 (wX g x a kp rd nw i0 i1 fa bo pl dr ++ wM g b σ) 208 [some (.ref b0), some (.ref x), some (.ref (b 0)), some (.int (nI ix))] [] := by
  obtain ⟨o, kp', rd', nw', i0', i1', fa', bo', pl', dr', σ', cX, cM, hR'⟩ := st_fault (l := l) (g := g) (x := x) (a := a) (dr := dr) (b := b) hR 
  refine r_aload1 hX dL_law_208 ?_
  refine r_cV0i hX dL_law_209 kX5_fault (frm_l ad_wX) cX rfl (by decide) (Nat.le_of_ble_eq_true rfl) ?_
  refine r_aload2 hX dL_law_212 ?_
  refine r_cV0i hX dL_law_213 kX6_fault (frm_r ad_wM) cM rfl (by decide) (Nat.le_of_ble_eq_true rfl) ?_
  refine r_ic_eq hX dL_law_216 (fun _ => ?_) (fun h => absurd rfl h)
  exact k a kp' rd' nw' i0' i1' fa' bo' pl' dr' σ' hR'
set_option maxHeartbeats 1000000 in
theorem lc_told {X : CT} {l : Launch} {g : GT} {b0 L : Nat} {xs : Nat → Int32} {x : Nat} {a : Nat → Nat → Nat} {kp : Int32} {rd nw i0 i1 fa bo pl dr : S2} {b : Nat → Nat} {σ : S2} {ix : Nat} (hX : oK X l g RL code room_1) (hL : pL X b0 L xs) (hi : ix + 4 ≤ L) (hL2 : L ≤ 256) (hR : Rel kp rd nw i0 i1 fa bo pl σ) (k : KK X g b0 x b ix) : vJ X 54 927 (wX g x a kp rd nw i0 i1 fa bo pl dr ++ wM g b σ) 221 [some (.ref b0), some (.ref x), some (.ref (b 0)), some (.int (nI ix))] [] := by
  obtain ⟨o, kp', rd', nw', i0', i1', fa', bo', pl', dr', σ', cX, cM, hR'⟩ := st_told (l := l) (g := g) (x := x) (a := a) (dr := dr) (b := b) hR (xs (nI ix + 1).toNatClampNeg)
  refine r_aload1 hX dL_law_221 ?_
  refine r_aload0 hX dL_law_222 ?_
  refine r_iload3 hX dL_law_223 ?_
  refine r_push hX dL_law_224 ?_
  refine r_iadd hX dL_law_225 ?_
  refine r_sld hX hL dL_law_226 (sidx (k := 1) rfl (by omega) hL2) ?_
  refine r_cV1i hX dL_law_227 kX5_told (frm_l ad_wX) cX rfl (by decide) (Nat.le_of_ble_eq_true rfl) ?_
  refine r_aload2 hX dL_law_230 ?_
  refine r_aload0 hX dL_law_231 ?_
  refine r_iload3 hX dL_law_232 ?_
  refine r_push hX dL_law_233 ?_
  refine r_iadd hX dL_law_234 ?_
  refine r_sld hX hL dL_law_235 (sidx (k := 1) rfl (by omega) hL2) ?_
  refine r_cV1i hX dL_law_236 kX6_told (frm_r ad_wM) cM rfl (by decide) (Nat.le_of_ble_eq_true rfl) ?_
  refine r_ic_eq hX dL_law_239 (fun _ => ?_) (fun h => absurd rfl h)
  exact k a kp' rd' nw' i0' i1' fa' bo' pl' dr' σ' hR'
set_option maxHeartbeats 1000000 in
theorem lc_chalk {X : CT} {l : Launch} {g : GT} {b0 L : Nat} {xs : Nat → Int32} {x : Nat} {a : Nat → Nat → Nat} {kp : Int32} {rd nw i0 i1 fa bo pl dr : S2} {b : Nat → Nat} {σ : S2} {ix : Nat} (hX : oK X l g RL code room_1) (hL : pL X b0 L xs) (hi : ix + 4 ≤ L) (hL2 : L ≤ 256) (hR : Rel kp rd nw i0 i1 fa bo pl σ) (k : KK X g b0 x b ix) : vJ X 54 927 (wX g x a kp rd nw i0 i1 fa bo pl dr ++ wM g b σ) 244 [some (.ref b0), some (.ref x), some (.ref (b 0)), some (.int (nI ix))] [] := by
  obtain ⟨o, kp', rd', nw', i0', i1', fa', bo', pl', dr', σ', cX, cM, hR'⟩ := st_chalk (l := l) (g := g) (x := x) (a := a) (dr := dr) (b := b) hR (xs (nI ix + 1).toNatClampNeg) (xs (nI ix + 2).toNatClampNeg)
  refine r_aload1 hX dL_law_244 ?_
  refine r_aload0 hX dL_law_245 ?_
  refine r_iload3 hX dL_law_246 ?_
  refine r_push hX dL_law_247 ?_
  refine r_iadd hX dL_law_248 ?_
  refine r_sld hX hL dL_law_249 (sidx (k := 1) rfl (by omega) hL2) ?_
  refine r_aload0 hX dL_law_250 ?_
  refine r_iload3 hX dL_law_251 ?_
  refine r_push hX dL_law_252 ?_
  refine r_iadd hX dL_law_253 ?_
  refine r_sld hX hL dL_law_254 (sidx (k := 2) rfl (by omega) hL2) ?_
  refine r_cV2i hX dL_law_255 kX5_chalk (frm_l ad_wX) cX rfl (by decide) (Nat.le_of_ble_eq_true rfl) ?_
  refine r_aload2 hX dL_law_258 ?_
  refine r_aload0 hX dL_law_259 ?_
  refine r_iload3 hX dL_law_260 ?_
  refine r_push hX dL_law_261 ?_
  refine r_iadd hX dL_law_262 ?_
  refine r_sld hX hL dL_law_263 (sidx (k := 1) rfl (by omega) hL2) ?_
  refine r_aload0 hX dL_law_264 ?_
  refine r_iload3 hX dL_law_265 ?_
  refine r_push hX dL_law_266 ?_
  refine r_iadd hX dL_law_267 ?_
  refine r_sld hX hL dL_law_268 (sidx (k := 2) rfl (by omega) hL2) ?_
  refine r_cV2i hX dL_law_269 kX6_chalk (frm_r ad_wM) cM rfl (by decide) (Nat.le_of_ble_eq_true rfl) ?_
  refine r_ic_eq hX dL_law_272 (fun _ => ?_) (fun h => absurd rfl h)
  exact k a kp' rd' nw' i0' i1' fa' bo' pl' dr' σ' hR'
set_option maxHeartbeats 1000000 in
theorem lc_door {X : CT} {l : Launch} {g : GT} {b0 L : Nat} {xs : Nat → Int32} {x : Nat} {a : Nat → Nat → Nat} {kp : Int32} {rd nw i0 i1 fa bo pl dr : S2} {b : Nat → Nat} {σ : S2} {ix : Nat} (hX : oK X l g RL code room_1) (hL : pL X b0 L xs) (hi : ix + 4 ≤ L) (hL2 : L ≤ 256) (hR : Rel kp rd nw i0 i1 fa bo pl σ) (k : KK X g b0 x b ix) : vJ X 54 927 (wX g x a kp rd nw i0 i1 fa bo pl dr ++ wM g b σ) 277 [some (.ref b0), some (.ref x), some (.ref (b 0)), some (.int (nI ix))] [] := by
  obtain ⟨o, kp', rd', nw', i0', i1', fa', bo', pl', dr', σ', cX, cM, hR'⟩ := st_door (l := l) (g := g) (x := x) (a := a) (dr := dr) (b := b) hR (xs (nI ix + 1).toNatClampNeg) (xs (nI ix + 2).toNatClampNeg)
  refine r_aload1 hX dL_law_277 ?_
  refine r_aload0 hX dL_law_278 ?_
  refine r_iload3 hX dL_law_279 ?_
  refine r_push hX dL_law_280 ?_
  refine r_iadd hX dL_law_281 ?_
  refine r_sld hX hL dL_law_282 (sidx (k := 1) rfl (by omega) hL2) ?_
  refine r_aload0 hX dL_law_283 ?_
  refine r_iload3 hX dL_law_284 ?_
  refine r_push hX dL_law_285 ?_
  refine r_iadd hX dL_law_286 ?_
  refine r_sld hX hL dL_law_287 (sidx (k := 2) rfl (by omega) hL2) ?_
  refine r_cV2i hX dL_law_288 kX5_door (frm_l ad_wX) cX rfl (by decide) (Nat.le_of_ble_eq_true rfl) ?_
  refine r_aload2 hX dL_law_291 ?_
  refine r_aload0 hX dL_law_292 ?_
  refine r_iload3 hX dL_law_293 ?_
  refine r_push hX dL_law_294 ?_
  refine r_iadd hX dL_law_295 ?_
  refine r_sld hX hL dL_law_296 (sidx (k := 1) rfl (by omega) hL2) ?_
  refine r_aload0 hX dL_law_297 ?_
  refine r_iload3 hX dL_law_298 ?_
  refine r_push hX dL_law_299 ?_
  refine r_iadd hX dL_law_300 ?_
  refine r_sld hX hL dL_law_301 (sidx (k := 2) rfl (by omega) hL2) ?_
  refine r_cV2i hX dL_law_302 kX6_door (frm_r ad_wM) cM rfl (by decide) (Nat.le_of_ble_eq_true rfl) ?_
  refine r_ic_eq hX dL_law_305 (fun _ => ?_) (fun h => absurd rfl h)
  exact k a kp' rd' nw' i0' i1' fa' bo' pl' dr' σ' hR'
set_option maxHeartbeats 1000000 in
theorem lc_mark {X : CT} {l : Launch} {g : GT} {b0 L : Nat} {xs : Nat → Int32} {x : Nat} {a : Nat → Nat → Nat} {kp : Int32} {rd nw i0 i1 fa bo pl dr : S2} {b : Nat → Nat} {σ : S2} {ix : Nat} (hX : oK X l g RL code room_1) (hL : pL X b0 L xs) (hi : ix + 4 ≤ L) (hL2 : L ≤ 256) (hR : Rel kp rd nw i0 i1 fa bo pl σ) (k : KK X g b0 x b ix) : vJ X 54 927 (wX g x a kp rd nw i0 i1 fa bo pl dr ++ wM g b σ) 310 [some (.ref b0), some (.ref x), some (.ref (b 0)), some (.int (nI ix))] [] := by
  obtain ⟨o, kp', rd', nw', i0', i1', fa', bo', pl', dr', σ', cX, cM, hR'⟩ := st_mark (l := l) (g := g) (x := x) (a := a) (dr := dr) (b := b) hR (xs (nI ix + 1).toNatClampNeg) (xs (nI ix + 2).toNatClampNeg)
  refine r_aload1 hX dL_law_310 ?_
  refine r_aload0 hX dL_law_311 ?_
  refine r_iload3 hX dL_law_312 ?_
  refine r_push hX dL_law_313 ?_
  refine r_iadd hX dL_law_314 ?_
  refine r_sld hX hL dL_law_315 (sidx (k := 1) rfl (by omega) hL2) ?_
  refine r_aload0 hX dL_law_316 ?_
  refine r_iload3 hX dL_law_317 ?_
  refine r_push hX dL_law_318 ?_
  refine r_iadd hX dL_law_319 ?_
  refine r_sld hX hL dL_law_320 (sidx (k := 2) rfl (by omega) hL2) ?_
  refine r_cV2i hX dL_law_321 kX5_mark (frm_l ad_wX) cX rfl (by decide) (Nat.le_of_ble_eq_true rfl) ?_
  refine r_aload2 hX dL_law_324 ?_
  refine r_aload0 hX dL_law_325 ?_
  refine r_iload3 hX dL_law_326 ?_
  refine r_push hX dL_law_327 ?_
  refine r_iadd hX dL_law_328 ?_
  refine r_sld hX hL dL_law_329 (sidx (k := 1) rfl (by omega) hL2) ?_
  refine r_aload0 hX dL_law_330 ?_
  refine r_iload3 hX dL_law_331 ?_
  refine r_push hX dL_law_332 ?_
  refine r_iadd hX dL_law_333 ?_
  refine r_sld hX hL dL_law_334 (sidx (k := 2) rfl (by omega) hL2) ?_
  refine r_cV2i hX dL_law_335 kX6_mark (frm_r ad_wM) cM rfl (by decide) (Nat.le_of_ble_eq_true rfl) ?_
  refine r_ic_eq hX dL_law_338 (fun _ => ?_) (fun h => absurd rfl h)
  exact k a kp' rd' nw' i0' i1' fa' bo' pl' dr' σ' hR'
set_option maxHeartbeats 1000000 in
theorem lc_wipe {X : CT} {l : Launch} {g : GT} {b0 L : Nat} {xs : Nat → Int32} {x : Nat} {a : Nat → Nat → Nat} {kp : Int32} {rd nw i0 i1 fa bo pl dr : S2} {b : Nat → Nat} {σ : S2} {ix : Nat} (hX : oK X l g RL code room_1) (hL : pL X b0 L xs) (hi : ix + 4 ≤ L) (hL2 : L ≤ 256) (hR : Rel kp rd nw i0 i1 fa bo pl σ) (k : KK X g b0 x b ix) : vJ X 54 927 (wX g x a kp rd nw i0 i1 fa bo pl dr ++ wM g b σ) 343 [some (.ref b0), some (.ref x), some (.ref (b 0)), some (.int (nI ix))] [] := by
  obtain ⟨o, kp', rd', nw', i0', i1', fa', bo', pl', dr', σ', cX, cM, hR'⟩ := st_wipe (l := l) (g := g) (x := x) (a := a) (dr := dr) (b := b) hR (xs (nI ix + 1).toNatClampNeg) (xs (nI ix + 2).toNatClampNeg)
  refine r_aload1 hX dL_law_343 ?_
  refine r_aload0 hX dL_law_344 ?_
  refine r_iload3 hX dL_law_345 ?_
  refine r_push hX dL_law_346 ?_
  refine r_iadd hX dL_law_347 ?_
  refine r_sld hX hL dL_law_348 (sidx (k := 1) rfl (by omega) hL2) ?_
  refine r_aload0 hX dL_law_349 ?_
  refine r_iload3 hX dL_law_350 ?_
  refine r_push hX dL_law_351 ?_
  refine r_iadd hX dL_law_352 ?_
  refine r_sld hX hL dL_law_353 (sidx (k := 2) rfl (by omega) hL2) ?_
  refine r_cV2i hX dL_law_354 kX5_wipe (frm_l ad_wX) cX rfl (by decide) (Nat.le_of_ble_eq_true rfl) ?_
  refine r_aload2 hX dL_law_357 ?_
  refine r_aload0 hX dL_law_358 ?_
  refine r_iload3 hX dL_law_359 ?_
  refine r_push hX dL_law_360 ?_
  refine r_iadd hX dL_law_361 ?_
  refine r_sld hX hL dL_law_362 (sidx (k := 1) rfl (by omega) hL2) ?_
  refine r_aload0 hX dL_law_363 ?_
  refine r_iload3 hX dL_law_364 ?_
  refine r_push hX dL_law_365 ?_
  refine r_iadd hX dL_law_366 ?_
  refine r_sld hX hL dL_law_367 (sidx (k := 2) rfl (by omega) hL2) ?_
  refine r_cV2i hX dL_law_368 kX6_wipe (frm_r ad_wM) cM rfl (by decide) (Nat.le_of_ble_eq_true rfl) ?_
  refine r_ic_eq hX dL_law_371 (fun _ => ?_) (fun h => absurd rfl h)
  exact k a kp' rd' nw' i0' i1' fa' bo' pl' dr' σ' hR'
set_option maxHeartbeats 1000000 in
theorem lc_hide {X : CT} {l : Launch} {g : GT} {b0 L : Nat} {xs : Nat → Int32} {x : Nat} {a : Nat → Nat → Nat} {kp : Int32} {rd nw i0 i1 fa bo pl dr : S2} {b : Nat → Nat} {σ : S2} {ix : Nat} (hX : oK X l g RL code room_1) (hL : pL X b0 L xs) (hi : ix + 4 ≤ L) (hL2 : L ≤ 256) (hR : Rel kp rd nw i0 i1 fa bo pl σ) (k : KK X g b0 x b ix) : vJ X 54 927 (wX g x a kp rd nw i0 i1 fa bo pl dr ++ wM g b σ) 376 [some (.ref b0), some (.ref x), some (.ref (b 0)), some (.int (nI ix))] [] := by
  by_cases hz : xs (nI ix + 3).toNatClampNeg = 0
  · obtain ⟨o, kp', rd', nw', i0', i1', fa', bo', pl', dr', σ', cX, cM, hR'⟩ := st_hide (l := l) (g := g) (x := x) (a := a) (dr := dr) (b := b) hR (xs (nI ix + 1).toNatClampNeg) (xs (nI ix + 2).toNatClampNeg) 0
    refine r_aload1 hX dL_law_376 ?_
    refine r_aload0 hX dL_law_377 ?_
    refine r_iload3 hX dL_law_378 ?_
    refine r_push hX dL_law_379 ?_
    refine r_iadd hX dL_law_380 ?_
    refine r_sld hX hL dL_law_381 (sidx (k := 1) rfl (by omega) hL2) ?_
    refine r_aload0 hX dL_law_382 ?_
    refine r_iload3 hX dL_law_383 ?_
    refine r_push hX dL_law_384 ?_
    refine r_iadd hX dL_law_385 ?_
    refine r_sld hX hL dL_law_386 (sidx (k := 2) rfl (by omega) hL2) ?_
    refine r_aload0 hX dL_law_387 ?_
    refine r_iload3 hX dL_law_388 ?_
    refine r_push hX dL_law_389 ?_
    refine r_iadd hX dL_law_390 ?_
    refine r_sld hX hL dL_law_391 (sidx (k := 3) rfl (by omega) hL2) ?_
    refine r_if_eq hX dL_law_392 (fun h => ?_) (fun h => absurd hz h)
    refine r_push hX dL_law_399 ?_
    refine r_cV3i hX dL_law_400 kX5_hide (frm_l ad_wX) cX rfl (by decide) (Nat.le_of_ble_eq_true rfl) ?_
    refine r_aload2 hX dL_law_403 ?_
    refine r_aload0 hX dL_law_404 ?_
    refine r_iload3 hX dL_law_405 ?_
    refine r_push hX dL_law_406 ?_
    refine r_iadd hX dL_law_407 ?_
    refine r_sld hX hL dL_law_408 (sidx (k := 1) rfl (by omega) hL2) ?_
    refine r_aload0 hX dL_law_409 ?_
    refine r_iload3 hX dL_law_410 ?_
    refine r_push hX dL_law_411 ?_
    refine r_iadd hX dL_law_412 ?_
    refine r_sld hX hL dL_law_413 (sidx (k := 2) rfl (by omega) hL2) ?_
    refine r_aload0 hX dL_law_414 ?_
    refine r_iload3 hX dL_law_415 ?_
    refine r_push hX dL_law_416 ?_
    refine r_iadd hX dL_law_417 ?_
    refine r_sld hX hL dL_law_418 (sidx (k := 3) rfl (by omega) hL2) ?_
    refine r_if_eq hX dL_law_419 (fun h => ?_) (fun h => absurd hz h)
    refine r_push hX dL_law_426 ?_
    refine r_cV3i hX dL_law_427 kX6_hide (frm_r ad_wM) cM rfl (by decide) (Nat.le_of_ble_eq_true rfl) ?_
    refine r_ic_eq hX dL_law_430 (fun _ => ?_) (fun h => absurd rfl h)
    exact k a kp' rd' nw' i0' i1' fa' bo' pl' dr' σ' hR'
  · obtain ⟨o, kp', rd', nw', i0', i1', fa', bo', pl', dr', σ', cX, cM, hR'⟩ := st_hide (l := l) (g := g) (x := x) (a := a) (dr := dr) (b := b) hR (xs (nI ix + 1).toNatClampNeg) (xs (nI ix + 2).toNatClampNeg) 1
    refine r_aload1 hX dL_law_376 ?_
    refine r_aload0 hX dL_law_377 ?_
    refine r_iload3 hX dL_law_378 ?_
    refine r_push hX dL_law_379 ?_
    refine r_iadd hX dL_law_380 ?_
    refine r_sld hX hL dL_law_381 (sidx (k := 1) rfl (by omega) hL2) ?_
    refine r_aload0 hX dL_law_382 ?_
    refine r_iload3 hX dL_law_383 ?_
    refine r_push hX dL_law_384 ?_
    refine r_iadd hX dL_law_385 ?_
    refine r_sld hX hL dL_law_386 (sidx (k := 2) rfl (by omega) hL2) ?_
    refine r_aload0 hX dL_law_387 ?_
    refine r_iload3 hX dL_law_388 ?_
    refine r_push hX dL_law_389 ?_
    refine r_iadd hX dL_law_390 ?_
    refine r_sld hX hL dL_law_391 (sidx (k := 3) rfl (by omega) hL2) ?_
    refine r_if_eq hX dL_law_392 (fun h => absurd h hz) (fun h => ?_)
    refine r_push hX dL_law_395 ?_
    refine r_goto hX dL_law_396 ?_
    refine r_cV3i hX dL_law_400 kX5_hide (frm_l ad_wX) cX rfl (by decide) (Nat.le_of_ble_eq_true rfl) ?_
    refine r_aload2 hX dL_law_403 ?_
    refine r_aload0 hX dL_law_404 ?_
    refine r_iload3 hX dL_law_405 ?_
    refine r_push hX dL_law_406 ?_
    refine r_iadd hX dL_law_407 ?_
    refine r_sld hX hL dL_law_408 (sidx (k := 1) rfl (by omega) hL2) ?_
    refine r_aload0 hX dL_law_409 ?_
    refine r_iload3 hX dL_law_410 ?_
    refine r_push hX dL_law_411 ?_
    refine r_iadd hX dL_law_412 ?_
    refine r_sld hX hL dL_law_413 (sidx (k := 2) rfl (by omega) hL2) ?_
    refine r_aload0 hX dL_law_414 ?_
    refine r_iload3 hX dL_law_415 ?_
    refine r_push hX dL_law_416 ?_
    refine r_iadd hX dL_law_417 ?_
    refine r_sld hX hL dL_law_418 (sidx (k := 3) rfl (by omega) hL2) ?_
    refine r_if_eq hX dL_law_419 (fun h => absurd h hz) (fun h => ?_)
    refine r_push hX dL_law_422 ?_
    refine r_goto hX dL_law_423 ?_
    refine r_cV3i hX dL_law_427 kX6_hide (frm_r ad_wM) cM rfl (by decide) (Nat.le_of_ble_eq_true rfl) ?_
    refine r_ic_eq hX dL_law_430 (fun _ => ?_) (fun h => absurd rfl h)
    exact k a kp' rd' nw' i0' i1' fa' bo' pl' dr' σ' hR'
set_option maxHeartbeats 1000000 in
theorem lc_copy {X : CT} {l : Launch} {g : GT} {b0 L : Nat} {xs : Nat → Int32} {x : Nat} {a : Nat → Nat → Nat} {kp : Int32} {rd nw i0 i1 fa bo pl dr : S2} {b : Nat → Nat} {σ : S2} {ix : Nat} (hX : oK X l g RL code room_1) (hL : pL X b0 L xs) (hi : ix + 4 ≤ L) (hL2 : L ≤ 256) (hR : Rel kp rd nw i0 i1 fa bo pl σ) (k : KK X g b0 x b ix) : vJ X 54 927 (wX g x a kp rd nw i0 i1 fa bo pl dr ++ wM g b σ) 435 [some (.ref b0), some (.ref x), some (.ref (b 0)), some (.int (nI ix))] [] := by
  obtain ⟨o, kp', rd', nw', i0', i1', fa', bo', pl', dr', σ', cX, cM, hR'⟩ := st_copy (l := l) (g := g) (x := x) (a := a) (dr := dr) (b := b) hR (xs (nI ix + 1).toNatClampNeg) (xs (nI ix + 2).toNatClampNeg)
  refine r_aload1 hX dL_law_435 ?_
  refine r_aload0 hX dL_law_436 ?_
  refine r_iload3 hX dL_law_437 ?_
  refine r_push hX dL_law_438 ?_
  refine r_iadd hX dL_law_439 ?_
  refine r_sld hX hL dL_law_440 (sidx (k := 1) rfl (by omega) hL2) ?_
  refine r_aload0 hX dL_law_441 ?_
  refine r_iload3 hX dL_law_442 ?_
  refine r_push hX dL_law_443 ?_
  refine r_iadd hX dL_law_444 ?_
  refine r_sld hX hL dL_law_445 (sidx (k := 2) rfl (by omega) hL2) ?_
  refine r_cV2i hX dL_law_446 kX5_copy (frm_l ad_wX) cX rfl (by decide) (Nat.le_of_ble_eq_true rfl) ?_
  refine r_aload2 hX dL_law_449 ?_
  refine r_aload0 hX dL_law_450 ?_
  refine r_iload3 hX dL_law_451 ?_
  refine r_push hX dL_law_452 ?_
  refine r_iadd hX dL_law_453 ?_
  refine r_sld hX hL dL_law_454 (sidx (k := 1) rfl (by omega) hL2) ?_
  refine r_aload0 hX dL_law_455 ?_
  refine r_iload3 hX dL_law_456 ?_
  refine r_push hX dL_law_457 ?_
  refine r_iadd hX dL_law_458 ?_
  refine r_sld hX hL dL_law_459 (sidx (k := 2) rfl (by omega) hL2) ?_
  refine r_cV2i hX dL_law_460 kX6_copy (frm_r ad_wM) cM rfl (by decide) (Nat.le_of_ble_eq_true rfl) ?_
  refine r_ic_eq hX dL_law_463 (fun _ => ?_) (fun h => absurd rfl h)
  exact k a kp' rd' nw' i0' i1' fa' bo' pl' dr' σ' hR'
set_option maxHeartbeats 1000000 in
theorem lc_night {X : CT} {l : Launch} {g : GT} {b0 L : Nat} {xs : Nat → Int32} {x : Nat} {a : Nat → Nat → Nat} {kp : Int32} {rd nw i0 i1 fa bo pl dr : S2} {b : Nat → Nat} {σ : S2} {ix : Nat} (hX : oK X l g RL code room_1) (hL : pL X b0 L xs) (hi : ix + 4 ≤ L) (hL2 : L ≤ 256) (hR : Rel kp rd nw i0 i1 fa bo pl σ) (k : KK X g b0 x b ix) : vJ X 54 927 (wX g x a kp rd nw i0 i1 fa bo pl dr ++ wM g b σ) 468 [some (.ref b0), some (.ref x), some (.ref (b 0)), some (.int (nI ix))] [] := by
  obtain ⟨o, kp', rd', nw', i0', i1', fa', bo', pl', dr', σ', cX, cM, hR'⟩ := st_night (l := l) (g := g) (x := x) (a := a) (dr := dr) (b := b) hR (xs (nI ix + 1).toNatClampNeg)
  refine r_aload1 hX dL_law_468 ?_
  refine r_aload0 hX dL_law_469 ?_
  refine r_iload3 hX dL_law_470 ?_
  refine r_push hX dL_law_471 ?_
  refine r_iadd hX dL_law_472 ?_
  refine r_sld hX hL dL_law_473 (sidx (k := 1) rfl (by omega) hL2) ?_
  refine r_cV1i hX dL_law_474 kX5_night (frm_l ad_wX) cX rfl (by decide) (Nat.le_of_ble_eq_true rfl) ?_
  refine r_aload2 hX dL_law_477 ?_
  refine r_aload0 hX dL_law_478 ?_
  refine r_iload3 hX dL_law_479 ?_
  refine r_push hX dL_law_480 ?_
  refine r_iadd hX dL_law_481 ?_
  refine r_sld hX hL dL_law_482 (sidx (k := 1) rfl (by omega) hL2) ?_
  refine r_cV1i hX dL_law_483 kX6_night (frm_r ad_wM) cM rfl (by decide) (Nat.le_of_ble_eq_true rfl) ?_
  refine r_ic_eq hX dL_law_486 (fun _ => ?_) (fun h => absurd rfl h)
  exact k a kp' rd' nw' i0' i1' fa' bo' pl' dr' σ' hR'
set_option maxHeartbeats 1000000 in
theorem lc_like {X : CT} {l : Launch} {g : GT} {b0 L : Nat} {xs : Nat → Int32} {x : Nat} {a : Nat → Nat → Nat} {kp : Int32} {rd nw i0 i1 fa bo pl dr : S2} {b : Nat → Nat} {σ : S2} {ix : Nat} (hX : oK X l g RL code room_1) (hL : pL X b0 L xs) (hi : ix + 4 ≤ L) (hL2 : L ≤ 256) (hR : Rel kp rd nw i0 i1 fa bo pl σ) (k : KK X g b0 x b ix) : vJ X 54 927 (wX g x a kp rd nw i0 i1 fa bo pl dr ++ wM g b σ) 491 [some (.ref b0), some (.ref x), some (.ref (b 0)), some (.int (nI ix))] [] := by
  obtain ⟨o, kp', rd', nw', i0', i1', fa', bo', pl', dr', σ', cX, cM, hR'⟩ := st_like (l := l) (g := g) (x := x) (a := a) (dr := dr) (b := b) hR (xs (nI ix + 1).toNatClampNeg)
  refine r_aload1 hX dL_law_491 ?_
  refine r_aload0 hX dL_law_492 ?_
  refine r_iload3 hX dL_law_493 ?_
  refine r_push hX dL_law_494 ?_
  refine r_iadd hX dL_law_495 ?_
  refine r_sld hX hL dL_law_496 (sidx (k := 1) rfl (by omega) hL2) ?_
  refine r_cV1i hX dL_law_497 kX5_like (frm_l ad_wX) cX rfl (by decide) (Nat.le_of_ble_eq_true rfl) ?_
  refine r_aload2 hX dL_law_500 ?_
  refine r_aload0 hX dL_law_501 ?_
  refine r_iload3 hX dL_law_502 ?_
  refine r_push hX dL_law_503 ?_
  refine r_iadd hX dL_law_504 ?_
  refine r_sld hX hL dL_law_505 (sidx (k := 1) rfl (by omega) hL2) ?_
  refine r_cV1i hX dL_law_506 kX6_like (frm_r ad_wM) cM rfl (by decide) (Nat.le_of_ble_eq_true rfl) ?_
  refine r_ic_eq hX dL_law_509 (fun _ => ?_) (fun h => absurd rfl h)
  exact k a kp' rd' nw' i0' i1' fa' bo' pl' dr' σ' hR'
set_option maxHeartbeats 1000000 in
theorem lc_fool {X : CT} {l : Launch} {g : GT} {b0 L : Nat} {xs : Nat → Int32} {x : Nat} {a : Nat → Nat → Nat} {kp : Int32} {rd nw i0 i1 fa bo pl dr : S2} {b : Nat → Nat} {σ : S2} {ix : Nat} (hX : oK X l g RL code room_1) (hL : pL X b0 L xs) (hi : ix + 4 ≤ L) (hL2 : L ≤ 256) (hR : Rel kp rd nw i0 i1 fa bo pl σ) (k : KK X g b0 x b ix) : vJ X 54 927 (wX g x a kp rd nw i0 i1 fa bo pl dr ++ wM g b σ) 514 [some (.ref b0), some (.ref x), some (.ref (b 0)), some (.int (nI ix))] [] := by
  obtain ⟨o, kp', rd', nw', i0', i1', fa', bo', pl', dr', σ', cX, cM, hR'⟩ := st_fool (l := l) (g := g) (x := x) (a := a) (dr := dr) (b := b) hR (xs (nI ix + 1).toNatClampNeg) (xs (nI ix + 2).toNatClampNeg) (xs (nI ix + 3).toNatClampNeg)
  refine r_aload1 hX dL_law_514 ?_
  refine r_aload0 hX dL_law_515 ?_
  refine r_iload3 hX dL_law_516 ?_
  refine r_push hX dL_law_517 ?_
  refine r_iadd hX dL_law_518 ?_
  refine r_sld hX hL dL_law_519 (sidx (k := 1) rfl (by omega) hL2) ?_
  refine r_aload0 hX dL_law_520 ?_
  refine r_iload3 hX dL_law_521 ?_
  refine r_push hX dL_law_522 ?_
  refine r_iadd hX dL_law_523 ?_
  refine r_sld hX hL dL_law_524 (sidx (k := 2) rfl (by omega) hL2) ?_
  refine r_aload0 hX dL_law_525 ?_
  refine r_iload3 hX dL_law_526 ?_
  refine r_push hX dL_law_527 ?_
  refine r_iadd hX dL_law_528 ?_
  refine r_sld hX hL dL_law_529 (sidx (k := 3) rfl (by omega) hL2) ?_
  refine r_cV3i hX dL_law_530 kX5_fool (frm_l ad_wX) cX rfl (by decide) (Nat.le_of_ble_eq_true rfl) ?_
  refine r_aload2 hX dL_law_533 ?_
  refine r_aload0 hX dL_law_534 ?_
  refine r_iload3 hX dL_law_535 ?_
  refine r_push hX dL_law_536 ?_
  refine r_iadd hX dL_law_537 ?_
  refine r_sld hX hL dL_law_538 (sidx (k := 1) rfl (by omega) hL2) ?_
  refine r_aload0 hX dL_law_539 ?_
  refine r_iload3 hX dL_law_540 ?_
  refine r_push hX dL_law_541 ?_
  refine r_iadd hX dL_law_542 ?_
  refine r_sld hX hL dL_law_543 (sidx (k := 2) rfl (by omega) hL2) ?_
  refine r_aload0 hX dL_law_544 ?_
  refine r_iload3 hX dL_law_545 ?_
  refine r_push hX dL_law_546 ?_
  refine r_iadd hX dL_law_547 ?_
  refine r_sld hX hL dL_law_548 (sidx (k := 3) rfl (by omega) hL2) ?_
  refine r_cV3i hX dL_law_549 kX6_fool (frm_r ad_wM) cM rfl (by decide) (Nat.le_of_ble_eq_true rfl) ?_
  refine r_ic_eq hX dL_law_552 (fun _ => ?_) (fun h => absurd rfl h)
  exact k a kp' rd' nw' i0' i1' fa' bo' pl' dr' σ' hR'
set_option maxHeartbeats 1000000 in
theorem lc_code {X : CT} {l : Launch} {g : GT} {b0 L : Nat} {xs : Nat → Int32} {x : Nat} {a : Nat → Nat → Nat} {kp : Int32} {rd nw i0 i1 fa bo pl dr : S2} {b : Nat → Nat} {σ : S2} {ix : Nat} (hX : oK X l g RL code room_1) (hL : pL X b0 L xs) (hi : ix + 4 ≤ L) (hL2 : L ≤ 256) (hR : Rel kp rd nw i0 i1 fa bo pl σ) (k : KK X g b0 x b ix) : vJ X 54 927 (wX g x a kp rd nw i0 i1 fa bo pl dr ++ wM g b σ) 557 [some (.ref b0), some (.ref x), some (.ref (b 0)), some (.int (nI ix))] [] := by
  obtain ⟨o, kp', rd', nw', i0', i1', fa', bo', pl', dr', σ', cX, cM, hR'⟩ := st_code (l := l) (g := g) (x := x) (a := a) (dr := dr) (b := b) hR (xs (nI ix + 1).toNatClampNeg) (xs (nI ix + 2).toNatClampNeg)
  refine r_aload1 hX dL_law_557 ?_
  refine r_aload0 hX dL_law_558 ?_
  refine r_iload3 hX dL_law_559 ?_
  refine r_push hX dL_law_560 ?_
  refine r_iadd hX dL_law_561 ?_
  refine r_sld hX hL dL_law_562 (sidx (k := 1) rfl (by omega) hL2) ?_
  refine r_aload0 hX dL_law_563 ?_
  refine r_iload3 hX dL_law_564 ?_
  refine r_push hX dL_law_565 ?_
  refine r_iadd hX dL_law_566 ?_
  refine r_sld hX hL dL_law_567 (sidx (k := 2) rfl (by omega) hL2) ?_
  refine r_cV2i hX dL_law_568 kX5_code (frm_l ad_wX) cX rfl (by decide) (Nat.le_of_ble_eq_true rfl) ?_
  refine r_aload2 hX dL_law_571 ?_
  refine r_aload0 hX dL_law_572 ?_
  refine r_iload3 hX dL_law_573 ?_
  refine r_push hX dL_law_574 ?_
  refine r_iadd hX dL_law_575 ?_
  refine r_sld hX hL dL_law_576 (sidx (k := 1) rfl (by omega) hL2) ?_
  refine r_aload0 hX dL_law_577 ?_
  refine r_iload3 hX dL_law_578 ?_
  refine r_push hX dL_law_579 ?_
  refine r_iadd hX dL_law_580 ?_
  refine r_sld hX hL dL_law_581 (sidx (k := 2) rfl (by omega) hL2) ?_
  refine r_cV2i hX dL_law_582 kX6_code (frm_r ad_wM) cM rfl (by decide) (Nat.le_of_ble_eq_true rfl) ?_
  refine r_ic_eq hX dL_law_585 (fun _ => ?_) (fun h => absurd rfl h)
  exact k a kp' rd' nw' i0' i1' fa' bo' pl' dr' σ' hR'
set_option maxHeartbeats 1000000 in
theorem lc_windows {X : CT} {l : Launch} {g : GT} {b0 L : Nat} {xs : Nat → Int32} {x : Nat} {a : Nat → Nat → Nat} {kp : Int32} {rd nw i0 i1 fa bo pl dr : S2} {b : Nat → Nat} {σ : S2} {ix : Nat} (hX : oK X l g RL code room_1) (hL : pL X b0 L xs) (hi : ix + 4 ≤ L) (hL2 : L ≤ 256) (hR : Rel kp rd nw i0 i1 fa bo pl σ) (k : KK X g b0 x b ix) : vJ X 54 927 (wX g x a kp rd nw i0 i1 fa bo pl dr ++ wM g b σ) 590 [some (.ref b0), some (.ref x), some (.ref (b 0)), some (.int (nI ix))] [] := by
  obtain ⟨o, kp', rd', nw', i0', i1', fa', bo', pl', dr', σ', cX, cM, hR'⟩ := st_windows (l := l) (g := g) (x := x) (a := a) (dr := dr) (b := b) hR (xs (nI ix + 1).toNatClampNeg)
  refine r_aload1 hX dL_law_590 ?_
  refine r_aload0 hX dL_law_591 ?_
  refine r_iload3 hX dL_law_592 ?_
  refine r_push hX dL_law_593 ?_
  refine r_iadd hX dL_law_594 ?_
  refine r_sld hX hL dL_law_595 (sidx (k := 1) rfl (by omega) hL2) ?_
  refine r_cV1i hX dL_law_596 kX5_windows (frm_l ad_wX) cX rfl (by decide) (Nat.le_of_ble_eq_true rfl) ?_
  refine r_aload2 hX dL_law_599 ?_
  refine r_aload0 hX dL_law_600 ?_
  refine r_iload3 hX dL_law_601 ?_
  refine r_push hX dL_law_602 ?_
  refine r_iadd hX dL_law_603 ?_
  refine r_sld hX hL dL_law_604 (sidx (k := 1) rfl (by omega) hL2) ?_
  refine r_cV1i hX dL_law_605 kX6_windows (frm_r ad_wM) cM rfl (by decide) (Nat.le_of_ble_eq_true rfl) ?_
  refine r_ic_eq hX dL_law_608 (fun _ => ?_) (fun h => absurd rfl h)
  exact k a kp' rd' nw' i0' i1' fa' bo' pl' dr' σ' hR'
set_option maxHeartbeats 1000000 in
theorem lc_leastWindow {X : CT} {l : Launch} {g : GT} {b0 L : Nat} {xs : Nat → Int32} {x : Nat} {a : Nat → Nat → Nat} {kp : Int32} {rd nw i0 i1 fa bo pl dr : S2} {b : Nat → Nat} {σ : S2} {ix : Nat} (hX : oK X l g RL code room_1) (hL : pL X b0 L xs) (hi : ix + 4 ≤ L) (hL2 : L ≤ 256) (hR : Rel kp rd nw i0 i1 fa bo pl σ) (k : KK X g b0 x b ix) : vJ X 54 927 (wX g x a kp rd nw i0 i1 fa bo pl dr ++ wM g b σ) 613 [some (.ref b0), some (.ref x), some (.ref (b 0)), some (.int (nI ix))] [] := by
  obtain ⟨o, kp', rd', nw', i0', i1', fa', bo', pl', dr', σ', cX, cM, hR'⟩ := st_leastWindow (l := l) (g := g) (x := x) (a := a) (dr := dr) (b := b) hR 
  refine r_aload1 hX dL_law_613 ?_
  refine r_cV0i hX dL_law_614 kX5_leastWindow (frm_l ad_wX) cX rfl (by decide) (Nat.le_of_ble_eq_true rfl) ?_
  refine r_aload2 hX dL_law_617 ?_
  refine r_cV0i hX dL_law_618 kX6_leastWindow (frm_r ad_wM) cM rfl (by decide) (Nat.le_of_ble_eq_true rfl) ?_
  refine r_ic_eq hX dL_law_621 (fun _ => ?_) (fun h => absurd rfl h)
  exact k a kp' rd' nw' i0' i1' fa' bo' pl' dr' σ' hR'
set_option maxHeartbeats 1000000 in
theorem lc_belief {X : CT} {l : Launch} {g : GT} {b0 L : Nat} {xs : Nat → Int32} {x : Nat} {a : Nat → Nat → Nat} {kp : Int32} {rd nw i0 i1 fa bo pl dr : S2} {b : Nat → Nat} {σ : S2} {ix : Nat} (hX : oK X l g RL code room_1) (hL : pL X b0 L xs) (hi : ix + 4 ≤ L) (hL2 : L ≤ 256) (hR : Rel kp rd nw i0 i1 fa bo pl σ) (k : KK X g b0 x b ix) : vJ X 54 927 (wX g x a kp rd nw i0 i1 fa bo pl dr ++ wM g b σ) 626 [some (.ref b0), some (.ref x), some (.ref (b 0)), some (.int (nI ix))] [] := by
  obtain ⟨o, kp', rd', nw', i0', i1', fa', bo', pl', dr', σ', cX, cM, hR'⟩ := st_belief (l := l) (g := g) (x := x) (a := a) (dr := dr) (b := b) hR (xs (nI ix + 1).toNatClampNeg) (xs (nI ix + 2).toNatClampNeg) (xs (nI ix + 3).toNatClampNeg)
  refine r_aload1 hX dL_law_626 ?_
  refine r_aload0 hX dL_law_627 ?_
  refine r_iload3 hX dL_law_628 ?_
  refine r_push hX dL_law_629 ?_
  refine r_iadd hX dL_law_630 ?_
  refine r_sld hX hL dL_law_631 (sidx (k := 1) rfl (by omega) hL2) ?_
  refine r_aload0 hX dL_law_632 ?_
  refine r_iload3 hX dL_law_633 ?_
  refine r_push hX dL_law_634 ?_
  refine r_iadd hX dL_law_635 ?_
  refine r_sld hX hL dL_law_636 (sidx (k := 2) rfl (by omega) hL2) ?_
  refine r_aload0 hX dL_law_637 ?_
  refine r_iload3 hX dL_law_638 ?_
  refine r_push hX dL_law_639 ?_
  refine r_iadd hX dL_law_640 ?_
  refine r_sld hX hL dL_law_641 (sidx (k := 3) rfl (by omega) hL2) ?_
  refine r_cV3i hX dL_law_642 kX5_belief (frm_l ad_wX) cX rfl (by decide) (Nat.le_of_ble_eq_true rfl) ?_
  refine r_aload2 hX dL_law_645 ?_
  refine r_aload0 hX dL_law_646 ?_
  refine r_iload3 hX dL_law_647 ?_
  refine r_push hX dL_law_648 ?_
  refine r_iadd hX dL_law_649 ?_
  refine r_sld hX hL dL_law_650 (sidx (k := 1) rfl (by omega) hL2) ?_
  refine r_aload0 hX dL_law_651 ?_
  refine r_iload3 hX dL_law_652 ?_
  refine r_push hX dL_law_653 ?_
  refine r_iadd hX dL_law_654 ?_
  refine r_sld hX hL dL_law_655 (sidx (k := 2) rfl (by omega) hL2) ?_
  refine r_aload0 hX dL_law_656 ?_
  refine r_iload3 hX dL_law_657 ?_
  refine r_push hX dL_law_658 ?_
  refine r_iadd hX dL_law_659 ?_
  refine r_sld hX hL dL_law_660 (sidx (k := 3) rfl (by omega) hL2) ?_
  refine r_cV3i hX dL_law_661 kX6_belief (frm_r ad_wM) cM rfl (by decide) (Nat.le_of_ble_eq_true rfl) ?_
  refine r_ic_eq hX dL_law_664 (fun _ => ?_) (fun h => absurd rfl h)
  exact k a kp' rd' nw' i0' i1' fa' bo' pl' dr' σ' hR'
set_option maxHeartbeats 1000000 in
theorem lc_bestDoor {X : CT} {l : Launch} {g : GT} {b0 L : Nat} {xs : Nat → Int32} {x : Nat} {a : Nat → Nat → Nat} {kp : Int32} {rd nw i0 i1 fa bo pl dr : S2} {b : Nat → Nat} {σ : S2} {ix : Nat} (hX : oK X l g RL code room_1) (hL : pL X b0 L xs) (hi : ix + 4 ≤ L) (hL2 : L ≤ 256) (hR : Rel kp rd nw i0 i1 fa bo pl σ) (k : KK X g b0 x b ix) : vJ X 54 927 (wX g x a kp rd nw i0 i1 fa bo pl dr ++ wM g b σ) 669 [some (.ref b0), some (.ref x), some (.ref (b 0)), some (.int (nI ix))] [] := by
  obtain ⟨o, kp', rd', nw', i0', i1', fa', bo', pl', dr', σ', cX, cM, hR'⟩ := st_bestDoor (l := l) (g := g) (x := x) (a := a) (dr := dr) (b := b) hR (xs (nI ix + 1).toNatClampNeg) (xs (nI ix + 2).toNatClampNeg)
  refine r_aload1 hX dL_law_669 ?_
  refine r_aload0 hX dL_law_670 ?_
  refine r_iload3 hX dL_law_671 ?_
  refine r_push hX dL_law_672 ?_
  refine r_iadd hX dL_law_673 ?_
  refine r_sld hX hL dL_law_674 (sidx (k := 1) rfl (by omega) hL2) ?_
  refine r_aload0 hX dL_law_675 ?_
  refine r_iload3 hX dL_law_676 ?_
  refine r_push hX dL_law_677 ?_
  refine r_iadd hX dL_law_678 ?_
  refine r_sld hX hL dL_law_679 (sidx (k := 2) rfl (by omega) hL2) ?_
  refine r_cV2i hX dL_law_680 kX5_bestDoor (frm_l ad_wX) cX rfl (by decide) (Nat.le_of_ble_eq_true rfl) ?_
  refine r_aload2 hX dL_law_683 ?_
  refine r_aload0 hX dL_law_684 ?_
  refine r_iload3 hX dL_law_685 ?_
  refine r_push hX dL_law_686 ?_
  refine r_iadd hX dL_law_687 ?_
  refine r_sld hX hL dL_law_688 (sidx (k := 1) rfl (by omega) hL2) ?_
  refine r_aload0 hX dL_law_689 ?_
  refine r_iload3 hX dL_law_690 ?_
  refine r_push hX dL_law_691 ?_
  refine r_iadd hX dL_law_692 ?_
  refine r_sld hX hL dL_law_693 (sidx (k := 2) rfl (by omega) hL2) ?_
  refine r_cV2i hX dL_law_694 kX6_bestDoor (frm_r ad_wM) cM rfl (by decide) (Nat.le_of_ble_eq_true rfl) ?_
  refine r_ic_eq hX dL_law_697 (fun _ => ?_) (fun h => absurd rfl h)
  exact k a kp' rd' nw' i0' i1' fa' bo' pl' dr' σ' hR'
set_option maxHeartbeats 1000000 in
theorem lc_watchman {X : CT} {l : Launch} {g : GT} {b0 L : Nat} {xs : Nat → Int32} {x : Nat} {a : Nat → Nat → Nat} {kp : Int32} {rd nw i0 i1 fa bo pl dr : S2} {b : Nat → Nat} {σ : S2} {ix : Nat} (hX : oK X l g RL code room_1) (hL : pL X b0 L xs) (hi : ix + 4 ≤ L) (hL2 : L ≤ 256) (hR : Rel kp rd nw i0 i1 fa bo pl σ) (k : KK X g b0 x b ix) : vJ X 54 927 (wX g x a kp rd nw i0 i1 fa bo pl dr ++ wM g b σ) 702 [some (.ref b0), some (.ref x), some (.ref (b 0)), some (.int (nI ix))] [] := by
  obtain ⟨o, kp', rd', nw', i0', i1', fa', bo', pl', dr', σ', cX, cM, hR'⟩ := st_watchman (l := l) (g := g) (x := x) (a := a) (dr := dr) (b := b) hR (xs (nI ix + 1).toNatClampNeg)
  refine r_aload1 hX dL_law_702 ?_
  refine r_aload0 hX dL_law_703 ?_
  refine r_iload3 hX dL_law_704 ?_
  refine r_push hX dL_law_705 ?_
  refine r_iadd hX dL_law_706 ?_
  refine r_sld hX hL dL_law_707 (sidx (k := 1) rfl (by omega) hL2) ?_
  refine r_cV1i hX dL_law_708 kX5_watchman (frm_l ad_wX) cX rfl (by decide) (Nat.le_of_ble_eq_true rfl) ?_
  refine r_aload2 hX dL_law_711 ?_
  refine r_aload0 hX dL_law_712 ?_
  refine r_iload3 hX dL_law_713 ?_
  refine r_push hX dL_law_714 ?_
  refine r_iadd hX dL_law_715 ?_
  refine r_sld hX hL dL_law_716 (sidx (k := 1) rfl (by omega) hL2) ?_
  refine r_cV1i hX dL_law_717 kX6_watchman (frm_r ad_wM) cM rfl (by decide) (Nat.le_of_ble_eq_true rfl) ?_
  refine r_ic_eq hX dL_law_720 (fun _ => ?_) (fun h => absurd rfl h)
  exact k a kp' rd' nw' i0' i1' fa' bo' pl' dr' σ' hR'
set_option maxHeartbeats 1000000 in
theorem lc_unseen {X : CT} {l : Launch} {g : GT} {b0 L : Nat} {xs : Nat → Int32} {x : Nat} {a : Nat → Nat → Nat} {kp : Int32} {rd nw i0 i1 fa bo pl dr : S2} {b : Nat → Nat} {σ : S2} {ix : Nat} (hX : oK X l g RL code room_1) (hL : pL X b0 L xs) (hi : ix + 4 ≤ L) (hL2 : L ≤ 256) (hR : Rel kp rd nw i0 i1 fa bo pl σ) (k : KK X g b0 x b ix) : vJ X 54 927 (wX g x a kp rd nw i0 i1 fa bo pl dr ++ wM g b σ) 725 [some (.ref b0), some (.ref x), some (.ref (b 0)), some (.int (nI ix))] [] := by
  obtain ⟨o, kp', rd', nw', i0', i1', fa', bo', pl', dr', σ', cX, cM, hR'⟩ := st_unseen (l := l) (g := g) (x := x) (a := a) (dr := dr) (b := b) hR (xs (nI ix + 1).toNatClampNeg)
  refine r_aload1 hX dL_law_725 ?_
  refine r_aload0 hX dL_law_726 ?_
  refine r_iload3 hX dL_law_727 ?_
  refine r_push hX dL_law_728 ?_
  refine r_iadd hX dL_law_729 ?_
  refine r_sld hX hL dL_law_730 (sidx (k := 1) rfl (by omega) hL2) ?_
  refine r_cV1i hX dL_law_731 kX5_unseen (frm_l ad_wX) cX rfl (by decide) (Nat.le_of_ble_eq_true rfl) ?_
  refine r_aload2 hX dL_law_734 ?_
  refine r_aload0 hX dL_law_735 ?_
  refine r_iload3 hX dL_law_736 ?_
  refine r_push hX dL_law_737 ?_
  refine r_iadd hX dL_law_738 ?_
  refine r_sld hX hL dL_law_739 (sidx (k := 1) rfl (by omega) hL2) ?_
  refine r_cV1i hX dL_law_740 kX6_unseen (frm_r ad_wM) cM rfl (by decide) (Nat.le_of_ble_eq_true rfl) ?_
  refine r_ic_eq hX dL_law_743 (fun _ => ?_) (fun h => absurd rfl h)
  exact k a kp' rd' nw' i0' i1' fa' bo' pl' dr' σ' hR'
set_option maxHeartbeats 1000000 in
theorem lc_sight {X : CT} {l : Launch} {g : GT} {b0 L : Nat} {xs : Nat → Int32} {x : Nat} {a : Nat → Nat → Nat} {kp : Int32} {rd nw i0 i1 fa bo pl dr : S2} {b : Nat → Nat} {σ : S2} {ix : Nat} (hX : oK X l g RL code room_1) (hL : pL X b0 L xs) (hi : ix + 4 ≤ L) (hL2 : L ≤ 256) (hR : Rel kp rd nw i0 i1 fa bo pl σ) (k : KK X g b0 x b ix) : vJ X 54 927 (wX g x a kp rd nw i0 i1 fa bo pl dr ++ wM g b σ) 748 [some (.ref b0), some (.ref x), some (.ref (b 0)), some (.int (nI ix))] [] := by
  obtain ⟨o, kp', rd', nw', i0', i1', fa', bo', pl', dr', σ', cX, cM, hR'⟩ := st_sight (l := l) (g := g) (x := x) (a := a) (dr := dr) (b := b) hR (xs (nI ix + 1).toNatClampNeg)
  refine r_aload1 hX dL_law_748 ?_
  refine r_aload0 hX dL_law_749 ?_
  refine r_iload3 hX dL_law_750 ?_
  refine r_push hX dL_law_751 ?_
  refine r_iadd hX dL_law_752 ?_
  refine r_sld hX hL dL_law_753 (sidx (k := 1) rfl (by omega) hL2) ?_
  refine r_cV1i hX dL_law_754 kX5_sight (frm_l ad_wX) cX rfl (by decide) (Nat.le_of_ble_eq_true rfl) ?_
  refine r_aload2 hX dL_law_757 ?_
  refine r_aload0 hX dL_law_758 ?_
  refine r_iload3 hX dL_law_759 ?_
  refine r_push hX dL_law_760 ?_
  refine r_iadd hX dL_law_761 ?_
  refine r_sld hX hL dL_law_762 (sidx (k := 1) rfl (by omega) hL2) ?_
  refine r_cV1i hX dL_law_763 kX6_sight (frm_r ad_wM) cM rfl (by decide) (Nat.le_of_ble_eq_true rfl) ?_
  refine r_ic_eq hX dL_law_766 (fun _ => ?_) (fun h => absurd rfl h)
  exact k a kp' rd' nw' i0' i1' fa' bo' pl' dr' σ' hR'
set_option maxHeartbeats 1000000 in
theorem lc_forged {X : CT} {l : Launch} {g : GT} {b0 L : Nat} {xs : Nat → Int32} {x : Nat} {a : Nat → Nat → Nat} {kp : Int32} {rd nw i0 i1 fa bo pl dr : S2} {b : Nat → Nat} {σ : S2} {ix : Nat} (hX : oK X l g RL code room_1) (hL : pL X b0 L xs) (hi : ix + 4 ≤ L) (hL2 : L ≤ 256) (hR : Rel kp rd nw i0 i1 fa bo pl σ) (k : KK X g b0 x b ix) : vJ X 54 927 (wX g x a kp rd nw i0 i1 fa bo pl dr ++ wM g b σ) 771 [some (.ref b0), some (.ref x), some (.ref (b 0)), some (.int (nI ix))] [] := by
  obtain ⟨o, kp', rd', nw', i0', i1', fa', bo', pl', dr', σ', cX, cM, hR'⟩ := st_forged (l := l) (g := g) (x := x) (a := a) (dr := dr) (b := b) hR (xs (nI ix + 1).toNatClampNeg) (xs (nI ix + 2).toNatClampNeg)
  refine r_aload1 hX dL_law_771 ?_
  refine r_aload0 hX dL_law_772 ?_
  refine r_iload3 hX dL_law_773 ?_
  refine r_push hX dL_law_774 ?_
  refine r_iadd hX dL_law_775 ?_
  refine r_sld hX hL dL_law_776 (sidx (k := 1) rfl (by omega) hL2) ?_
  refine r_aload0 hX dL_law_777 ?_
  refine r_iload3 hX dL_law_778 ?_
  refine r_push hX dL_law_779 ?_
  refine r_iadd hX dL_law_780 ?_
  refine r_sld hX hL dL_law_781 (sidx (k := 2) rfl (by omega) hL2) ?_
  refine r_cV2i hX dL_law_782 kX5_forged (frm_l ad_wX) cX rfl (by decide) (Nat.le_of_ble_eq_true rfl) ?_
  refine r_aload2 hX dL_law_785 ?_
  refine r_aload0 hX dL_law_786 ?_
  refine r_iload3 hX dL_law_787 ?_
  refine r_push hX dL_law_788 ?_
  refine r_iadd hX dL_law_789 ?_
  refine r_sld hX hL dL_law_790 (sidx (k := 1) rfl (by omega) hL2) ?_
  refine r_aload0 hX dL_law_791 ?_
  refine r_iload3 hX dL_law_792 ?_
  refine r_push hX dL_law_793 ?_
  refine r_iadd hX dL_law_794 ?_
  refine r_sld hX hL dL_law_795 (sidx (k := 2) rfl (by omega) hL2) ?_
  refine r_cV2i hX dL_law_796 kX6_forged (frm_r ad_wM) cM rfl (by decide) (Nat.le_of_ble_eq_true rfl) ?_
  refine r_ic_eq hX dL_law_799 (fun _ => ?_) (fun h => absurd rfl h)
  exact k a kp' rd' nw' i0' i1' fa' bo' pl' dr' σ' hR'
set_option maxHeartbeats 1000000 in
theorem lc_keys {X : CT} {l : Launch} {g : GT} {b0 L : Nat} {xs : Nat → Int32} {x : Nat} {a : Nat → Nat → Nat} {kp : Int32} {rd nw i0 i1 fa bo pl dr : S2} {b : Nat → Nat} {σ : S2} {ix : Nat} (hX : oK X l g RL code room_1) (hL : pL X b0 L xs) (hi : ix + 4 ≤ L) (hL2 : L ≤ 256) (hR : Rel kp rd nw i0 i1 fa bo pl σ) (k : KK X g b0 x b ix) : vJ X 54 927 (wX g x a kp rd nw i0 i1 fa bo pl dr ++ wM g b σ) 804 [some (.ref b0), some (.ref x), some (.ref (b 0)), some (.int (nI ix))] [] := by
  obtain ⟨o, kp', rd', nw', i0', i1', fa', bo', pl', dr', σ', cX, cM, hR'⟩ := st_keys (l := l) (g := g) (x := x) (a := a) (dr := dr) (b := b) hR (xs (nI ix + 1).toNatClampNeg) (xs (nI ix + 2).toNatClampNeg)
  refine r_aload1 hX dL_law_804 ?_
  refine r_aload0 hX dL_law_805 ?_
  refine r_iload3 hX dL_law_806 ?_
  refine r_push hX dL_law_807 ?_
  refine r_iadd hX dL_law_808 ?_
  refine r_sld hX hL dL_law_809 (sidx (k := 1) rfl (by omega) hL2) ?_
  refine r_aload0 hX dL_law_810 ?_
  refine r_iload3 hX dL_law_811 ?_
  refine r_push hX dL_law_812 ?_
  refine r_iadd hX dL_law_813 ?_
  refine r_sld hX hL dL_law_814 (sidx (k := 2) rfl (by omega) hL2) ?_
  refine r_cV2i hX dL_law_815 kX5_keys (frm_l ad_wX) cX rfl (by decide) (Nat.le_of_ble_eq_true rfl) ?_
  refine r_aload2 hX dL_law_818 ?_
  refine r_aload0 hX dL_law_819 ?_
  refine r_iload3 hX dL_law_820 ?_
  refine r_push hX dL_law_821 ?_
  refine r_iadd hX dL_law_822 ?_
  refine r_sld hX hL dL_law_823 (sidx (k := 1) rfl (by omega) hL2) ?_
  refine r_aload0 hX dL_law_824 ?_
  refine r_iload3 hX dL_law_825 ?_
  refine r_push hX dL_law_826 ?_
  refine r_iadd hX dL_law_827 ?_
  refine r_sld hX hL dL_law_828 (sidx (k := 2) rfl (by omega) hL2) ?_
  refine r_cV2i hX dL_law_829 kX6_keys (frm_r ad_wM) cM rfl (by decide) (Nat.le_of_ble_eq_true rfl) ?_
  refine r_ic_eq hX dL_law_832 (fun _ => ?_) (fun h => absurd rfl h)
  exact k a kp' rd' nw' i0' i1' fa' bo' pl' dr' σ' hR'
set_option maxHeartbeats 1000000 in
theorem lc_note {X : CT} {l : Launch} {g : GT} {b0 L : Nat} {xs : Nat → Int32} {x : Nat} {a : Nat → Nat → Nat} {kp : Int32} {rd nw i0 i1 fa bo pl dr : S2} {b : Nat → Nat} {σ : S2} {ix : Nat} (hX : oK X l g RL code room_1) (hL : pL X b0 L xs) (hi : ix + 4 ≤ L) (hL2 : L ≤ 256) (hR : Rel kp rd nw i0 i1 fa bo pl σ) (k : KK X g b0 x b ix) : vJ X 54 927 (wX g x a kp rd nw i0 i1 fa bo pl dr ++ wM g b σ) 837 [some (.ref b0), some (.ref x), some (.ref (b 0)), some (.int (nI ix))] [] := by
  by_cases hz : xs (nI ix + 3).toNatClampNeg = 0
  · obtain ⟨o, kp', rd', nw', i0', i1', fa', bo', pl', dr', σ', cX, cM, hR'⟩ := st_note (l := l) (g := g) (x := x) (a := a) (dr := dr) (b := b) hR (xs (nI ix + 1).toNatClampNeg) (xs (nI ix + 2).toNatClampNeg) 0
    refine r_aload1 hX dL_law_837 ?_
    refine r_aload0 hX dL_law_838 ?_
    refine r_iload3 hX dL_law_839 ?_
    refine r_push hX dL_law_840 ?_
    refine r_iadd hX dL_law_841 ?_
    refine r_sld hX hL dL_law_842 (sidx (k := 1) rfl (by omega) hL2) ?_
    refine r_aload0 hX dL_law_843 ?_
    refine r_iload3 hX dL_law_844 ?_
    refine r_push hX dL_law_845 ?_
    refine r_iadd hX dL_law_846 ?_
    refine r_sld hX hL dL_law_847 (sidx (k := 2) rfl (by omega) hL2) ?_
    refine r_aload0 hX dL_law_848 ?_
    refine r_iload3 hX dL_law_849 ?_
    refine r_push hX dL_law_850 ?_
    refine r_iadd hX dL_law_851 ?_
    refine r_sld hX hL dL_law_852 (sidx (k := 3) rfl (by omega) hL2) ?_
    refine r_if_eq hX dL_law_853 (fun h => ?_) (fun h => absurd hz h)
    refine r_push hX dL_law_860 ?_
    refine r_cV3i hX dL_law_861 kX5_note (frm_l ad_wX) cX rfl (by decide) (Nat.le_of_ble_eq_true rfl) ?_
    refine r_aload2 hX dL_law_864 ?_
    refine r_aload0 hX dL_law_865 ?_
    refine r_iload3 hX dL_law_866 ?_
    refine r_push hX dL_law_867 ?_
    refine r_iadd hX dL_law_868 ?_
    refine r_sld hX hL dL_law_869 (sidx (k := 1) rfl (by omega) hL2) ?_
    refine r_aload0 hX dL_law_870 ?_
    refine r_iload3 hX dL_law_871 ?_
    refine r_push hX dL_law_872 ?_
    refine r_iadd hX dL_law_873 ?_
    refine r_sld hX hL dL_law_874 (sidx (k := 2) rfl (by omega) hL2) ?_
    refine r_aload0 hX dL_law_875 ?_
    refine r_iload3 hX dL_law_876 ?_
    refine r_push hX dL_law_877 ?_
    refine r_iadd hX dL_law_878 ?_
    refine r_sld hX hL dL_law_879 (sidx (k := 3) rfl (by omega) hL2) ?_
    refine r_if_eq hX dL_law_880 (fun h => ?_) (fun h => absurd hz h)
    refine r_push hX dL_law_887 ?_
    refine r_cV3i hX dL_law_888 kX6_note (frm_r ad_wM) cM rfl (by decide) (Nat.le_of_ble_eq_true rfl) ?_
    refine r_ic_eq hX dL_law_891 (fun _ => ?_) (fun h => absurd rfl h)
    exact k a kp' rd' nw' i0' i1' fa' bo' pl' dr' σ' hR'
  · obtain ⟨o, kp', rd', nw', i0', i1', fa', bo', pl', dr', σ', cX, cM, hR'⟩ := st_note (l := l) (g := g) (x := x) (a := a) (dr := dr) (b := b) hR (xs (nI ix + 1).toNatClampNeg) (xs (nI ix + 2).toNatClampNeg) 1
    refine r_aload1 hX dL_law_837 ?_
    refine r_aload0 hX dL_law_838 ?_
    refine r_iload3 hX dL_law_839 ?_
    refine r_push hX dL_law_840 ?_
    refine r_iadd hX dL_law_841 ?_
    refine r_sld hX hL dL_law_842 (sidx (k := 1) rfl (by omega) hL2) ?_
    refine r_aload0 hX dL_law_843 ?_
    refine r_iload3 hX dL_law_844 ?_
    refine r_push hX dL_law_845 ?_
    refine r_iadd hX dL_law_846 ?_
    refine r_sld hX hL dL_law_847 (sidx (k := 2) rfl (by omega) hL2) ?_
    refine r_aload0 hX dL_law_848 ?_
    refine r_iload3 hX dL_law_849 ?_
    refine r_push hX dL_law_850 ?_
    refine r_iadd hX dL_law_851 ?_
    refine r_sld hX hL dL_law_852 (sidx (k := 3) rfl (by omega) hL2) ?_
    refine r_if_eq hX dL_law_853 (fun h => absurd h hz) (fun h => ?_)
    refine r_push hX dL_law_856 ?_
    refine r_goto hX dL_law_857 ?_
    refine r_cV3i hX dL_law_861 kX5_note (frm_l ad_wX) cX rfl (by decide) (Nat.le_of_ble_eq_true rfl) ?_
    refine r_aload2 hX dL_law_864 ?_
    refine r_aload0 hX dL_law_865 ?_
    refine r_iload3 hX dL_law_866 ?_
    refine r_push hX dL_law_867 ?_
    refine r_iadd hX dL_law_868 ?_
    refine r_sld hX hL dL_law_869 (sidx (k := 1) rfl (by omega) hL2) ?_
    refine r_aload0 hX dL_law_870 ?_
    refine r_iload3 hX dL_law_871 ?_
    refine r_push hX dL_law_872 ?_
    refine r_iadd hX dL_law_873 ?_
    refine r_sld hX hL dL_law_874 (sidx (k := 2) rfl (by omega) hL2) ?_
    refine r_aload0 hX dL_law_875 ?_
    refine r_iload3 hX dL_law_876 ?_
    refine r_push hX dL_law_877 ?_
    refine r_iadd hX dL_law_878 ?_
    refine r_sld hX hL dL_law_879 (sidx (k := 3) rfl (by omega) hL2) ?_
    refine r_if_eq hX dL_law_880 (fun h => absurd h hz) (fun h => ?_)
    refine r_push hX dL_law_883 ?_
    refine r_goto hX dL_law_884 ?_
    refine r_cV3i hX dL_law_888 kX6_note (frm_r ad_wM) cM rfl (by decide) (Nat.le_of_ble_eq_true rfl) ?_
    refine r_ic_eq hX dL_law_891 (fun _ => ?_) (fun h => absurd rfl h)
    exact k a kp' rd' nw' i0' i1' fa' bo' pl' dr' σ' hR'
set_option maxHeartbeats 1000000 in
theorem lc_first {X : CT} {l : Launch} {g : GT} {b0 L : Nat} {xs : Nat → Int32} {x : Nat} {a : Nat → Nat → Nat} {kp : Int32} {rd nw i0 i1 fa bo pl dr : S2} {b : Nat → Nat} {σ : S2} {ix : Nat} (hX : oK X l g RL code room_1) (hL : pL X b0 L xs) (hi : ix + 4 ≤ L) (hL2 : L ≤ 256) (hR : Rel kp rd nw i0 i1 fa bo pl σ) (k : KK X g b0 x b ix) : vJ X 54 927 (wX g x a kp rd nw i0 i1 fa bo pl dr ++ wM g b σ) 896 [some (.ref b0), some (.ref x), some (.ref (b 0)), some (.int (nI ix))] [] := by
  obtain ⟨o, kp', rd', nw', i0', i1', fa', bo', pl', dr', σ', cX, cM, hR'⟩ := st_first (l := l) (g := g) (x := x) (a := a) (dr := dr) (b := b) hR (xs (nI ix + 1).toNatClampNeg)
  refine r_aload1 hX dL_law_896 ?_
  refine r_aload0 hX dL_law_897 ?_
  refine r_iload3 hX dL_law_898 ?_
  refine r_push hX dL_law_899 ?_
  refine r_iadd hX dL_law_900 ?_
  refine r_sld hX hL dL_law_901 (sidx (k := 1) rfl (by omega) hL2) ?_
  refine r_cV1i hX dL_law_902 kX5_first (frm_l ad_wX) cX rfl (by decide) (Nat.le_of_ble_eq_true rfl) ?_
  refine r_aload2 hX dL_law_905 ?_
  refine r_aload0 hX dL_law_906 ?_
  refine r_iload3 hX dL_law_907 ?_
  refine r_push hX dL_law_908 ?_
  refine r_iadd hX dL_law_909 ?_
  refine r_sld hX hL dL_law_910 (sidx (k := 1) rfl (by omega) hL2) ?_
  refine r_cV1i hX dL_law_911 kX6_first (frm_r ad_wM) cM rfl (by decide) (Nat.le_of_ble_eq_true rfl) ?_
  refine r_ic_eq hX dL_law_914 (fun _ => ?_) (fun h => absurd rfl h)
  exact k a kp' rd' nw' i0' i1' fa' bo' pl' dr' σ' hR'
set_option maxHeartbeats 1000000 in
theorem lc_write {X : CT} {l : Launch} {g : GT} {b0 L : Nat} {xs : Nat → Int32} {x : Nat} {a : Nat → Nat → Nat} {kp : Int32} {rd nw i0 i1 fa bo pl dr : S2} {b : Nat → Nat} {σ : S2} {ix : Nat} (hX : oK X l g RL code room_1) (hL : pL X b0 L xs) (hi : ix + 4 ≤ L) (hL2 : L ≤ 256) (hR : Rel kp rd nw i0 i1 fa bo pl σ) (k : KK X g b0 x b ix) : vJ X 54 927 (wX g x a kp rd nw i0 i1 fa bo pl dr ++ wM g b σ) 919 [some (.ref b0), some (.ref x), some (.ref (b 0)), some (.int (nI ix))] [] := by
  obtain ⟨o, kp', rd', nw', i0', i1', fa', bo', pl', dr', σ', cX, cM, hR'⟩ := st_write (l := l) (g := g) (x := x) (a := a) (dr := dr) (b := b) hR (xs (nI ix + 1).toNatClampNeg) (xs (nI ix + 2).toNatClampNeg)
  refine r_aload1 hX dL_law_919 ?_
  refine r_aload0 hX dL_law_920 ?_
  refine r_iload3 hX dL_law_921 ?_
  refine r_push hX dL_law_922 ?_
  refine r_iadd hX dL_law_923 ?_
  refine r_sld hX hL dL_law_924 (sidx (k := 1) rfl (by omega) hL2) ?_
  refine r_aload0 hX dL_law_925 ?_
  refine r_iload3 hX dL_law_926 ?_
  refine r_push hX dL_law_927 ?_
  refine r_iadd hX dL_law_928 ?_
  refine r_sld hX hL dL_law_929 (sidx (k := 2) rfl (by omega) hL2) ?_
  refine r_cV2i hX dL_law_930 kX5_write (frm_l ad_wX) cX rfl (by decide) (Nat.le_of_ble_eq_true rfl) ?_
  refine r_aload2 hX dL_law_933 ?_
  refine r_aload0 hX dL_law_934 ?_
  refine r_iload3 hX dL_law_935 ?_
  refine r_push hX dL_law_936 ?_
  refine r_iadd hX dL_law_937 ?_
  refine r_sld hX hL dL_law_938 (sidx (k := 1) rfl (by omega) hL2) ?_
  refine r_aload0 hX dL_law_939 ?_
  refine r_iload3 hX dL_law_940 ?_
  refine r_push hX dL_law_941 ?_
  refine r_iadd hX dL_law_942 ?_
  refine r_sld hX hL dL_law_943 (sidx (k := 2) rfl (by omega) hL2) ?_
  refine r_cV2i hX dL_law_944 kX6_write (frm_r ad_wM) cM rfl (by decide) (Nat.le_of_ble_eq_true rfl) ?_
  refine r_ic_eq hX dL_law_947 (fun _ => ?_) (fun h => absurd rfl h)
  exact k a kp' rd' nw' i0' i1' fa' bo' pl' dr' σ' hR'
set_option maxHeartbeats 1000000 in
theorem lc_tear {X : CT} {l : Launch} {g : GT} {b0 L : Nat} {xs : Nat → Int32} {x : Nat} {a : Nat → Nat → Nat} {kp : Int32} {rd nw i0 i1 fa bo pl dr : S2} {b : Nat → Nat} {σ : S2} {ix : Nat} (hX : oK X l g RL code room_1) (hL : pL X b0 L xs) (hi : ix + 4 ≤ L) (hL2 : L ≤ 256) (hR : Rel kp rd nw i0 i1 fa bo pl σ) (k : KK X g b0 x b ix) : vJ X 54 927 (wX g x a kp rd nw i0 i1 fa bo pl dr ++ wM g b σ) 952 [some (.ref b0), some (.ref x), some (.ref (b 0)), some (.int (nI ix))] [] := by
  obtain ⟨o, kp', rd', nw', i0', i1', fa', bo', pl', dr', σ', cX, cM, hR'⟩ := st_tear (l := l) (g := g) (x := x) (a := a) (dr := dr) (b := b) hR 
  refine r_aload1 hX dL_law_952 ?_
  refine r_cV0i hX dL_law_953 kX5_tear (frm_l ad_wX) cX rfl (by decide) (Nat.le_of_ble_eq_true rfl) ?_
  refine r_aload2 hX dL_law_956 ?_
  refine r_cV0i hX dL_law_957 kX6_tear (frm_r ad_wM) cM rfl (by decide) (Nat.le_of_ble_eq_true rfl) ?_
  refine r_ic_eq hX dL_law_960 (fun _ => ?_) (fun h => absurd rfl h)
  exact k a kp' rd' nw' i0' i1' fa' bo' pl' dr' σ' hR'
set_option maxHeartbeats 1000000 in
theorem lc_judge {X : CT} {l : Launch} {g : GT} {b0 L : Nat} {xs : Nat → Int32} {x : Nat} {a : Nat → Nat → Nat} {kp : Int32} {rd nw i0 i1 fa bo pl dr : S2} {b : Nat → Nat} {σ : S2} {ix : Nat} (hX : oK X l g RL code room_1) (hL : pL X b0 L xs) (hi : ix + 4 ≤ L) (hL2 : L ≤ 256) (hR : Rel kp rd nw i0 i1 fa bo pl σ) (k : KK X g b0 x b ix) : vJ X 54 927 (wX g x a kp rd nw i0 i1 fa bo pl dr ++ wM g b σ) 965 [some (.ref b0), some (.ref x), some (.ref (b 0)), some (.int (nI ix))] [] := by
  obtain ⟨o, kp', rd', nw', i0', i1', fa', bo', pl', dr', σ', cX, cM, hR'⟩ := st_judge (l := l) (g := g) (x := x) (a := a) (dr := dr) (b := b) hR 
  refine r_aload1 hX dL_law_965 ?_
  refine r_cV0i hX dL_law_966 kX5_judge (frm_l ad_wX) cX rfl (by decide) (Nat.le_of_ble_eq_true rfl) ?_
  refine r_aload2 hX dL_law_969 ?_
  refine r_cV0i hX dL_law_970 kX6_judge (frm_r ad_wM) cM rfl (by decide) (Nat.le_of_ble_eq_true rfl) ?_
  refine r_ic_eq hX dL_law_973 (fun _ => ?_) (fun h => absurd rfl h)
  exact k a kp' rd' nw' i0' i1' fa' bo' pl' dr' σ' hR'
set_option maxHeartbeats 1000000 in
theorem lc_seed {X : CT} {l : Launch} {g : GT} {b0 L : Nat} {xs : Nat → Int32} {x : Nat} {a : Nat → Nat → Nat} {kp : Int32} {rd nw i0 i1 fa bo pl dr : S2} {b : Nat → Nat} {σ : S2} {ix : Nat} (hX : oK X l g RL code room_1) (hL : pL X b0 L xs) (hi : ix + 4 ≤ L) (hL2 : L ≤ 256) (hR : Rel kp rd nw i0 i1 fa bo pl σ) (k : KK X g b0 x b ix) : vJ X 54 927 (wX g x a kp rd nw i0 i1 fa bo pl dr ++ wM g b σ) 978 [some (.ref b0), some (.ref x), some (.ref (b 0)), some (.int (nI ix))] [] := by
  obtain ⟨o, kp', rd', nw', i0', i1', fa', bo', pl', dr', σ', cX, cM, hR'⟩ := st_seed (l := l) (g := g) (x := x) (a := a) (dr := dr) (b := b) hR (xs (nI ix + 1).toNatClampNeg)
  refine r_aload1 hX dL_law_978 ?_
  refine r_aload0 hX dL_law_979 ?_
  refine r_iload3 hX dL_law_980 ?_
  refine r_push hX dL_law_981 ?_
  refine r_iadd hX dL_law_982 ?_
  refine r_sld hX hL dL_law_983 (sidx (k := 1) rfl (by omega) hL2) ?_
  refine r_cV1i hX dL_law_984 kX5_seed (frm_l ad_wX) cX rfl (by decide) (Nat.le_of_ble_eq_true rfl) ?_
  refine r_aload2 hX dL_law_987 ?_
  refine r_aload0 hX dL_law_988 ?_
  refine r_iload3 hX dL_law_989 ?_
  refine r_push hX dL_law_990 ?_
  refine r_iadd hX dL_law_991 ?_
  refine r_sld hX hL dL_law_992 (sidx (k := 1) rfl (by omega) hL2) ?_
  refine r_cV1i hX dL_law_993 kX6_seed (frm_r ad_wM) cM rfl (by decide) (Nat.le_of_ble_eq_true rfl) ?_
  refine r_ic_eq hX dL_law_996 (fun _ => ?_) (fun h => absurd rfl h)
  exact k a kp' rd' nw' i0' i1' fa' bo' pl' dr' σ' hR'
set_option maxHeartbeats 1000000 in
theorem lc_keep {X : CT} {l : Launch} {g : GT} {b0 L : Nat} {xs : Nat → Int32} {x : Nat} {a : Nat → Nat → Nat} {kp : Int32} {rd nw i0 i1 fa bo pl dr : S2} {b : Nat → Nat} {σ : S2} {ix : Nat} (hX : oK X l g RL code room_1) (hL : pL X b0 L xs) (hi : ix + 4 ≤ L) (hL2 : L ≤ 256) (hR : Rel kp rd nw i0 i1 fa bo pl σ) (k : KK X g b0 x b ix) : vJ X 54 927 (wX g x a kp rd nw i0 i1 fa bo pl dr ++ wM g b σ) 1001 [some (.ref b0), some (.ref x), some (.ref (b 0)), some (.int (nI ix))] [] := by
  obtain ⟨o, kp', rd', nw', i0', i1', fa', bo', pl', dr', σ', cX, cM, hR'⟩ := st_keep (l := l) (g := g) (x := x) (a := a) (dr := dr) (b := b) hR (xs (nI ix + 1).toNatClampNeg)
  refine r_aload1 hX dL_law_1001 ?_
  refine r_aload0 hX dL_law_1002 ?_
  refine r_iload3 hX dL_law_1003 ?_
  refine r_push hX dL_law_1004 ?_
  refine r_iadd hX dL_law_1005 ?_
  refine r_sld hX hL dL_law_1006 (sidx (k := 1) rfl (by omega) hL2) ?_
  refine r_cV1i hX dL_law_1007 kX5_keep (frm_l ad_wX) cX rfl (by decide) (Nat.le_of_ble_eq_true rfl) ?_
  refine r_aload2 hX dL_law_1010 ?_
  refine r_aload0 hX dL_law_1011 ?_
  refine r_iload3 hX dL_law_1012 ?_
  refine r_push hX dL_law_1013 ?_
  refine r_iadd hX dL_law_1014 ?_
  refine r_sld hX hL dL_law_1015 (sidx (k := 1) rfl (by omega) hL2) ?_
  refine r_cV1i hX dL_law_1016 kX6_keep (frm_r ad_wM) cM rfl (by decide) (Nat.le_of_ble_eq_true rfl) ?_
  refine r_ic_eq hX dL_law_1019 (fun _ => ?_) (fun h => absurd rfl h)
  exact k a kp' rd' nw' i0' i1' fa' bo' pl' dr' σ' hR'
set_option maxHeartbeats 1000000 in
theorem lc_goBack {X : CT} {l : Launch} {g : GT} {b0 L : Nat} {xs : Nat → Int32} {x : Nat} {a : Nat → Nat → Nat} {kp : Int32} {rd nw i0 i1 fa bo pl dr : S2} {b : Nat → Nat} {σ : S2} {ix : Nat} (hX : oK X l g RL code room_1) (hL : pL X b0 L xs) (hi : ix + 4 ≤ L) (hL2 : L ≤ 256) (hR : Rel kp rd nw i0 i1 fa bo pl σ) (k : KK X g b0 x b ix) : vJ X 54 927 (wX g x a kp rd nw i0 i1 fa bo pl dr ++ wM g b σ) 1024 [some (.ref b0), some (.ref x), some (.ref (b 0)), some (.int (nI ix))] [] := by
  obtain ⟨o, kp', rd', nw', i0', i1', fa', bo', pl', dr', σ', cX, cM, hR'⟩ := st_goBack (l := l) (g := g) (x := x) (a := a) (dr := dr) (b := b) hR (xs (nI ix + 1).toNatClampNeg)
  refine r_aload1 hX dL_law_1024 ?_
  refine r_aload0 hX dL_law_1025 ?_
  refine r_iload3 hX dL_law_1026 ?_
  refine r_push hX dL_law_1027 ?_
  refine r_iadd hX dL_law_1028 ?_
  refine r_sld hX hL dL_law_1029 (sidx (k := 1) rfl (by omega) hL2) ?_
  refine r_cV1i hX dL_law_1030 kX5_goBack (frm_l ad_wX) cX rfl (by decide) (Nat.le_of_ble_eq_true rfl) ?_
  refine r_aload2 hX dL_law_1033 ?_
  refine r_aload0 hX dL_law_1034 ?_
  refine r_iload3 hX dL_law_1035 ?_
  refine r_push hX dL_law_1036 ?_
  refine r_iadd hX dL_law_1037 ?_
  refine r_sld hX hL dL_law_1038 (sidx (k := 1) rfl (by omega) hL2) ?_
  refine r_cV1i hX dL_law_1039 kX6_goBack (frm_r ad_wM) cM rfl (by decide) (Nat.le_of_ble_eq_true rfl) ?_
  refine r_ic_eq hX dL_law_1042 (fun _ => ?_) (fun h => absurd rfl h)
  exact k a kp' rd' nw' i0' i1' fa' bo' pl' dr' σ' hR'
