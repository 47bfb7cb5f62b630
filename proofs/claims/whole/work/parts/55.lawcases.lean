/-! THE LAW'S 35 CASES (wip/whole/gen/lawcases.py): the class answers, the reference answers the same, both states move alike -/
def LC (l : Launch) (D : va_G) (ad : Nat → Nat) (cs : Nat → ClassId) (A : Nat → Prop) (sA : Nat → Nat) (Q : State → Prop) (X : Mx) (b Ln : Nat) (xs : Nat → Int32) : Prop := CY (l, room_1, D, cs, A, Q) X cL_law RL 4 ∧ Sx (l, D, ad, cs, A, sA) X.2.2.1 ∧ va_X b Ln xs X.2.2.1 X.2.2.1.heap ∧ b < X.2.2.1.heap.size ∧ ¬ A b ∧ Ln ≤ 3072
abbrev LJ (ad : Nat → Nat) (b j : Nat) : List (Nat × Value) := [(0, .ref b), (1, .ref (ad 0)), (2, .ref (ad 64)), (3, .int (nI j))]
section LCS
variable {l : Launch} {D : va_G} {ad : Nat → Nat} {cs : Nat → ClassId} {A : Nat → Prop} {sA : Nat → Nat} {Q : State → Prop} {X : Mx} {b Ln k n j : Nat} {xs : Nat → Int32} {σ : St} {s : Ms}
theorem kl_149 : Cond.constantLong RL 149 (4294967295 : Int64) ∈ lw_tbl := List.mem_of_getElem? (i := 1164) (by decide +kernel)
theorem lg_same (x : Int64) : lg_cmp x x = 0 := by simp [lg_cmp]
set_option maxHeartbeats 4000000 in
theorem lc_point (K : LC l D ad cs A sA Q X b Ln xs) (hj : j + 6 ≤ Ln) (hkR : k ≤ room_1.cells) (hnR : n ≤ room_1.slots) (hs : SyIs σ s) (hr : RfIs σ s) (ho : MsOk s) (kk : ∀ (σ2 : St) (s2 : Ms), SyIs σ2 s2 → RfIs σ2 s2 → MsOk s2 → GY (l, room_1, D, cs, A, Q) X 4 k n (wd (l, D, ad, cs, A, sA) σ2) 1312 (LJ ad b j) []) : GY (l, room_1, D, cs, A, Q) X 4 k n (wd (l, D, ad, cs, A, sA) σ) 188 (LJ ad b j) [] := by
  obtain ⟨C, hSx, hX, hbl, hbA, hLn⟩ := K
  refine y_aload_n (x := ad 0) C dL_law_188 rfl ?_
  refine y_sc C hX hbl hbA 1 (by decide) hj hLn rfl rfl dL_law_189 dL_law_190 dL_law_191 dL_law_192 dL_law_193 ?_
  refine y_sc C hX hbl hbA 2 (by decide) hj hLn rfl rfl dL_law_194 dL_law_195 dL_law_196 dL_law_197 dL_law_198 ?_
  refine y_sc C hX hbl hbA 3 (by decide) hj hLn rfl rfl dL_law_199 dL_law_200 dL_law_201 dL_law_202 dL_law_203 ?_
  refine y_sc C hX hbl hbA 4 (by decide) hj hLn rfl rfl dL_law_204 dL_law_205 dL_law_206 dL_law_207 dL_law_208 ?_
  refine y_callK C hSx ob0 (c_X7_point (d := 0) hs) dL_law_209 km_RL_13 kn_RX7 kc_yX7_point ki_yX7_point kx_yX7_point hkR hnR (by decide) (by decide) ⟨by decide, by decide, rfl⟩ rfl (Nat.le_of_ble_eq_true rfl) (fun r7 σ7 h7 => ?_)
  obtain ⟨e7, hs1, f7⟩ := h7
  subst e7
  have hr1 := hr.fs f7
  show GY _ _ _ _ _ _ 212 _ [.int _]
  refine y_aload_n (x := ad 64) C dL_law_212 rfl ?_
  refine y_sc C hX hbl hbA 1 (by decide) hj hLn rfl rfl dL_law_213 dL_law_214 dL_law_215 dL_law_216 dL_law_217 ?_
  refine y_sc C hX hbl hbA 2 (by decide) hj hLn rfl rfl dL_law_218 dL_law_219 dL_law_220 dL_law_221 dL_law_222 ?_
  refine y_sc C hX hbl hbA 3 (by decide) hj hLn rfl rfl dL_law_223 dL_law_224 dL_law_225 dL_law_226 dL_law_227 ?_
  refine y_sc C hX hbl hbA 4 (by decide) hj hLn rfl rfl dL_law_228 dL_law_229 dL_law_230 dL_law_231 dL_law_232 ?_
  refine y_callK C hSx ob64 (c_X8_point (d := 0) hr1) dL_law_233 km_RL_17 kn_RX8 kc_yX8_point ki_yX8_point kx_yX8_point hkR hnR (by decide) (by decide) ⟨by decide, by decide, rfl⟩ rfl (Nat.le_of_ble_eq_true rfl) (fun r8 σ8 h8 => ?_)
  obtain ⟨e8, hr2, f8⟩ := h8
  subst e8
  have hs2 := hs1.rs f8
  show GY _ _ _ _ _ _ 236 _ [.int _, .int _]
  refine y_iceq C 1312 dL_law_236 rfl (fun _ => ?_) (fun h => absurd rfl h)
  exact kk _ _ hs2 hr2 (ok_tPoint ho)
set_option maxHeartbeats 4000000 in
theorem lc_mark (K : LC l D ad cs A sA Q X b Ln xs) (hj : j + 6 ≤ Ln) (hkR : k ≤ room_1.cells) (hnR : n ≤ room_1.slots) (hs : SyIs σ s) (hr : RfIs σ s) (ho : MsOk s) (kk : ∀ (σ2 : St) (s2 : Ms), SyIs σ2 s2 → RfIs σ2 s2 → MsOk s2 → GY (l, room_1, D, cs, A, Q) X 4 k n (wd (l, D, ad, cs, A, sA) σ2) 1312 (LJ ad b j) []) : GY (l, room_1, D, cs, A, Q) X 4 k n (wd (l, D, ad, cs, A, sA) σ) 241 (LJ ad b j) [] := by
  obtain ⟨C, hSx, hX, hbl, hbA, hLn⟩ := K
  refine y_aload_n (x := ad 0) C dL_law_241 rfl ?_
  refine y_sc C hX hbl hbA 1 (by decide) hj hLn rfl rfl dL_law_242 dL_law_243 dL_law_244 dL_law_245 dL_law_246 ?_
  refine y_sc C hX hbl hbA 2 (by decide) hj hLn rfl rfl dL_law_247 dL_law_248 dL_law_249 dL_law_250 dL_law_251 ?_
  refine y_callK C hSx ob0 (c_X7_mark (d := 0) hs) dL_law_252 km_RL_18 kn_RX7 kc_yX7_mark ki_yX7_mark kx_yX7_mark hkR hnR (by decide) (by decide) ⟨by decide, by decide, rfl⟩ rfl (Nat.le_of_ble_eq_true rfl) (fun r7 σ7 h7 => ?_)
  obtain ⟨e7, hs1, f7⟩ := h7
  subst e7
  have hr1 := hr.fs f7
  show GY _ _ _ _ _ _ 255 _ [.int _]
  refine y_aload_n (x := ad 64) C dL_law_255 rfl ?_
  refine y_sc C hX hbl hbA 1 (by decide) hj hLn rfl rfl dL_law_256 dL_law_257 dL_law_258 dL_law_259 dL_law_260 ?_
  refine y_sc C hX hbl hbA 2 (by decide) hj hLn rfl rfl dL_law_261 dL_law_262 dL_law_263 dL_law_264 dL_law_265 ?_
  refine y_callK C hSx ob64 (c_X8_mark (d := 0) hr1) dL_law_266 km_RL_22 kn_RX8 kc_yX8_mark ki_yX8_mark kx_yX8_mark hkR hnR (by decide) (by decide) ⟨by decide, by decide, rfl⟩ rfl (Nat.le_of_ble_eq_true rfl) (fun r8 σ8 h8 => ?_)
  obtain ⟨e8, hr2, f8⟩ := h8
  subst e8
  have hs2 := hs1.rs f8
  show GY _ _ _ _ _ _ 269 _ [.int _, .int _]
  refine y_iceq C 1312 dL_law_269 rfl (fun _ => ?_) (fun h => absurd rfl h)
  exact kk _ _ hs2 hr2 (ok_tMark ho)
set_option maxHeartbeats 4000000 in
theorem lc_drop (K : LC l D ad cs A sA Q X b Ln xs) (hj : j + 6 ≤ Ln) (hkR : k ≤ room_1.cells) (hnR : n ≤ room_1.slots) (hs : SyIs σ s) (hr : RfIs σ s) (ho : MsOk s) (kk : ∀ (σ2 : St) (s2 : Ms), SyIs σ2 s2 → RfIs σ2 s2 → MsOk s2 → GY (l, room_1, D, cs, A, Q) X 4 k n (wd (l, D, ad, cs, A, sA) σ2) 1312 (LJ ad b j) []) : GY (l, room_1, D, cs, A, Q) X 4 k n (wd (l, D, ad, cs, A, sA) σ) 274 (LJ ad b j) [] := by
  obtain ⟨C, hSx, hX, hbl, hbA, hLn⟩ := K
  refine y_aload_n (x := ad 0) C dL_law_274 rfl ?_
  refine y_sc C hX hbl hbA 1 (by decide) hj hLn rfl rfl dL_law_275 dL_law_276 dL_law_277 dL_law_278 dL_law_279 ?_
  refine y_callK C hSx ob0 (c_X7_drop (d := 0) hs) dL_law_280 km_RL_23 kn_RX7 kc_yX7_drop ki_yX7_drop kx_yX7_drop hkR hnR (by decide) (by decide) ⟨by decide, by decide, rfl⟩ rfl (Nat.le_of_ble_eq_true rfl) (fun r7 σ7 h7 => ?_)
  obtain ⟨e7, hs1, f7⟩ := h7
  subst e7
  have hr1 := hr.fs f7
  show GY _ _ _ _ _ _ 283 _ [.int _]
  refine y_aload_n (x := ad 64) C dL_law_283 rfl ?_
  refine y_sc C hX hbl hbA 1 (by decide) hj hLn rfl rfl dL_law_284 dL_law_285 dL_law_286 dL_law_287 dL_law_288 ?_
  refine y_callK C hSx ob64 (c_X8_drop (d := 0) hr1) dL_law_289 km_RL_27 kn_RX8 kc_yX8_drop ki_yX8_drop kx_yX8_drop hkR hnR (by decide) (by decide) ⟨by decide, by decide, rfl⟩ rfl (Nat.le_of_ble_eq_true rfl) (fun r8 σ8 h8 => ?_)
  obtain ⟨e8, hr2, f8⟩ := h8
  subst e8
  have hs2 := hs1.rs f8
  show GY _ _ _ _ _ _ 292 _ [.int _, .int _]
  refine y_iceq C 1312 dL_law_292 rfl (fun _ => ?_) (fun h => absurd rfl h)
  exact kk _ _ hs2 hr2 (ok_tDrop ho)
set_option maxHeartbeats 4000000 in
theorem lc_of (K : LC l D ad cs A sA Q X b Ln xs) (hj : j + 6 ≤ Ln) (hkR : k ≤ room_1.cells) (hnR : n ≤ room_1.slots) (hs : SyIs σ s) (hr : RfIs σ s) (ho : MsOk s) (kk : ∀ (σ2 : St) (s2 : Ms), SyIs σ2 s2 → RfIs σ2 s2 → MsOk s2 → GY (l, room_1, D, cs, A, Q) X 4 k n (wd (l, D, ad, cs, A, sA) σ2) 1312 (LJ ad b j) []) : GY (l, room_1, D, cs, A, Q) X 4 k n (wd (l, D, ad, cs, A, sA) σ) 297 (LJ ad b j) [] := by
  obtain ⟨C, hSx, hX, hbl, hbA, hLn⟩ := K
  refine y_aload_n (x := ad 0) C dL_law_297 rfl ?_
  refine y_sc C hX hbl hbA 1 (by decide) hj hLn rfl rfl dL_law_298 dL_law_299 dL_law_300 dL_law_301 dL_law_302 ?_
  refine y_sc C hX hbl hbA 2 (by decide) hj hLn rfl rfl dL_law_303 dL_law_304 dL_law_305 dL_law_306 dL_law_307 ?_
  refine y_callK C hSx ob0 (c_X7_of (d := 0) hs) dL_law_308 km_RL_28 kn_RX7 kc_yX7_of ki_yX7_of kx_yX7_of hkR hnR (by decide) (by decide) ⟨by decide, by decide, rfl⟩ rfl (Nat.le_of_ble_eq_true rfl) (fun r7 σ7 h7 => ?_)
  obtain ⟨e7, hs1, f7⟩ := h7
  subst e7
  have hr1 := hr.fs f7
  show GY _ _ _ _ _ _ 311 _ [.int _]
  refine y_aload_n (x := ad 64) C dL_law_311 rfl ?_
  refine y_sc C hX hbl hbA 1 (by decide) hj hLn rfl rfl dL_law_312 dL_law_313 dL_law_314 dL_law_315 dL_law_316 ?_
  refine y_sc C hX hbl hbA 2 (by decide) hj hLn rfl rfl dL_law_317 dL_law_318 dL_law_319 dL_law_320 dL_law_321 ?_
  refine y_callK C hSx ob64 (c_X8_of (d := 0) hr1) dL_law_322 km_RL_31 kn_RX8 kc_yX8_of ki_yX8_of kx_yX8_of hkR hnR (by decide) (by decide) ⟨by decide, by decide, rfl⟩ rfl (Nat.le_of_ble_eq_true rfl) (fun r8 σ8 h8 => ?_)
  obtain ⟨e8, hr2, f8⟩ := h8
  subst e8
  have hs2 := hs1.rs f8
  show GY _ _ _ _ _ _ 325 _ [.int _, .int _]
  refine y_iceq C 1312 dL_law_325 rfl (fun _ => ?_) (fun h => absurd rfl h)
  exact kk _ _ hs2 hr2 ho
set_option maxHeartbeats 4000000 in
theorem lc_at (K : LC l D ad cs A sA Q X b Ln xs) (hj : j + 6 ≤ Ln) (hkR : k ≤ room_1.cells) (hnR : n ≤ room_1.slots) (hs : SyIs σ s) (hr : RfIs σ s) (ho : MsOk s) (kk : ∀ (σ2 : St) (s2 : Ms), SyIs σ2 s2 → RfIs σ2 s2 → MsOk s2 → GY (l, room_1, D, cs, A, Q) X 4 k n (wd (l, D, ad, cs, A, sA) σ2) 1312 (LJ ad b j) []) : GY (l, room_1, D, cs, A, Q) X 4 k n (wd (l, D, ad, cs, A, sA) σ) 330 (LJ ad b j) [] := by
  obtain ⟨C, hSx, hX, hbl, hbA, hLn⟩ := K
  refine y_aload_n (x := ad 0) C dL_law_330 rfl ?_
  refine y_sc C hX hbl hbA 1 (by decide) hj hLn rfl rfl dL_law_331 dL_law_332 dL_law_333 dL_law_334 dL_law_335 ?_
  refine y_sc C hX hbl hbA 2 (by decide) hj hLn rfl rfl dL_law_336 dL_law_337 dL_law_338 dL_law_339 dL_law_340 ?_
  refine y_sc C hX hbl hbA 3 (by decide) hj hLn rfl rfl dL_law_341 dL_law_342 dL_law_343 dL_law_344 dL_law_345 ?_
  refine y_callK C hSx ob0 (c_X7_at (d := 0) hs) dL_law_346 km_RL_32 kn_RX7 kc_yX7_at ki_yX7_at kx_yX7_at hkR hnR (by decide) (by decide) ⟨by decide, by decide, rfl⟩ rfl (Nat.le_of_ble_eq_true rfl) (fun r7 σ7 h7 => ?_)
  obtain ⟨e7, hs1, f7⟩ := h7
  subst e7
  have hr1 := hr.fs f7
  show GY _ _ _ _ _ _ 349 _ [.int _]
  refine y_aload_n (x := ad 64) C dL_law_349 rfl ?_
  refine y_sc C hX hbl hbA 1 (by decide) hj hLn rfl rfl dL_law_350 dL_law_351 dL_law_352 dL_law_353 dL_law_354 ?_
  refine y_sc C hX hbl hbA 2 (by decide) hj hLn rfl rfl dL_law_355 dL_law_356 dL_law_357 dL_law_358 dL_law_359 ?_
  refine y_sc C hX hbl hbA 3 (by decide) hj hLn rfl rfl dL_law_360 dL_law_361 dL_law_362 dL_law_363 dL_law_364 ?_
  refine y_callK C hSx ob64 (c_X8_at (d := 0) hr1) dL_law_365 km_RL_36 kn_RX8 kc_yX8_at ki_yX8_at kx_yX8_at hkR hnR (by decide) (by decide) ⟨by decide, by decide, rfl⟩ rfl (Nat.le_of_ble_eq_true rfl) (fun r8 σ8 h8 => ?_)
  obtain ⟨e8, hr2, f8⟩ := h8
  subst e8
  have hs2 := hs1.rs f8
  show GY _ _ _ _ _ _ 368 _ [.int _, .int _]
  refine y_iceq C 1312 dL_law_368 rfl (fun _ => ?_) (fun h => absurd rfl h)
  exact kk _ _ hs2 hr2 ho
set_option maxHeartbeats 4000000 in
theorem lc_feed (K : LC l D ad cs A sA Q X b Ln xs) (hj : j + 6 ≤ Ln) (hkR : k ≤ room_1.cells) (hnR : n ≤ room_1.slots) (hs : SyIs σ s) (hr : RfIs σ s) (ho : MsOk s) (kk : ∀ (σ2 : St) (s2 : Ms), SyIs σ2 s2 → RfIs σ2 s2 → MsOk s2 → GY (l, room_1, D, cs, A, Q) X 4 k n (wd (l, D, ad, cs, A, sA) σ2) 1312 (LJ ad b j) []) : GY (l, room_1, D, cs, A, Q) X 4 k n (wd (l, D, ad, cs, A, sA) σ) 373 (LJ ad b j) [] := by
  obtain ⟨C, hSx, hX, hbl, hbA, hLn⟩ := K
  refine y_aload_n (x := ad 0) C dL_law_373 rfl ?_
  refine y_sc C hX hbl hbA 1 (by decide) hj hLn rfl rfl dL_law_374 dL_law_375 dL_law_376 dL_law_377 dL_law_378 ?_
  refine y_callK C hSx ob0 (c_X7_feed (d := 0) hs) dL_law_379 km_RL_37 kn_RX7 kc_yX7_feed ki_yX7_feed kx_yX7_feed hkR hnR (by decide) (by decide) ⟨by decide, by decide, rfl⟩ rfl (Nat.le_of_ble_eq_true rfl) (fun r7 σ7 h7 => ?_)
  obtain ⟨e7, hs1, f7⟩ := h7
  subst e7
  have hr1 := hr.fs f7
  show GY _ _ _ _ _ _ 382 _ [.int _]
  refine y_aload_n (x := ad 64) C dL_law_382 rfl ?_
  refine y_sc C hX hbl hbA 1 (by decide) hj hLn rfl rfl dL_law_383 dL_law_384 dL_law_385 dL_law_386 dL_law_387 ?_
  refine y_callK C hSx ob64 (c_X8_feed (d := 0) hr1) dL_law_388 km_RL_40 kn_RX8 kc_yX8_feed ki_yX8_feed kx_yX8_feed hkR hnR (by decide) (by decide) ⟨by decide, by decide, rfl⟩ rfl (Nat.le_of_ble_eq_true rfl) (fun r8 σ8 h8 => ?_)
  obtain ⟨e8, hr2, f8⟩ := h8
  subst e8
  have hs2 := hs1.rs f8
  show GY _ _ _ _ _ _ 391 _ [.int _, .int _]
  refine y_iceq C 1312 dL_law_391 rfl (fun _ => ?_) (fun h => absurd rfl h)
  exact kk _ _ hs2 hr2 (ok_tFeed ho)
set_option maxHeartbeats 4000000 in
theorem lc_read (K : LC l D ad cs A sA Q X b Ln xs) (hj : j + 6 ≤ Ln) (hkR : k ≤ room_1.cells) (hnR : n ≤ room_1.slots) (hs : SyIs σ s) (hr : RfIs σ s) (ho : MsOk s) (kk : ∀ (σ2 : St) (s2 : Ms), SyIs σ2 s2 → RfIs σ2 s2 → MsOk s2 → GY (l, room_1, D, cs, A, Q) X 4 k n (wd (l, D, ad, cs, A, sA) σ2) 1312 (LJ ad b j) []) : GY (l, room_1, D, cs, A, Q) X 4 k n (wd (l, D, ad, cs, A, sA) σ) 396 (LJ ad b j) [] := by
  obtain ⟨C, hSx, hX, hbl, hbA, hLn⟩ := K
  refine y_aload_n (x := ad 0) C dL_law_396 rfl ?_
  refine y_callK C hSx ob0 (c_X7_read (d := 0) hs) dL_law_397 km_RL_41 kn_RX7 kc_yX7_read ki_yX7_read kx_yX7_read hkR hnR (by decide) (by decide) ⟨by decide, by decide, rfl⟩ rfl (Nat.le_of_ble_eq_true rfl) (fun r7 σ7 h7 => ?_)
  obtain ⟨e7, hs1, f7⟩ := h7
  subst e7
  have hr1 := hr.fs f7
  show GY _ _ _ _ _ _ 400 _ [.int _]
  refine y_aload_n (x := ad 64) C dL_law_400 rfl ?_
  refine y_callK C hSx ob64 (c_X8_read (d := 0) hr1) dL_law_401 km_RL_45 kn_RX8 kc_yX8_read ki_yX8_read kx_yX8_read hkR hnR (by decide) (by decide) ⟨by decide, by decide, rfl⟩ rfl (Nat.le_of_ble_eq_true rfl) (fun r8 σ8 h8 => ?_)
  obtain ⟨e8, hr2, f8⟩ := h8
  subst e8
  have hs2 := hs1.rs f8
  show GY _ _ _ _ _ _ 404 _ [.int _, .int _]
  refine y_iceq C 1312 dL_law_404 rfl (fun _ => ?_) (fun h => absurd rfl h)
  exact kk _ _ hs2 hr2 (ok_tRead ho)
set_option maxHeartbeats 4000000 in
theorem lc_product (K : LC l D ad cs A sA Q X b Ln xs) (hj : j + 6 ≤ Ln) (hkR : k ≤ room_1.cells) (hnR : n ≤ room_1.slots) (hs : SyIs σ s) (hr : RfIs σ s) (ho : MsOk s) (kk : ∀ (σ2 : St) (s2 : Ms), SyIs σ2 s2 → RfIs σ2 s2 → MsOk s2 → GY (l, room_1, D, cs, A, Q) X 4 k n (wd (l, D, ad, cs, A, sA) σ2) 1312 (LJ ad b j) []) : GY (l, room_1, D, cs, A, Q) X 4 k n (wd (l, D, ad, cs, A, sA) σ) 409 (LJ ad b j) [] := by
  obtain ⟨C, hSx, hX, hbl, hbA, hLn⟩ := K
  refine y_aload_n (x := ad 0) C dL_law_409 rfl ?_
  refine y_sc C hX hbl hbA 1 (by decide) hj hLn rfl rfl dL_law_410 dL_law_411 dL_law_412 dL_law_413 dL_law_414 ?_
  refine y_sc C hX hbl hbA 2 (by decide) hj hLn rfl rfl dL_law_415 dL_law_416 dL_law_417 dL_law_418 dL_law_419 ?_
  refine y_callK C hSx ob0 (c_X7_product (d := 0) hs) dL_law_420 km_RL_46 kn_RX7 kc_yX7_product ki_yX7_product kx_yX7_product hkR hnR (by decide) (by decide) ⟨by decide, by decide, rfl⟩ rfl (Nat.le_of_ble_eq_true rfl) (fun r7 σ7 h7 => ?_)
  obtain ⟨e7, hs1, f7⟩ := h7
  subst e7
  have hr1 := hr.fs f7
  show GY _ _ _ _ _ _ 423 _ [.int _]
  refine y_aload_n (x := ad 64) C dL_law_423 rfl ?_
  refine y_sc C hX hbl hbA 1 (by decide) hj hLn rfl rfl dL_law_424 dL_law_425 dL_law_426 dL_law_427 dL_law_428 ?_
  refine y_sc C hX hbl hbA 2 (by decide) hj hLn rfl rfl dL_law_429 dL_law_430 dL_law_431 dL_law_432 dL_law_433 ?_
  refine y_callK C hSx ob64 (c_X8_product (d := 0) hr1) dL_law_434 km_RL_49 kn_RX8 kc_yX8_product ki_yX8_product kx_yX8_product hkR hnR (by decide) (by decide) ⟨by decide, by decide, rfl⟩ rfl (Nat.le_of_ble_eq_true rfl) (fun r8 σ8 h8 => ?_)
  obtain ⟨e8, hr2, f8⟩ := h8
  subst e8
  have hs2 := hs1.rs f8
  show GY _ _ _ _ _ _ 437 _ [.int _, .int _]
  refine y_iceq C 1312 dL_law_437 rfl (fun _ => ?_) (fun h => absurd rfl h)
  exact kk _ _ hs2 hr2 ho
set_option maxHeartbeats 4000000 in
theorem lc_move (K : LC l D ad cs A sA Q X b Ln xs) (hj : j + 6 ≤ Ln) (hkR : k ≤ room_1.cells) (hnR : n ≤ room_1.slots) (hs : SyIs σ s) (hr : RfIs σ s) (ho : MsOk s) (kk : ∀ (σ2 : St) (s2 : Ms), SyIs σ2 s2 → RfIs σ2 s2 → MsOk s2 → GY (l, room_1, D, cs, A, Q) X 4 k n (wd (l, D, ad, cs, A, sA) σ2) 1312 (LJ ad b j) []) : GY (l, room_1, D, cs, A, Q) X 4 k n (wd (l, D, ad, cs, A, sA) σ) 442 (LJ ad b j) [] := by
  obtain ⟨C, hSx, hX, hbl, hbA, hLn⟩ := K
  refine y_aload_n (x := ad 0) C dL_law_442 rfl ?_
  refine y_sc C hX hbl hbA 1 (by decide) hj hLn rfl rfl dL_law_443 dL_law_444 dL_law_445 dL_law_446 dL_law_447 ?_
  refine y_sc C hX hbl hbA 2 (by decide) hj hLn rfl rfl dL_law_448 dL_law_449 dL_law_450 dL_law_451 dL_law_452 ?_
  refine y_callK C hSx ob0 (c_X7_move (d := 0) hs) dL_law_453 km_RL_50 kn_RX7 kc_yX7_move ki_yX7_move kx_yX7_move hkR hnR (by decide) (by decide) ⟨by decide, by decide, rfl⟩ rfl (Nat.le_of_ble_eq_true rfl) (fun r7 σ7 h7 => ?_)
  obtain ⟨e7, hs1, f7⟩ := h7
  subst e7
  have hr1 := hr.fs f7
  show GY _ _ _ _ _ _ 456 _ [.int _]
  refine y_aload_n (x := ad 64) C dL_law_456 rfl ?_
  refine y_sc C hX hbl hbA 1 (by decide) hj hLn rfl rfl dL_law_457 dL_law_458 dL_law_459 dL_law_460 dL_law_461 ?_
  refine y_sc C hX hbl hbA 2 (by decide) hj hLn rfl rfl dL_law_462 dL_law_463 dL_law_464 dL_law_465 dL_law_466 ?_
  refine y_callK C hSx ob64 (c_X8_move (d := 0) hr1) dL_law_467 km_RL_53 kn_RX8 kc_yX8_move ki_yX8_move kx_yX8_move hkR hnR (by decide) (by decide) ⟨by decide, by decide, rfl⟩ rfl (Nat.le_of_ble_eq_true rfl) (fun r8 σ8 h8 => ?_)
  obtain ⟨e8, hr2, f8⟩ := h8
  subst e8
  have hs2 := hs1.rs f8
  show GY _ _ _ _ _ _ 470 _ [.int _, .int _]
  refine y_iceq C 1312 dL_law_470 rfl (fun _ => ?_) (fun h => absurd rfl h)
  exact kk _ _ hs2 hr2 ho
set_option maxHeartbeats 4000000 in
theorem lc_trace (K : LC l D ad cs A sA Q X b Ln xs) (hj : j + 6 ≤ Ln) (hkR : k ≤ room_1.cells) (hnR : n ≤ room_1.slots) (hs : SyIs σ s) (hr : RfIs σ s) (ho : MsOk s) (kk : ∀ (σ2 : St) (s2 : Ms), SyIs σ2 s2 → RfIs σ2 s2 → MsOk s2 → GY (l, room_1, D, cs, A, Q) X 4 k n (wd (l, D, ad, cs, A, sA) σ2) 1312 (LJ ad b j) []) : GY (l, room_1, D, cs, A, Q) X 4 k n (wd (l, D, ad, cs, A, sA) σ) 475 (LJ ad b j) [] := by
  obtain ⟨C, hSx, hX, hbl, hbA, hLn⟩ := K
  refine y_aload_n (x := ad 0) C dL_law_475 rfl ?_
  refine y_sc C hX hbl hbA 1 (by decide) hj hLn rfl rfl dL_law_476 dL_law_477 dL_law_478 dL_law_479 dL_law_480 ?_
  refine y_sc C hX hbl hbA 2 (by decide) hj hLn rfl rfl dL_law_481 dL_law_482 dL_law_483 dL_law_484 dL_law_485 ?_
  refine y_callK C hSx ob0 (c_X7_trace (d := 0) hs) dL_law_486 km_RL_54 kn_RX7 kc_yX7_trace ki_yX7_trace kx_yX7_trace hkR hnR (by decide) (by decide) ⟨by decide, by decide, rfl⟩ rfl (Nat.le_of_ble_eq_true rfl) (fun r7 σ7 h7 => ?_)
  obtain ⟨e7, hs1, f7⟩ := h7
  subst e7
  have hr1 := hr.fs f7
  show GY _ _ _ _ _ _ 489 _ [.int _]
  refine y_aload_n (x := ad 64) C dL_law_489 rfl ?_
  refine y_sc C hX hbl hbA 1 (by decide) hj hLn rfl rfl dL_law_490 dL_law_491 dL_law_492 dL_law_493 dL_law_494 ?_
  refine y_sc C hX hbl hbA 2 (by decide) hj hLn rfl rfl dL_law_495 dL_law_496 dL_law_497 dL_law_498 dL_law_499 ?_
  refine y_callK C hSx ob64 (c_X8_trace (d := 0) hr1) dL_law_500 km_RL_57 kn_RX8 kc_yX8_trace ki_yX8_trace kx_yX8_trace hkR hnR (by decide) (by decide) ⟨by decide, by decide, rfl⟩ rfl (Nat.le_of_ble_eq_true rfl) (fun r8 σ8 h8 => ?_)
  obtain ⟨e8, hr2, f8⟩ := h8
  subst e8
  have hs2 := hs1.rs f8
  show GY _ _ _ _ _ _ 503 _ [.int _, .int _]
  refine y_iceq C 1312 dL_law_503 rfl (fun _ => ?_) (fun h => absurd rfl h)
  exact kk _ _ hs2 hr2 ho
set_option maxHeartbeats 4000000 in
theorem lc_takes (K : LC l D ad cs A sA Q X b Ln xs) (hj : j + 6 ≤ Ln) (hkR : k ≤ room_1.cells) (hnR : n ≤ room_1.slots) (hs : SyIs σ s) (hr : RfIs σ s) (ho : MsOk s) (kk : ∀ (σ2 : St) (s2 : Ms), SyIs σ2 s2 → RfIs σ2 s2 → MsOk s2 → GY (l, room_1, D, cs, A, Q) X 4 k n (wd (l, D, ad, cs, A, sA) σ2) 1312 (LJ ad b j) []) : GY (l, room_1, D, cs, A, Q) X 4 k n (wd (l, D, ad, cs, A, sA) σ) 508 (LJ ad b j) [] := by
  obtain ⟨C, hSx, hX, hbl, hbA, hLn⟩ := K
  refine y_aload_n (x := ad 0) C dL_law_508 rfl ?_
  refine y_sc C hX hbl hbA 1 (by decide) hj hLn rfl rfl dL_law_509 dL_law_510 dL_law_511 dL_law_512 dL_law_513 ?_
  refine y_sc C hX hbl hbA 2 (by decide) hj hLn rfl rfl dL_law_514 dL_law_515 dL_law_516 dL_law_517 dL_law_518 ?_
  refine y_callK C hSx ob0 (c_X7_takes (d := 0) hs) dL_law_519 km_RL_58 kn_RX7 kc_yX7_takes ki_yX7_takes kx_yX7_takes hkR hnR (by decide) (by decide) ⟨by decide, by decide, rfl⟩ rfl (Nat.le_of_ble_eq_true rfl) (fun r7 σ7 h7 => ?_)
  obtain ⟨e7, hs1, f7⟩ := h7
  subst e7
  have hr1 := hr.fs f7
  show GY _ _ _ _ _ _ 522 _ [.int _]
  refine y_aload_n (x := ad 64) C dL_law_522 rfl ?_
  refine y_sc C hX hbl hbA 1 (by decide) hj hLn rfl rfl dL_law_523 dL_law_524 dL_law_525 dL_law_526 dL_law_527 ?_
  refine y_sc C hX hbl hbA 2 (by decide) hj hLn rfl rfl dL_law_528 dL_law_529 dL_law_530 dL_law_531 dL_law_532 ?_
  refine y_callK C hSx ob64 (c_X8_takes (d := 0) hr1) dL_law_533 km_RL_61 kn_RX8 kc_yX8_takes ki_yX8_takes kx_yX8_takes hkR hnR (by decide) (by decide) ⟨by decide, by decide, rfl⟩ rfl (Nat.le_of_ble_eq_true rfl) (fun r8 σ8 h8 => ?_)
  obtain ⟨e8, hr2, f8⟩ := h8
  subst e8
  have hs2 := hs1.rs f8
  show GY _ _ _ _ _ _ 536 _ [.int _, .int _]
  refine y_iceq C 1312 dL_law_536 rfl (fun _ => ?_) (fun h => absurd rfl h)
  exact kk _ _ hs2 hr2 ho
set_option maxHeartbeats 4000000 in
theorem lc_told (K : LC l D ad cs A sA Q X b Ln xs) (hj : j + 6 ≤ Ln) (hkR : k ≤ room_1.cells) (hnR : n ≤ room_1.slots) (hs : SyIs σ s) (hr : RfIs σ s) (ho : MsOk s) (kk : ∀ (σ2 : St) (s2 : Ms), SyIs σ2 s2 → RfIs σ2 s2 → MsOk s2 → GY (l, room_1, D, cs, A, Q) X 4 k n (wd (l, D, ad, cs, A, sA) σ2) 1312 (LJ ad b j) []) : GY (l, room_1, D, cs, A, Q) X 4 k n (wd (l, D, ad, cs, A, sA) σ) 541 (LJ ad b j) [] := by
  obtain ⟨C, hSx, hX, hbl, hbA, hLn⟩ := K
  refine y_aload_n (x := ad 0) C dL_law_541 rfl ?_
  refine y_sc C hX hbl hbA 1 (by decide) hj hLn rfl rfl dL_law_542 dL_law_543 dL_law_544 dL_law_545 dL_law_546 ?_
  refine y_callK C hSx ob0 (c_X7_told (d := 0) hs) dL_law_547 km_RL_62 kn_RX7 kc_yX7_told ki_yX7_told kx_yX7_told hkR hnR (by decide) (by decide) ⟨by decide, by decide, rfl⟩ rfl (Nat.le_of_ble_eq_true rfl) (fun r7 σ7 h7 => ?_)
  obtain ⟨e7, hs1, f7⟩ := h7
  subst e7
  have hr1 := hr.fs f7
  show GY _ _ _ _ _ _ 550 _ [.int _]
  refine y_aload_n (x := ad 64) C dL_law_550 rfl ?_
  refine y_sc C hX hbl hbA 1 (by decide) hj hLn rfl rfl dL_law_551 dL_law_552 dL_law_553 dL_law_554 dL_law_555 ?_
  refine y_callK C hSx ob64 (c_X8_told (d := 0) hr1 (br_all ho.1.1).1 (br_all ho.1.1).2) dL_law_556 km_RL_65 kn_RX8 kc_yX8_told ki_yX8_told kx_yX8_told hkR hnR (by decide) (by decide) ⟨by decide, by decide, rfl⟩ rfl (Nat.le_of_ble_eq_true rfl) (fun r8 σ8 h8 => ?_)
  obtain ⟨e8, hr2, f8⟩ := h8
  subst e8
  have hs2 := hs1.rs f8
  show GY _ _ _ _ _ _ 559 _ [.int _, .int _]
  refine y_iceq C 1312 dL_law_559 rfl (fun _ => ?_) (fun h => absurd rfl h)
  exact kk _ _ hs2 hr2 ho
set_option maxHeartbeats 4000000 in
theorem lc_group (K : LC l D ad cs A sA Q X b Ln xs) (hj : j + 6 ≤ Ln) (hkR : k ≤ room_1.cells) (hnR : n ≤ room_1.slots) (hs : SyIs σ s) (hr : RfIs σ s) (ho : MsOk s) (kk : ∀ (σ2 : St) (s2 : Ms), SyIs σ2 s2 → RfIs σ2 s2 → MsOk s2 → GY (l, room_1, D, cs, A, Q) X 4 k n (wd (l, D, ad, cs, A, sA) σ2) 1312 (LJ ad b j) []) : GY (l, room_1, D, cs, A, Q) X 4 k n (wd (l, D, ad, cs, A, sA) σ) 564 (LJ ad b j) [] := by
  obtain ⟨C, hSx, hX, hbl, hbA, hLn⟩ := K
  refine y_aload_n (x := ad 0) C dL_law_564 rfl ?_
  refine y_sc C hX hbl hbA 1 (by decide) hj hLn rfl rfl dL_law_565 dL_law_566 dL_law_567 dL_law_568 dL_law_569 ?_
  refine y_callK C hSx ob0 (c_X7_group (d := 0) hs) dL_law_570 km_RL_66 kn_RX7 kc_yX7_group ki_yX7_group kx_yX7_group hkR hnR (by decide) (by decide) ⟨by decide, by decide, rfl⟩ rfl (Nat.le_of_ble_eq_true rfl) (fun r7 σ7 h7 => ?_)
  obtain ⟨e7, hs1, f7⟩ := h7
  subst e7
  have hr1 := hr.fs f7
  show GY _ _ _ _ _ _ 573 _ [.int _]
  refine y_aload_n (x := ad 64) C dL_law_573 rfl ?_
  refine y_sc C hX hbl hbA 1 (by decide) hj hLn rfl rfl dL_law_574 dL_law_575 dL_law_576 dL_law_577 dL_law_578 ?_
  refine y_callK C hSx ob64 (c_X8_group (d := 0) hr1) dL_law_579 km_RL_69 kn_RX8 kc_yX8_group ki_yX8_group kx_yX8_group hkR hnR (by decide) (by decide) ⟨by decide, by decide, rfl⟩ rfl (Nat.le_of_ble_eq_true rfl) (fun r8 σ8 h8 => ?_)
  obtain ⟨e8, hr2, f8⟩ := h8
  subst e8
  have hs2 := hs1.rs f8
  show GY _ _ _ _ _ _ 582 _ [.int _, .int _]
  refine y_iceq C 1312 dL_law_582 rfl (fun _ => ?_) (fun h => absurd rfl h)
  exact kk _ _ hs2 hr2 ho
set_option maxHeartbeats 4000000 in
theorem lc_classOf (K : LC l D ad cs A sA Q X b Ln xs) (hj : j + 6 ≤ Ln) (hkR : k ≤ room_1.cells) (hnR : n ≤ room_1.slots) (hs : SyIs σ s) (hr : RfIs σ s) (ho : MsOk s) (kk : ∀ (σ2 : St) (s2 : Ms), SyIs σ2 s2 → RfIs σ2 s2 → MsOk s2 → GY (l, room_1, D, cs, A, Q) X 4 k n (wd (l, D, ad, cs, A, sA) σ2) 1312 (LJ ad b j) []) : GY (l, room_1, D, cs, A, Q) X 4 k n (wd (l, D, ad, cs, A, sA) σ) 587 (LJ ad b j) [] := by
  obtain ⟨C, hSx, hX, hbl, hbA, hLn⟩ := K
  refine y_aload_n (x := ad 0) C dL_law_587 rfl ?_
  refine y_sc C hX hbl hbA 1 (by decide) hj hLn rfl rfl dL_law_588 dL_law_589 dL_law_590 dL_law_591 dL_law_592 ?_
  refine y_sc C hX hbl hbA 2 (by decide) hj hLn rfl rfl dL_law_593 dL_law_594 dL_law_595 dL_law_596 dL_law_597 ?_
  refine y_callK C hSx ob0 (c_X7_classOf (d := 0) hs) dL_law_598 km_RL_70 kn_RX7 kc_yX7_classOf ki_yX7_classOf kx_yX7_classOf hkR hnR (by decide) (by decide) ⟨by decide, by decide, rfl⟩ rfl (Nat.le_of_ble_eq_true rfl) (fun r7 σ7 h7 => ?_)
  obtain ⟨e7, hs1, f7⟩ := h7
  subst e7
  have hr1 := hr.fs f7
  show GY _ _ _ _ _ _ 601 _ [.int _]
  refine y_aload_n (x := ad 64) C dL_law_601 rfl ?_
  refine y_sc C hX hbl hbA 1 (by decide) hj hLn rfl rfl dL_law_602 dL_law_603 dL_law_604 dL_law_605 dL_law_606 ?_
  refine y_sc C hX hbl hbA 2 (by decide) hj hLn rfl rfl dL_law_607 dL_law_608 dL_law_609 dL_law_610 dL_law_611 ?_
  refine y_callK C hSx ob64 (c_X8_classOf (d := 0) hr1 ((br_all ho.1.1).1)) dL_law_612 km_RL_73 kn_RX8 kc_yX8_classOf ki_yX8_classOf kx_yX8_classOf hkR hnR (by decide) (by decide) ⟨by decide, by decide, rfl⟩ rfl (Nat.le_of_ble_eq_true rfl) (fun r8 σ8 h8 => ?_)
  obtain ⟨e8, hr2, f8⟩ := h8
  subst e8
  have hs2 := hs1.rs f8
  show GY _ _ _ _ _ _ 615 _ [.int _, .int _]
  refine y_iceq C 1312 dL_law_615 rfl (fun _ => ?_) (fun h => absurd rfl h)
  exact kk _ _ hs2 hr2 ho
set_option maxHeartbeats 4000000 in
theorem lc_classAt (K : LC l D ad cs A sA Q X b Ln xs) (hj : j + 6 ≤ Ln) (hkR : k ≤ room_1.cells) (hnR : n ≤ room_1.slots) (hs : SyIs σ s) (hr : RfIs σ s) (ho : MsOk s) (kk : ∀ (σ2 : St) (s2 : Ms), SyIs σ2 s2 → RfIs σ2 s2 → MsOk s2 → GY (l, room_1, D, cs, A, Q) X 4 k n (wd (l, D, ad, cs, A, sA) σ2) 1312 (LJ ad b j) []) : GY (l, room_1, D, cs, A, Q) X 4 k n (wd (l, D, ad, cs, A, sA) σ) 620 (LJ ad b j) [] := by
  obtain ⟨C, hSx, hX, hbl, hbA, hLn⟩ := K
  refine y_aload_n (x := ad 0) C dL_law_620 rfl ?_
  refine y_sc C hX hbl hbA 1 (by decide) hj hLn rfl rfl dL_law_621 dL_law_622 dL_law_623 dL_law_624 dL_law_625 ?_
  refine y_callK C hSx ob0 (c_X7_classAt (d := 0) hs) dL_law_626 km_RL_74 kn_RX7 kc_yX7_classAt ki_yX7_classAt kx_yX7_classAt hkR hnR (by decide) (by decide) ⟨by decide, by decide, rfl⟩ rfl (Nat.le_of_ble_eq_true rfl) (fun r7 σ7 h7 => ?_)
  obtain ⟨e7, hs1, f7⟩ := h7
  subst e7
  have hr1 := hr.fs f7
  show GY _ _ _ _ _ _ 629 _ [.int _]
  refine y_aload_n (x := ad 64) C dL_law_629 rfl ?_
  refine y_sc C hX hbl hbA 1 (by decide) hj hLn rfl rfl dL_law_630 dL_law_631 dL_law_632 dL_law_633 dL_law_634 ?_
  refine y_callK C hSx ob64 (c_X8_classAt (d := 0) hr1 ((br_all ho.1.1).1)) dL_law_635 km_RL_77 kn_RX8 kc_yX8_classAt ki_yX8_classAt kx_yX8_classAt hkR hnR (by decide) (by decide) ⟨by decide, by decide, rfl⟩ rfl (Nat.le_of_ble_eq_true rfl) (fun r8 σ8 h8 => ?_)
  obtain ⟨e8, hr2, f8⟩ := h8
  subst e8
  have hs2 := hs1.rs f8
  show GY _ _ _ _ _ _ 638 _ [.int _, .int _]
  refine y_iceq C 1312 dL_law_638 rfl (fun _ => ?_) (fun h => absurd rfl h)
  exact kk _ _ hs2 hr2 ho
set_option maxHeartbeats 4000000 in
theorem lc_motion (K : LC l D ad cs A sA Q X b Ln xs) (hj : j + 6 ≤ Ln) (hkR : k ≤ room_1.cells) (hnR : n ≤ room_1.slots) (hs : SyIs σ s) (hr : RfIs σ s) (ho : MsOk s) (kk : ∀ (σ2 : St) (s2 : Ms), SyIs σ2 s2 → RfIs σ2 s2 → MsOk s2 → GY (l, room_1, D, cs, A, Q) X 4 k n (wd (l, D, ad, cs, A, sA) σ2) 1312 (LJ ad b j) []) : GY (l, room_1, D, cs, A, Q) X 4 k n (wd (l, D, ad, cs, A, sA) σ) 643 (LJ ad b j) [] := by
  obtain ⟨C, hSx, hX, hbl, hbA, hLn⟩ := K
  refine y_aload_n (x := ad 0) C dL_law_643 rfl ?_
  refine y_sc C hX hbl hbA 1 (by decide) hj hLn rfl rfl dL_law_644 dL_law_645 dL_law_646 dL_law_647 dL_law_648 ?_
  refine y_sc C hX hbl hbA 2 (by decide) hj hLn rfl rfl dL_law_649 dL_law_650 dL_law_651 dL_law_652 dL_law_653 ?_
  refine y_callK C hSx ob0 (c_X7_motion (d := 0) hs) dL_law_654 km_RL_78 kn_RX7 kc_yX7_motion ki_yX7_motion kx_yX7_motion hkR hnR (by decide) (by decide) ⟨by decide, by decide, rfl⟩ rfl (Nat.le_of_ble_eq_true rfl) (fun r7 σ7 h7 => ?_)
  obtain ⟨e7, hs1, f7⟩ := h7
  subst e7
  have hr1 := hr.fs f7
  show GY _ _ _ _ _ _ 657 _ [.int _]
  refine y_aload_n (x := ad 64) C dL_law_657 rfl ?_
  refine y_sc C hX hbl hbA 1 (by decide) hj hLn rfl rfl dL_law_658 dL_law_659 dL_law_660 dL_law_661 dL_law_662 ?_
  refine y_sc C hX hbl hbA 2 (by decide) hj hLn rfl rfl dL_law_663 dL_law_664 dL_law_665 dL_law_666 dL_law_667 ?_
  refine y_callK C hSx ob64 (c_X8_motion (d := 0) hr1) dL_law_668 km_RL_81 kn_RX8 kc_yX8_motion ki_yX8_motion kx_yX8_motion hkR hnR (by decide) (by decide) ⟨by decide, by decide, rfl⟩ rfl (Nat.le_of_ble_eq_true rfl) (fun r8 σ8 h8 => ?_)
  obtain ⟨e8, hr2, f8⟩ := h8
  subst e8
  have hs2 := hs1.rs f8
  show GY _ _ _ _ _ _ 671 _ [.int _, .int _]
  refine y_iceq C 1312 dL_law_671 rfl (fun _ => ?_) (fun h => absurd rfl h)
  exact kk _ _ hs2 hr2 ho
set_option maxHeartbeats 4000000 in
theorem lc_sign (K : LC l D ad cs A sA Q X b Ln xs) (hj : j + 6 ≤ Ln) (hkR : k ≤ room_1.cells) (hnR : n ≤ room_1.slots) (hs : SyIs σ s) (hr : RfIs σ s) (ho : MsOk s) (kk : ∀ (σ2 : St) (s2 : Ms), SyIs σ2 s2 → RfIs σ2 s2 → MsOk s2 → GY (l, room_1, D, cs, A, Q) X 4 k n (wd (l, D, ad, cs, A, sA) σ2) 1312 (LJ ad b j) []) : GY (l, room_1, D, cs, A, Q) X 4 k n (wd (l, D, ad, cs, A, sA) σ) 676 (LJ ad b j) [] := by
  obtain ⟨C, hSx, hX, hbl, hbA, hLn⟩ := K
  refine y_aload_n (x := ad 0) C dL_law_676 rfl ?_
  refine y_sc C hX hbl hbA 1 (by decide) hj hLn rfl rfl dL_law_677 dL_law_678 dL_law_679 dL_law_680 dL_law_681 ?_
  refine y_sc C hX hbl hbA 2 (by decide) hj hLn rfl rfl dL_law_682 dL_law_683 dL_law_684 dL_law_685 dL_law_686 ?_
  refine y_callK C hSx ob0 (c_X7_sign (d := 0) hs (br_all ho.1.1).2.1) dL_law_687 km_RL_82 kn_RX7 kc_yX7_sign ki_yX7_sign kx_yX7_sign hkR hnR (by decide) (by decide) ⟨by decide, by decide, rfl⟩ rfl (Nat.le_of_ble_eq_true rfl) (fun r7 σ7 h7 => ?_)
  obtain ⟨e7, hs1, f7⟩ := h7
  subst e7
  have hr1 := hr.fs f7
  show GY _ _ _ _ _ _ 690 _ [.int _]
  refine y_aload_n (x := ad 64) C dL_law_690 rfl ?_
  refine y_sc C hX hbl hbA 1 (by decide) hj hLn rfl rfl dL_law_691 dL_law_692 dL_law_693 dL_law_694 dL_law_695 ?_
  refine y_sc C hX hbl hbA 2 (by decide) hj hLn rfl rfl dL_law_696 dL_law_697 dL_law_698 dL_law_699 dL_law_700 ?_
  refine y_callK C hSx ob64 (c_X8_sign (d := 0) hr1 ((br_all ho.1.1).2)) dL_law_701 km_RL_85 kn_RX8 kc_yX8_sign ki_yX8_sign kx_yX8_sign hkR hnR (by decide) (by decide) ⟨by decide, by decide, rfl⟩ rfl (Nat.le_of_ble_eq_true rfl) (fun r8 σ8 h8 => ?_)
  obtain ⟨e8, hr2, f8⟩ := h8
  subst e8
  have hs2 := hs1.rs f8
  show GY _ _ _ _ _ _ 704 _ [.int _, .int _]
  refine y_iceq C 1312 dL_law_704 rfl (fun _ => ?_) (fun h => absurd rfl h)
  exact kk _ _ hs2 hr2 ho
set_option maxHeartbeats 4000000 in
theorem lc_has (K : LC l D ad cs A sA Q X b Ln xs) (hj : j + 6 ≤ Ln) (hkR : k ≤ room_1.cells) (hnR : n ≤ room_1.slots) (hs : SyIs σ s) (hr : RfIs σ s) (ho : MsOk s) (kk : ∀ (σ2 : St) (s2 : Ms), SyIs σ2 s2 → RfIs σ2 s2 → MsOk s2 → GY (l, room_1, D, cs, A, Q) X 4 k n (wd (l, D, ad, cs, A, sA) σ2) 1312 (LJ ad b j) []) : GY (l, room_1, D, cs, A, Q) X 4 k n (wd (l, D, ad, cs, A, sA) σ) 709 (LJ ad b j) [] := by
  obtain ⟨C, hSx, hX, hbl, hbA, hLn⟩ := K
  refine y_aload_n (x := ad 0) C dL_law_709 rfl ?_
  refine y_sc C hX hbl hbA 1 (by decide) hj hLn rfl rfl dL_law_710 dL_law_711 dL_law_712 dL_law_713 dL_law_714 ?_
  refine y_sc C hX hbl hbA 2 (by decide) hj hLn rfl rfl dL_law_715 dL_law_716 dL_law_717 dL_law_718 dL_law_719 ?_
  refine y_callK C hSx ob0 (c_X7_has (d := 0) hs (br_all ho.1.1).2.1) dL_law_720 km_RL_86 kn_RX7 kc_yX7_has ki_yX7_has kx_yX7_has hkR hnR (by decide) (by decide) ⟨by decide, by decide, rfl⟩ rfl (Nat.le_of_ble_eq_true rfl) (fun r7 σ7 h7 => ?_)
  obtain ⟨e7, hs1, f7⟩ := h7
  subst e7
  have hr1 := hr.fs f7
  show GY _ _ _ _ _ _ 723 _ [.int _]
  refine y_aload_n (x := ad 64) C dL_law_723 rfl ?_
  refine y_sc C hX hbl hbA 1 (by decide) hj hLn rfl rfl dL_law_724 dL_law_725 dL_law_726 dL_law_727 dL_law_728 ?_
  refine y_sc C hX hbl hbA 2 (by decide) hj hLn rfl rfl dL_law_729 dL_law_730 dL_law_731 dL_law_732 dL_law_733 ?_
  refine y_callK C hSx ob64 (c_X8_has (d := 0) hr1 ((br_all ho.1.1).2)) dL_law_734 km_RL_89 kn_RX8 kc_yX8_has ki_yX8_has kx_yX8_has hkR hnR (by decide) (by decide) ⟨by decide, by decide, rfl⟩ rfl (Nat.le_of_ble_eq_true rfl) (fun r8 σ8 h8 => ?_)
  obtain ⟨e8, hr2, f8⟩ := h8
  subst e8
  have hs2 := hs1.rs f8
  show GY _ _ _ _ _ _ 737 _ [.int _, .int _]
  refine y_iceq C 1312 dL_law_737 rfl (fun _ => ?_) (fun h => absurd rfl h)
  exact kk _ _ hs2 hr2 ho
set_option maxHeartbeats 4000000 in
theorem lc_active (K : LC l D ad cs A sA Q X b Ln xs) (hj : j + 6 ≤ Ln) (hkR : k ≤ room_1.cells) (hnR : n ≤ room_1.slots) (hs : SyIs σ s) (hr : RfIs σ s) (ho : MsOk s) (kk : ∀ (σ2 : St) (s2 : Ms), SyIs σ2 s2 → RfIs σ2 s2 → MsOk s2 → GY (l, room_1, D, cs, A, Q) X 4 k n (wd (l, D, ad, cs, A, sA) σ2) 1312 (LJ ad b j) []) : GY (l, room_1, D, cs, A, Q) X 4 k n (wd (l, D, ad, cs, A, sA) σ) 742 (LJ ad b j) [] := by
  obtain ⟨C, hSx, hX, hbl, hbA, hLn⟩ := K
  refine y_aload_n (x := ad 0) C dL_law_742 rfl ?_
  refine y_sc C hX hbl hbA 1 (by decide) hj hLn rfl rfl dL_law_743 dL_law_744 dL_law_745 dL_law_746 dL_law_747 ?_
  refine y_callK C hSx ob0 (c_X7_active (d := 0) hs (br_all ho.1.1).2.1) dL_law_748 km_RL_90 kn_RX7 kc_yX7_active ki_yX7_active kx_yX7_active hkR hnR (by decide) (by decide) ⟨by decide, by decide, rfl⟩ rfl (Nat.le_of_ble_eq_true rfl) (fun r7 σ7 h7 => ?_)
  obtain ⟨e7, hs1, f7⟩ := h7
  subst e7
  have hr1 := hr.fs f7
  show GY _ _ _ _ _ _ 751 _ [.int _]
  refine y_aload_n (x := ad 64) C dL_law_751 rfl ?_
  refine y_sc C hX hbl hbA 1 (by decide) hj hLn rfl rfl dL_law_752 dL_law_753 dL_law_754 dL_law_755 dL_law_756 ?_
  refine y_callK C hSx ob64 (c_X8_active (d := 0) hr1 ((br_all ho.1.1).2)) dL_law_757 km_RL_93 kn_RX8 kc_yX8_active ki_yX8_active kx_yX8_active hkR hnR (by decide) (by decide) ⟨by decide, by decide, rfl⟩ rfl (Nat.le_of_ble_eq_true rfl) (fun r8 σ8 h8 => ?_)
  obtain ⟨e8, hr2, f8⟩ := h8
  subst e8
  have hs2 := hs1.rs f8
  show GY _ _ _ _ _ _ 760 _ [.int _, .int _]
  refine y_iceq C 1312 dL_law_760 rfl (fun _ => ?_) (fun h => absurd rfl h)
  exact kk _ _ hs2 hr2 ho
set_option maxHeartbeats 4000000 in
theorem lc_see (K : LC l D ad cs A sA Q X b Ln xs) (hj : j + 6 ≤ Ln) (hkR : k ≤ room_1.cells) (hnR : n ≤ room_1.slots) (hs : SyIs σ s) (hr : RfIs σ s) (ho : MsOk s) (kk : ∀ (σ2 : St) (s2 : Ms), SyIs σ2 s2 → RfIs σ2 s2 → MsOk s2 → GY (l, room_1, D, cs, A, Q) X 4 k n (wd (l, D, ad, cs, A, sA) σ2) 1312 (LJ ad b j) []) : GY (l, room_1, D, cs, A, Q) X 4 k n (wd (l, D, ad, cs, A, sA) σ) 765 (LJ ad b j) [] := by
  obtain ⟨C, hSx, hX, hbl, hbA, hLn⟩ := K
  by_cases hz : xs (j + 2) = 0
  · refine y_aload_n (x := ad 0) C dL_law_765 rfl ?_
    refine y_sc C hX hbl hbA 1 (by decide) hj hLn rfl rfl dL_law_766 dL_law_767 dL_law_768 dL_law_769 dL_law_770 ?_
    refine y_sc C hX hbl hbA 2 (by decide) hj hLn rfl rfl dL_law_771 dL_law_772 dL_law_773 dL_law_774 dL_law_775 ?_
    refine y_ifeq C 783 dL_law_776 rfl (fun _ => ?_) (fun h => absurd hz h)
    refine y_ic (i := 0) C dL_law_783 (by decide) ?_
    refine y_callK C hSx ob0 (c_X7_see (d := 0) hs) dL_law_784 km_RL_94 kn_RX7 kc_yX7_see ki_yX7_see kx_yX7_see hkR hnR (by decide) (by decide) ⟨by decide, by decide, rfl⟩ rfl (Nat.le_of_ble_eq_true rfl) (fun r7 σ7 h7 => ?_)
    obtain ⟨e7, hs1, f7⟩ := h7
    subst e7
    have hr1 := hr.fs f7
    show GY _ _ _ _ _ _ 787 _ [.int _]
    refine y_aload_n (x := ad 64) C dL_law_787 rfl ?_
    refine y_sc C hX hbl hbA 1 (by decide) hj hLn rfl rfl dL_law_788 dL_law_789 dL_law_790 dL_law_791 dL_law_792 ?_
    refine y_sc C hX hbl hbA 2 (by decide) hj hLn rfl rfl dL_law_793 dL_law_794 dL_law_795 dL_law_796 dL_law_797 ?_
    refine y_ifeq C 805 dL_law_798 rfl (fun _ => ?_) (fun h => absurd hz h)
    refine y_ic (i := 0) C dL_law_805 (by decide) ?_
    refine y_callK C hSx ob64 (c_X8_see (d := 0) hr1) dL_law_806 km_RL_98 kn_RX8 kc_yX8_see ki_yX8_see kx_yX8_see hkR hnR (by decide) (by decide) ⟨by decide, by decide, rfl⟩ rfl (Nat.le_of_ble_eq_true rfl) (fun r8 σ8 h8 => ?_)
    obtain ⟨e8, hr2, f8⟩ := h8
    subst e8
    have hs2 := hs1.rs f8
    show GY _ _ _ _ _ _ 809 _ [.int _, .int _]
    refine y_iceq C 1312 dL_law_809 rfl (fun _ => ?_) (fun h => absurd rfl h)
    exact kk _ _ hs2 hr2 (ok_tSee ho)
  · refine y_aload_n (x := ad 0) C dL_law_765 rfl ?_
    refine y_sc C hX hbl hbA 1 (by decide) hj hLn rfl rfl dL_law_766 dL_law_767 dL_law_768 dL_law_769 dL_law_770 ?_
    refine y_sc C hX hbl hbA 2 (by decide) hj hLn rfl rfl dL_law_771 dL_law_772 dL_law_773 dL_law_774 dL_law_775 ?_
    refine y_ifeq C 783 dL_law_776 rfl (fun h => absurd h hz) (fun _ => ?_)
    refine y_ic (i := 1) C dL_law_779 (by decide) ?_
    refine y_goto C 784 dL_law_780 rfl ?_
    refine y_callK C hSx ob0 (c_X7_see (d := 0) hs) dL_law_784 km_RL_94 kn_RX7 kc_yX7_see ki_yX7_see kx_yX7_see hkR hnR (by decide) (by decide) ⟨by decide, by decide, rfl⟩ rfl (Nat.le_of_ble_eq_true rfl) (fun r7 σ7 h7 => ?_)
    obtain ⟨e7, hs1, f7⟩ := h7
    subst e7
    have hr1 := hr.fs f7
    show GY _ _ _ _ _ _ 787 _ [.int _]
    refine y_aload_n (x := ad 64) C dL_law_787 rfl ?_
    refine y_sc C hX hbl hbA 1 (by decide) hj hLn rfl rfl dL_law_788 dL_law_789 dL_law_790 dL_law_791 dL_law_792 ?_
    refine y_sc C hX hbl hbA 2 (by decide) hj hLn rfl rfl dL_law_793 dL_law_794 dL_law_795 dL_law_796 dL_law_797 ?_
    refine y_ifeq C 805 dL_law_798 rfl (fun h => absurd h hz) (fun _ => ?_)
    refine y_ic (i := 1) C dL_law_801 (by decide) ?_
    refine y_goto C 806 dL_law_802 rfl ?_
    refine y_callK C hSx ob64 (c_X8_see (d := 0) hr1) dL_law_806 km_RL_98 kn_RX8 kc_yX8_see ki_yX8_see kx_yX8_see hkR hnR (by decide) (by decide) ⟨by decide, by decide, rfl⟩ rfl (Nat.le_of_ble_eq_true rfl) (fun r8 σ8 h8 => ?_)
    obtain ⟨e8, hr2, f8⟩ := h8
    subst e8
    have hs2 := hs1.rs f8
    show GY _ _ _ _ _ _ 809 _ [.int _, .int _]
    refine y_iceq C 1312 dL_law_809 rfl (fun _ => ?_) (fun h => absurd rfl h)
    exact kk _ _ hs2 hr2 (ok_tSee ho)
set_option maxHeartbeats 4000000 in
theorem lc_fits (K : LC l D ad cs A sA Q X b Ln xs) (hj : j + 6 ≤ Ln) (hkR : k ≤ room_1.cells) (hnR : n ≤ room_1.slots) (hs : SyIs σ s) (hr : RfIs σ s) (ho : MsOk s) (kk : ∀ (σ2 : St) (s2 : Ms), SyIs σ2 s2 → RfIs σ2 s2 → MsOk s2 → GY (l, room_1, D, cs, A, Q) X 4 k n (wd (l, D, ad, cs, A, sA) σ2) 1312 (LJ ad b j) []) : GY (l, room_1, D, cs, A, Q) X 4 k n (wd (l, D, ad, cs, A, sA) σ) 814 (LJ ad b j) [] := by
  obtain ⟨C, hSx, hX, hbl, hbA, hLn⟩ := K
  refine y_aload_n (x := ad 0) C dL_law_814 rfl ?_
  refine y_sc C hX hbl hbA 1 (by decide) hj hLn rfl rfl dL_law_815 dL_law_816 dL_law_817 dL_law_818 dL_law_819 ?_
  refine y_sc C hX hbl hbA 2 (by decide) hj hLn rfl rfl dL_law_820 dL_law_821 dL_law_822 dL_law_823 dL_law_824 ?_
  refine y_callK C hSx ob0 (c_X7_fits (d := 0) hs ho.1) dL_law_825 km_RL_99 kn_RX7 kc_yX7_fits ki_yX7_fits kx_yX7_fits hkR hnR (by decide) (by decide) ⟨by decide, by decide, rfl⟩ rfl (Nat.le_of_ble_eq_true rfl) (fun r7 σ7 h7 => ?_)
  obtain ⟨e7, hs1, f7⟩ := h7
  subst e7
  have hr1 := hr.fs f7
  show GY _ _ _ _ _ _ 828 _ [.int _]
  refine y_aload_n (x := ad 64) C dL_law_828 rfl ?_
  refine y_sc C hX hbl hbA 1 (by decide) hj hLn rfl rfl dL_law_829 dL_law_830 dL_law_831 dL_law_832 dL_law_833 ?_
  refine y_sc C hX hbl hbA 2 (by decide) hj hLn rfl rfl dL_law_834 dL_law_835 dL_law_836 dL_law_837 dL_law_838 ?_
  refine y_callK C hSx ob64 (c_X8_fits (d := 0) hr1 (ho.1)) dL_law_839 km_RL_102 kn_RX8 kc_yX8_fits ki_yX8_fits kx_yX8_fits hkR hnR (by decide) (by decide) ⟨by decide, by decide, rfl⟩ rfl (Nat.le_of_ble_eq_true rfl) (fun r8 σ8 h8 => ?_)
  obtain ⟨e8, hr2, f8⟩ := h8
  subst e8
  have hs2 := hs1.rs f8
  show GY _ _ _ _ _ _ 842 _ [.int _, .int _]
  refine y_iceq C 1312 dL_law_842 rfl (fun _ => ?_) (fun h => absurd rfl h)
  exact kk _ _ hs2 hr2 ho
set_option maxHeartbeats 4000000 in
theorem lc_odds (K : LC l D ad cs A sA Q X b Ln xs) (hj : j + 6 ≤ Ln) (hkR : k ≤ room_1.cells) (hnR : n ≤ room_1.slots) (hs : SyIs σ s) (hr : RfIs σ s) (ho : MsOk s) (kk : ∀ (σ2 : St) (s2 : Ms), SyIs σ2 s2 → RfIs σ2 s2 → MsOk s2 → GY (l, room_1, D, cs, A, Q) X 4 k n (wd (l, D, ad, cs, A, sA) σ2) 1312 (LJ ad b j) []) : GY (l, room_1, D, cs, A, Q) X 4 k n (wd (l, D, ad, cs, A, sA) σ) 847 (LJ ad b j) [] := by
  obtain ⟨C, hSx, hX, hbl, hbA, hLn⟩ := K
  refine y_aload_n (x := ad 0) C dL_law_847 rfl ?_
  refine y_sc C hX hbl hbA 1 (by decide) hj hLn rfl rfl dL_law_848 dL_law_849 dL_law_850 dL_law_851 dL_law_852 ?_
  refine y_sc C hX hbl hbA 2 (by decide) hj hLn rfl rfl dL_law_853 dL_law_854 dL_law_855 dL_law_856 dL_law_857 ?_
  refine y_sc C hX hbl hbA 3 (by decide) hj hLn rfl rfl dL_law_858 dL_law_859 dL_law_860 dL_law_861 dL_law_862 ?_
  refine y_callK C hSx ob0 (c_X7_odds (d := 0) hs) dL_law_863 km_RL_103 kn_RX7 kc_yX7_odds ki_yX7_odds kx_yX7_odds hkR hnR (by decide) (by decide) ⟨by decide, by decide, rfl⟩ rfl (Nat.le_of_ble_eq_true rfl) (fun r7 σ7 h7 => ?_)
  obtain ⟨e7, hs1, f7⟩ := h7
  subst e7
  have hr1 := hr.fs f7
  show GY _ _ _ _ _ _ 866 _ [.long _]
  refine y_aload_n (x := ad 64) C dL_law_866 rfl ?_
  refine y_sc C hX hbl hbA 1 (by decide) hj hLn rfl rfl dL_law_867 dL_law_868 dL_law_869 dL_law_870 dL_law_871 ?_
  refine y_sc C hX hbl hbA 2 (by decide) hj hLn rfl rfl dL_law_872 dL_law_873 dL_law_874 dL_law_875 dL_law_876 ?_
  refine y_sc C hX hbl hbA 3 (by decide) hj hLn rfl rfl dL_law_877 dL_law_878 dL_law_879 dL_law_880 dL_law_881 ?_
  refine y_callK C hSx ob64 (c_X8_odds (d := 0) hr1) dL_law_882 km_RL_107 kn_RX8 kc_yX8_odds ki_yX8_odds kx_yX8_odds hkR hnR (by decide) (by decide) ⟨by decide, by decide, rfl⟩ rfl (Nat.le_of_ble_eq_true rfl) (fun r8 σ8 h8 => ?_)
  obtain ⟨e8, hr2, f8⟩ := h8
  subst e8
  have hs2 := hs1.rs f8
  show GY _ _ _ _ _ _ 885 _ [.long _, .long _]
  refine y_lcmp C dL_law_885 ?_
  refine y_ifeq C 1312 dL_law_886 rfl (fun _ => ?_) (fun h => absurd (lg_same _) h)
  exact kk _ _ hs2 hr2 ho
set_option maxHeartbeats 4000000 in
theorem lc_mean (K : LC l D ad cs A sA Q X b Ln xs) (hj : j + 6 ≤ Ln) (hkR : k ≤ room_1.cells) (hnR : n ≤ room_1.slots) (hs : SyIs σ s) (hr : RfIs σ s) (ho : MsOk s) (kk : ∀ (σ2 : St) (s2 : Ms), SyIs σ2 s2 → RfIs σ2 s2 → MsOk s2 → GY (l, room_1, D, cs, A, Q) X 4 k n (wd (l, D, ad, cs, A, sA) σ2) 1312 (LJ ad b j) []) : GY (l, room_1, D, cs, A, Q) X 4 k n (wd (l, D, ad, cs, A, sA) σ) 891 (LJ ad b j) [] := by
  obtain ⟨C, hSx, hX, hbl, hbA, hLn⟩ := K
  refine y_aload_n (x := ad 0) C dL_law_891 rfl ?_
  refine y_sc C hX hbl hbA 1 (by decide) hj hLn rfl rfl dL_law_892 dL_law_893 dL_law_894 dL_law_895 dL_law_896 ?_
  refine y_callK C hSx ob0 (c_X7_mean (d := 0) hs) dL_law_897 km_RL_108 kn_RX7 kc_yX7_mean ki_yX7_mean kx_yX7_mean hkR hnR (by decide) (by decide) ⟨by decide, by decide, rfl⟩ rfl (Nat.le_of_ble_eq_true rfl) (fun r7 σ7 h7 => ?_)
  obtain ⟨e7, hs1, f7⟩ := h7
  subst e7
  have hr1 := hr.fs f7
  show GY _ _ _ _ _ _ 900 _ [.long _]
  refine y_aload_n (x := ad 64) C dL_law_900 rfl ?_
  refine y_sc C hX hbl hbA 1 (by decide) hj hLn rfl rfl dL_law_901 dL_law_902 dL_law_903 dL_law_904 dL_law_905 ?_
  refine y_callK C hSx ob64 (c_X8_mean (d := 0) hr1 ((br_all ho.1.1).2.2.1)) dL_law_906 km_RL_112 kn_RX8 kc_yX8_mean ki_yX8_mean kx_yX8_mean hkR hnR (by decide) (by decide) ⟨by decide, by decide, rfl⟩ rfl (Nat.le_of_ble_eq_true rfl) (fun r8 σ8 h8 => ?_)
  obtain ⟨e8, hr2, f8⟩ := h8
  subst e8
  have hs2 := hs1.rs f8
  show GY _ _ _ _ _ _ 909 _ [.long _, .long _]
  refine y_lcmp C dL_law_909 ?_
  refine y_ifeq C 1312 dL_law_910 rfl (fun _ => ?_) (fun h => absurd (lg_same _) h)
  exact kk _ _ hs2 hr2 ho
set_option maxHeartbeats 4000000 in
theorem lc_event (K : LC l D ad cs A sA Q X b Ln xs) (hj : j + 6 ≤ Ln) (hkR : k ≤ room_1.cells) (hnR : n ≤ room_1.slots) (hs : SyIs σ s) (hr : RfIs σ s) (ho : MsOk s) (kk : ∀ (σ2 : St) (s2 : Ms), SyIs σ2 s2 → RfIs σ2 s2 → MsOk s2 → GY (l, room_1, D, cs, A, Q) X 4 k n (wd (l, D, ad, cs, A, sA) σ2) 1312 (LJ ad b j) []) : GY (l, room_1, D, cs, A, Q) X 4 k n (wd (l, D, ad, cs, A, sA) σ) 915 (LJ ad b j) [] := by
  obtain ⟨C, hSx, hX, hbl, hbA, hLn⟩ := K
  refine y_aload_n (x := ad 0) C dL_law_915 rfl ?_
  refine y_sc C hX hbl hbA 1 (by decide) hj hLn rfl rfl dL_law_916 dL_law_917 dL_law_918 dL_law_919 dL_law_920 ?_
  refine y_sc C hX hbl hbA 2 (by decide) hj hLn rfl rfl dL_law_921 dL_law_922 dL_law_923 dL_law_924 dL_law_925 ?_
  refine y_callK C hSx ob0 (c_X7_event (d := 0) hs) dL_law_926 km_RL_113 kn_RX7 kc_yX7_event ki_yX7_event kx_yX7_event hkR hnR (by decide) (by decide) ⟨by decide, by decide, rfl⟩ rfl (Nat.le_of_ble_eq_true rfl) (fun r7 σ7 h7 => ?_)
  obtain ⟨e7, hs1, f7⟩ := h7
  subst e7
  have hr1 := hr.fs f7
  show GY _ _ _ _ _ _ 929 _ [.int _]
  refine y_aload_n (x := ad 64) C dL_law_929 rfl ?_
  refine y_sc C hX hbl hbA 1 (by decide) hj hLn rfl rfl dL_law_930 dL_law_931 dL_law_932 dL_law_933 dL_law_934 ?_
  refine y_sc C hX hbl hbA 2 (by decide) hj hLn rfl rfl dL_law_935 dL_law_936 dL_law_937 dL_law_938 dL_law_939 ?_
  refine y_callK C hSx ob64 (c_X8_event (d := 0) hr1) dL_law_940 km_RL_116 kn_RX8 kc_yX8_event ki_yX8_event kx_yX8_event hkR hnR (by decide) (by decide) ⟨by decide, by decide, rfl⟩ rfl (Nat.le_of_ble_eq_true rfl) (fun r8 σ8 h8 => ?_)
  obtain ⟨e8, hr2, f8⟩ := h8
  subst e8
  have hs2 := hs1.rs f8
  show GY _ _ _ _ _ _ 943 _ [.int _, .int _]
  refine y_iceq C 1312 dL_law_943 rfl (fun _ => ?_) (fun h => absurd rfl h)
  exact kk _ _ hs2 hr2 (ok_tEvent ho)
set_option maxHeartbeats 4000000 in
theorem lc_after (K : LC l D ad cs A sA Q X b Ln xs) (hj : j + 6 ≤ Ln) (hkR : k ≤ room_1.cells) (hnR : n ≤ room_1.slots) (hs : SyIs σ s) (hr : RfIs σ s) (ho : MsOk s) (kk : ∀ (σ2 : St) (s2 : Ms), SyIs σ2 s2 → RfIs σ2 s2 → MsOk s2 → GY (l, room_1, D, cs, A, Q) X 4 k n (wd (l, D, ad, cs, A, sA) σ2) 1312 (LJ ad b j) []) : GY (l, room_1, D, cs, A, Q) X 4 k n (wd (l, D, ad, cs, A, sA) σ) 948 (LJ ad b j) [] := by
  obtain ⟨C, hSx, hX, hbl, hbA, hLn⟩ := K
  refine y_aload_n (x := ad 0) C dL_law_948 rfl ?_
  refine y_sc C hX hbl hbA 1 (by decide) hj hLn rfl rfl dL_law_949 dL_law_950 dL_law_951 dL_law_952 dL_law_953 ?_
  refine y_callK C hSx ob0 (c_X7_after (d := 0) hs ho.1) dL_law_954 km_RL_117 kn_RX7 kc_yX7_after ki_yX7_after kx_yX7_after hkR hnR (by decide) (by decide) ⟨by decide, by decide, rfl⟩ rfl (Nat.le_of_ble_eq_true rfl) (fun r7 σ7 h7 => ?_)
  obtain ⟨e7, hs1, f7⟩ := h7
  subst e7
  have hr1 := hr.fs f7
  show GY _ _ _ _ _ _ 957 _ [.int _]
  refine y_aload_n (x := ad 64) C dL_law_957 rfl ?_
  refine y_sc C hX hbl hbA 1 (by decide) hj hLn rfl rfl dL_law_958 dL_law_959 dL_law_960 dL_law_961 dL_law_962 ?_
  refine y_callK C hSx ob64 (c_X8_after (d := 0) hr1 ho.1 (br_all (ok_evP ho)).1) dL_law_963 km_RL_120 kn_RX8 kc_yX8_after ki_yX8_after kx_yX8_after hkR hnR (by decide) (by decide) ⟨by decide, by decide, rfl⟩ rfl (Nat.le_of_ble_eq_true rfl) (fun r8 σ8 h8 => ?_)
  obtain ⟨e8, hr2, f8⟩ := h8
  subst e8
  have hs2 := hs1.rs f8
  show GY _ _ _ _ _ _ 966 _ [.int _, .int _]
  refine y_iceq C 1312 dL_law_966 rfl (fun _ => ?_) (fun h => absurd rfl h)
  exact kk _ _ hs2 hr2 ho
set_option maxHeartbeats 4000000 in
theorem lc_book (K : LC l D ad cs A sA Q X b Ln xs) (hj : j + 6 ≤ Ln) (hkR : k ≤ room_1.cells) (hnR : n ≤ room_1.slots) (hs : SyIs σ s) (hr : RfIs σ s) (ho : MsOk s) (kk : ∀ (σ2 : St) (s2 : Ms), SyIs σ2 s2 → RfIs σ2 s2 → MsOk s2 → GY (l, room_1, D, cs, A, Q) X 4 k n (wd (l, D, ad, cs, A, sA) σ2) 1312 (LJ ad b j) []) : GY (l, room_1, D, cs, A, Q) X 4 k n (wd (l, D, ad, cs, A, sA) σ) 971 (LJ ad b j) [] := by
  obtain ⟨C, hSx, hX, hbl, hbA, hLn⟩ := K
  refine y_aload_n (x := ad 0) C dL_law_971 rfl ?_
  refine y_sc C hX hbl hbA 1 (by decide) hj hLn rfl rfl dL_law_972 dL_law_973 dL_law_974 dL_law_975 dL_law_976 ?_
  refine y_sc C hX hbl hbA 2 (by decide) hj hLn rfl rfl dL_law_977 dL_law_978 dL_law_979 dL_law_980 dL_law_981 ?_
  refine y_callK C hSx ob0 (c_X7_book (d := 0) hs) dL_law_982 km_RL_121 kn_RX7 kc_yX7_book ki_yX7_book kx_yX7_book hkR hnR (by decide) (by decide) ⟨by decide, by decide, rfl⟩ rfl (Nat.le_of_ble_eq_true rfl) (fun r7 σ7 h7 => ?_)
  obtain ⟨e7, hs1, f7⟩ := h7
  subst e7
  have hr1 := hr.fs f7
  show GY _ _ _ _ _ _ 985 _ [.int _]
  refine y_aload_n (x := ad 64) C dL_law_985 rfl ?_
  refine y_sc C hX hbl hbA 1 (by decide) hj hLn rfl rfl dL_law_986 dL_law_987 dL_law_988 dL_law_989 dL_law_990 ?_
  refine y_sc C hX hbl hbA 2 (by decide) hj hLn rfl rfl dL_law_991 dL_law_992 dL_law_993 dL_law_994 dL_law_995 ?_
  refine y_callK C hSx ob64 (c_X8_book (d := 0) hr1) dL_law_996 km_RL_124 kn_RX8 kc_yX8_book ki_yX8_book kx_yX8_book hkR hnR (by decide) (by decide) ⟨by decide, by decide, rfl⟩ rfl (Nat.le_of_ble_eq_true rfl) (fun r8 σ8 h8 => ?_)
  obtain ⟨e8, hr2, f8⟩ := h8
  subst e8
  have hs2 := hs1.rs f8
  show GY _ _ _ _ _ _ 999 _ [.int _, .int _]
  refine y_iceq C 1312 dL_law_999 rfl (fun _ => ?_) (fun h => absurd rfl h)
  exact kk _ _ hs2 hr2 (ok_tBook ho)
set_option maxHeartbeats 4000000 in
theorem lc_looked (K : LC l D ad cs A sA Q X b Ln xs) (hj : j + 6 ≤ Ln) (hkR : k ≤ room_1.cells) (hnR : n ≤ room_1.slots) (hs : SyIs σ s) (hr : RfIs σ s) (ho : MsOk s) (kk : ∀ (σ2 : St) (s2 : Ms), SyIs σ2 s2 → RfIs σ2 s2 → MsOk s2 → GY (l, room_1, D, cs, A, Q) X 4 k n (wd (l, D, ad, cs, A, sA) σ2) 1312 (LJ ad b j) []) : GY (l, room_1, D, cs, A, Q) X 4 k n (wd (l, D, ad, cs, A, sA) σ) 1004 (LJ ad b j) [] := by
  obtain ⟨C, hSx, hX, hbl, hbA, hLn⟩ := K
  refine y_aload_n (x := ad 0) C dL_law_1004 rfl ?_
  refine y_callK C hSx ob0 (c_X7_looked (d := 0) hs ho.1) dL_law_1005 km_RL_125 kn_RX7 kc_yX7_looked ki_yX7_looked kx_yX7_looked hkR hnR (by decide) (by decide) ⟨by decide, by decide, rfl⟩ rfl (Nat.le_of_ble_eq_true rfl) (fun r7 σ7 h7 => ?_)
  obtain ⟨e7, hs1, f7⟩ := h7
  subst e7
  have hr1 := hr.fs f7
  show GY _ _ _ _ _ _ 1008 _ [.int _]
  refine y_aload_n (x := ad 64) C dL_law_1008 rfl ?_
  refine y_callK C hSx ob64 (c_X8_looked (d := 0) hr1 (ho.1)) dL_law_1009 km_RL_128 kn_RX8 kc_yX8_looked ki_yX8_looked kx_yX8_looked hkR hnR (by decide) (by decide) ⟨by decide, by decide, rfl⟩ rfl (Nat.le_of_ble_eq_true rfl) (fun r8 σ8 h8 => ?_)
  obtain ⟨e8, hr2, f8⟩ := h8
  subst e8
  have hs2 := hs1.rs f8
  show GY _ _ _ _ _ _ 1012 _ [.int _, .int _]
  refine y_iceq C 1312 dL_law_1012 rfl (fun _ => ?_) (fun h => absurd rfl h)
  exact kk _ _ hs2 hr2 ho
set_option maxHeartbeats 4000000 in
theorem lc_judge (K : LC l D ad cs A sA Q X b Ln xs) (hj : j + 6 ≤ Ln) (hkR : k ≤ room_1.cells) (hnR : n ≤ room_1.slots) (hs : SyIs σ s) (hr : RfIs σ s) (ho : MsOk s) (kk : ∀ (σ2 : St) (s2 : Ms), SyIs σ2 s2 → RfIs σ2 s2 → MsOk s2 → GY (l, room_1, D, cs, A, Q) X 4 k n (wd (l, D, ad, cs, A, sA) σ2) 1312 (LJ ad b j) []) : GY (l, room_1, D, cs, A, Q) X 4 k n (wd (l, D, ad, cs, A, sA) σ) 1017 (LJ ad b j) [] := by
  obtain ⟨C, hSx, hX, hbl, hbA, hLn⟩ := K
  refine y_aload_n (x := ad 0) C dL_law_1017 rfl ?_
  refine y_sc C hX hbl hbA 1 (by decide) hj hLn rfl rfl dL_law_1018 dL_law_1019 dL_law_1020 dL_law_1021 dL_law_1022 ?_
  refine y_sc C hX hbl hbA 2 (by decide) hj hLn rfl rfl dL_law_1023 dL_law_1024 dL_law_1025 dL_law_1026 dL_law_1027 ?_
  refine y_callK C hSx ob0 (c_X7_judge (d := 0) hs) dL_law_1028 km_RL_129 kn_RX7 kc_yX7_judge ki_yX7_judge kx_yX7_judge hkR hnR (by decide) (by decide) ⟨by decide, by decide, rfl⟩ rfl (Nat.le_of_ble_eq_true rfl) (fun r7 σ7 h7 => ?_)
  obtain ⟨e7, hs1, f7⟩ := h7
  subst e7
  have hr1 := hr.fs f7
  show GY _ _ _ _ _ _ 1031 _ [.int _]
  refine y_aload_n (x := ad 64) C dL_law_1031 rfl ?_
  refine y_sc C hX hbl hbA 1 (by decide) hj hLn rfl rfl dL_law_1032 dL_law_1033 dL_law_1034 dL_law_1035 dL_law_1036 ?_
  refine y_sc C hX hbl hbA 2 (by decide) hj hLn rfl rfl dL_law_1037 dL_law_1038 dL_law_1039 dL_law_1040 dL_law_1041 ?_
  refine y_callK C hSx ob64 (c_X8_judge (d := 0) hr1) dL_law_1042 km_RL_132 kn_RX8 kc_yX8_judge ki_yX8_judge kx_yX8_judge hkR hnR (by decide) (by decide) ⟨by decide, by decide, rfl⟩ rfl (Nat.le_of_ble_eq_true rfl) (fun r8 σ8 h8 => ?_)
  obtain ⟨e8, hr2, f8⟩ := h8
  subst e8
  have hs2 := hs1.rs f8
  show GY _ _ _ _ _ _ 1045 _ [.int _, .int _]
  refine y_iceq C 1312 dL_law_1045 rfl (fun _ => ?_) (fun h => absurd rfl h)
  exact kk _ _ hs2 hr2 ho
set_option maxHeartbeats 4000000 in
theorem lc_image (K : LC l D ad cs A sA Q X b Ln xs) (hj : j + 6 ≤ Ln) (hkR : k ≤ room_1.cells) (hnR : n ≤ room_1.slots) (hs : SyIs σ s) (hr : RfIs σ s) (ho : MsOk s) (kk : ∀ (σ2 : St) (s2 : Ms), SyIs σ2 s2 → RfIs σ2 s2 → MsOk s2 → GY (l, room_1, D, cs, A, Q) X 4 k n (wd (l, D, ad, cs, A, sA) σ2) 1312 (LJ ad b j) []) : GY (l, room_1, D, cs, A, Q) X 4 k n (wd (l, D, ad, cs, A, sA) σ) 1050 (LJ ad b j) [] := by
  obtain ⟨C, hSx, hX, hbl, hbA, hLn⟩ := K
  refine y_aload_n (x := ad 0) C dL_law_1050 rfl ?_
  refine y_callK C hSx ob0 (c_X7_image (d := 0) hs) dL_law_1051 km_RL_133 kn_RX7 kc_yX7_image ki_yX7_image kx_yX7_image hkR hnR (by decide) (by decide) ⟨by decide, by decide, rfl⟩ rfl (Nat.le_of_ble_eq_true rfl) (fun r7 σ7 h7 => ?_)
  obtain ⟨e7, hs1, f7⟩ := h7
  subst e7
  have hr1 := hr.fs f7
  show GY _ _ _ _ _ _ 1054 _ [.int _]
  refine y_aload_n (x := ad 64) C dL_law_1054 rfl ?_
  refine y_callK C hSx ob64 (c_X8_image (d := 0) hr1) dL_law_1055 km_RL_136 kn_RX8 kc_yX8_image ki_yX8_image kx_yX8_image hkR hnR (by decide) (by decide) ⟨by decide, by decide, rfl⟩ rfl (Nat.le_of_ble_eq_true rfl) (fun r8 σ8 h8 => ?_)
  obtain ⟨e8, hr2, f8⟩ := h8
  subst e8
  have hs2 := hs1.rs f8
  show GY _ _ _ _ _ _ 1058 _ [.int _, .int _]
  refine y_iceq C 1312 dL_law_1058 rfl (fun _ => ?_) (fun h => absurd rfl h)
  exact kk _ _ hs2 hr2 (ok_tImage ho)
set_option maxHeartbeats 4000000 in
theorem lc_undo (K : LC l D ad cs A sA Q X b Ln xs) (hj : j + 6 ≤ Ln) (hkR : k ≤ room_1.cells) (hnR : n ≤ room_1.slots) (hs : SyIs σ s) (hr : RfIs σ s) (ho : MsOk s) (kk : ∀ (σ2 : St) (s2 : Ms), SyIs σ2 s2 → RfIs σ2 s2 → MsOk s2 → GY (l, room_1, D, cs, A, Q) X 4 k n (wd (l, D, ad, cs, A, sA) σ2) 1312 (LJ ad b j) []) : GY (l, room_1, D, cs, A, Q) X 4 k n (wd (l, D, ad, cs, A, sA) σ) 1063 (LJ ad b j) [] := by
  obtain ⟨C, hSx, hX, hbl, hbA, hLn⟩ := K
  refine y_aload_n (x := ad 0) C dL_law_1063 rfl ?_
  refine y_callK C hSx ob0 (c_X7_undo (d := 0) hs) dL_law_1064 km_RL_137 kn_RX7 kc_yX7_undo ki_yX7_undo kx_yX7_undo hkR hnR (by decide) (by decide) ⟨by decide, by decide, rfl⟩ rfl (Nat.le_of_ble_eq_true rfl) (fun r7 σ7 h7 => ?_)
  obtain ⟨e7, hs1, f7⟩ := h7
  subst e7
  have hr1 := hr.fs f7
  show GY _ _ _ _ _ _ 1067 _ [.int _]
  refine y_aload_n (x := ad 64) C dL_law_1067 rfl ?_
  refine y_callK C hSx ob64 (c_X8_undo (d := 0) hr1) dL_law_1068 km_RL_140 kn_RX8 kc_yX8_undo ki_yX8_undo kx_yX8_undo hkR hnR (by decide) (by decide) ⟨by decide, by decide, rfl⟩ rfl (Nat.le_of_ble_eq_true rfl) (fun r8 σ8 h8 => ?_)
  obtain ⟨e8, hr2, f8⟩ := h8
  subst e8
  have hs2 := hs1.rs f8
  show GY _ _ _ _ _ _ 1071 _ [.int _, .int _]
  refine y_iceq C 1312 dL_law_1071 rfl (fun _ => ?_) (fun h => absurd rfl h)
  exact kk _ _ hs2 hr2 (ok_tUndo ho)
set_option maxHeartbeats 4000000 in
theorem lc_count (K : LC l D ad cs A sA Q X b Ln xs) (hj : j + 6 ≤ Ln) (hkR : k ≤ room_1.cells) (hnR : n ≤ room_1.slots) (hs : SyIs σ s) (hr : RfIs σ s) (ho : MsOk s) (kk : ∀ (σ2 : St) (s2 : Ms), SyIs σ2 s2 → RfIs σ2 s2 → MsOk s2 → GY (l, room_1, D, cs, A, Q) X 4 k n (wd (l, D, ad, cs, A, sA) σ2) 1312 (LJ ad b j) []) : GY (l, room_1, D, cs, A, Q) X 4 k n (wd (l, D, ad, cs, A, sA) σ) 1076 (LJ ad b j) [] := by
  obtain ⟨C, hSx, hX, hbl, hbA, hLn⟩ := K
  refine y_aload_n (x := ad 0) C dL_law_1076 rfl ?_
  refine y_sc C hX hbl hbA 1 (by decide) hj hLn rfl rfl dL_law_1077 dL_law_1078 dL_law_1079 dL_law_1080 dL_law_1081 ?_
  refine y_callK C hSx ob0 (c_X7_count (d := 0) hs) dL_law_1082 km_RL_141 kn_RX7 kc_yX7_count ki_yX7_count kx_yX7_count hkR hnR (by decide) (by decide) ⟨by decide, by decide, rfl⟩ rfl (Nat.le_of_ble_eq_true rfl) (fun r7 σ7 h7 => ?_)
  obtain ⟨e7, hs1, f7⟩ := h7
  subst e7
  have hr1 := hr.fs f7
  show GY _ _ _ _ _ _ 1085 _ [.int _]
  refine y_aload_n (x := ad 64) C dL_law_1085 rfl ?_
  refine y_sc C hX hbl hbA 1 (by decide) hj hLn rfl rfl dL_law_1086 dL_law_1087 dL_law_1088 dL_law_1089 dL_law_1090 ?_
  refine y_callK C hSx ob64 (c_X8_count (d := 0) hr1) dL_law_1091 km_RL_144 kn_RX8 kc_yX8_count ki_yX8_count kx_yX8_count hkR hnR (by decide) (by decide) ⟨by decide, by decide, rfl⟩ rfl (Nat.le_of_ble_eq_true rfl) (fun r8 σ8 h8 => ?_)
  obtain ⟨e8, hr2, f8⟩ := h8
  subst e8
  have hs2 := hs1.rs f8
  show GY _ _ _ _ _ _ 1094 _ [.int _, .int _]
  refine y_iceq C 1312 dL_law_1094 rfl (fun _ => ?_) (fun h => absurd rfl h)
  exact kk _ _ hs2 hr2 ho
set_option maxHeartbeats 4000000 in
theorem lc_tape (K : LC l D ad cs A sA Q X b Ln xs) (hj : j + 6 ≤ Ln) (hkR : k ≤ room_1.cells) (hnR : n ≤ room_1.slots) (hs : SyIs σ s) (hr : RfIs σ s) (ho : MsOk s) (kk : ∀ (σ2 : St) (s2 : Ms), SyIs σ2 s2 → RfIs σ2 s2 → MsOk s2 → GY (l, room_1, D, cs, A, Q) X 4 k n (wd (l, D, ad, cs, A, sA) σ2) 1312 (LJ ad b j) []) : GY (l, room_1, D, cs, A, Q) X 4 k n (wd (l, D, ad, cs, A, sA) σ) 1099 (LJ ad b j) [] := by
  obtain ⟨C, hSx, hX, hbl, hbA, hLn⟩ := K
  refine y_aload_n (x := ad 0) C dL_law_1099 rfl ?_
  refine y_sc C hX hbl hbA 1 (by decide) hj hLn rfl rfl dL_law_1100 dL_law_1101 dL_law_1102 dL_law_1103 dL_law_1104 ?_
  refine y_sc C hX hbl hbA 2 (by decide) hj hLn rfl rfl dL_law_1105 dL_law_1106 dL_law_1107 dL_law_1108 dL_law_1109 ?_
  refine y_sc C hX hbl hbA 3 (by decide) hj hLn rfl rfl dL_law_1110 dL_law_1111 dL_law_1112 dL_law_1113 dL_law_1114 ?_
  refine y_callK C hSx ob0 (c_X7_tape (d := 0) hs) dL_law_1115 km_RL_145 kn_RX7 kc_yX7_tape ki_yX7_tape kx_yX7_tape hkR hnR (by decide) (by decide) ⟨by decide, by decide, rfl⟩ rfl (Nat.le_of_ble_eq_true rfl) (fun r7 σ7 h7 => ?_)
  obtain ⟨e7, hs1, f7⟩ := h7
  subst e7
  have hr1 := hr.fs f7
  show GY _ _ _ _ _ _ 1118 _ [.int _]
  refine y_aload_n (x := ad 64) C dL_law_1118 rfl ?_
  refine y_sc C hX hbl hbA 1 (by decide) hj hLn rfl rfl dL_law_1119 dL_law_1120 dL_law_1121 dL_law_1122 dL_law_1123 ?_
  refine y_sc C hX hbl hbA 2 (by decide) hj hLn rfl rfl dL_law_1124 dL_law_1125 dL_law_1126 dL_law_1127 dL_law_1128 ?_
  refine y_sc C hX hbl hbA 3 (by decide) hj hLn rfl rfl dL_law_1129 dL_law_1130 dL_law_1131 dL_law_1132 dL_law_1133 ?_
  refine y_callK C hSx ob64 (c_X8_tape (d := 0) hr1) dL_law_1134 km_RL_148 kn_RX8 kc_yX8_tape ki_yX8_tape kx_yX8_tape hkR hnR (by decide) (by decide) ⟨by decide, by decide, rfl⟩ rfl (Nat.le_of_ble_eq_true rfl) (fun r8 σ8 h8 => ?_)
  obtain ⟨e8, hr2, f8⟩ := h8
  subst e8
  have hs2 := hs1.rs f8
  show GY _ _ _ _ _ _ 1137 _ [.int _, .int _]
  refine y_iceq C 1312 dL_law_1137 rfl (fun _ => ?_) (fun h => absurd rfl h)
  exact kk _ _ hs2 hr2 (ok_tTape ho)
set_option maxHeartbeats 4000000 in
theorem lc_item (K : LC l D ad cs A sA Q X b Ln xs) (hj : j + 6 ≤ Ln) (hkR : k ≤ room_1.cells) (hnR : n ≤ room_1.slots) (hs : SyIs σ s) (hr : RfIs σ s) (ho : MsOk s) (kk : ∀ (σ2 : St) (s2 : Ms), SyIs σ2 s2 → RfIs σ2 s2 → MsOk s2 → GY (l, room_1, D, cs, A, Q) X 4 k n (wd (l, D, ad, cs, A, sA) σ2) 1312 (LJ ad b j) []) : GY (l, room_1, D, cs, A, Q) X 4 k n (wd (l, D, ad, cs, A, sA) σ) 1142 (LJ ad b j) [] := by
  obtain ⟨C, hSx, hX, hbl, hbA, hLn⟩ := K
  refine y_aload_n (x := ad 0) C dL_law_1142 rfl ?_
  refine y_sc C hX hbl hbA 1 (by decide) hj hLn rfl rfl dL_law_1143 dL_law_1144 dL_law_1145 dL_law_1146 dL_law_1147 ?_
  refine y_sc C hX hbl hbA 2 (by decide) hj hLn rfl rfl dL_law_1148 dL_law_1149 dL_law_1150 dL_law_1151 dL_law_1152 ?_
  refine y_sc C hX hbl hbA 3 (by decide) hj hLn rfl rfl dL_law_1153 dL_law_1154 dL_law_1155 dL_law_1156 dL_law_1157 ?_
  refine y_i2l C _ dL_law_1158 rfl ?_
  refine y_bp C 32 dL_law_1159 (by decide) ?_
  refine y_lshl C dL_law_1161 ?_
  refine y_sc C hX hbl hbA 4 (by decide) hj hLn rfl rfl dL_law_1162 dL_law_1163 dL_law_1164 dL_law_1165 dL_law_1166 ?_
  refine y_i2l C _ dL_law_1167 rfl ?_
  refine y_ldc2 C (4294967295 : Int64) dL_law_1168 kl_149 ?_
  refine y_land C dL_law_1171 ?_
  refine y_lor C dL_law_1172 ?_
  refine y_callK C hSx ob0 (c_X7_item (d := 0) hs) dL_law_1173 km_RL_151 kn_RX7 kc_yX7_item ki_yX7_item kx_yX7_item hkR hnR (by decide) (by decide) ⟨by decide, by decide, rfl⟩ rfl (Nat.le_of_ble_eq_true rfl) (fun r7 σ7 h7 => ?_)
  obtain ⟨e7, hs1, f7⟩ := h7
  subst e7
  have hr1 := hr.fs f7
  show GY _ _ _ _ _ _ 1176 _ [.int _]
  refine y_aload_n (x := ad 64) C dL_law_1176 rfl ?_
  refine y_sc C hX hbl hbA 1 (by decide) hj hLn rfl rfl dL_law_1177 dL_law_1178 dL_law_1179 dL_law_1180 dL_law_1181 ?_
  refine y_sc C hX hbl hbA 2 (by decide) hj hLn rfl rfl dL_law_1182 dL_law_1183 dL_law_1184 dL_law_1185 dL_law_1186 ?_
  refine y_sc C hX hbl hbA 3 (by decide) hj hLn rfl rfl dL_law_1187 dL_law_1188 dL_law_1189 dL_law_1190 dL_law_1191 ?_
  refine y_i2l C _ dL_law_1192 rfl ?_
  refine y_bp C 32 dL_law_1193 (by decide) ?_
  refine y_lshl C dL_law_1195 ?_
  refine y_sc C hX hbl hbA 4 (by decide) hj hLn rfl rfl dL_law_1196 dL_law_1197 dL_law_1198 dL_law_1199 dL_law_1200 ?_
  refine y_i2l C _ dL_law_1201 rfl ?_
  refine y_ldc2 C (4294967295 : Int64) dL_law_1202 kl_149 ?_
  refine y_land C dL_law_1205 ?_
  refine y_lor C dL_law_1206 ?_
  refine y_callK C hSx ob64 (c_X8_item (d := 0) hr1) dL_law_1207 km_RL_155 kn_RX8 kc_yX8_item ki_yX8_item kx_yX8_item hkR hnR (by decide) (by decide) ⟨by decide, by decide, rfl⟩ rfl (Nat.le_of_ble_eq_true rfl) (fun r8 σ8 h8 => ?_)
  obtain ⟨e8, hr2, f8⟩ := h8
  subst e8
  have hs2 := hs1.rs f8
  show GY _ _ _ _ _ _ 1210 _ [.int _, .int _]
  refine y_iceq C 1312 dL_law_1210 rfl (fun _ => ?_) (fun h => absurd rfl h)
  exact kk _ _ hs2 hr2 (ok_tItem ho)
set_option maxHeartbeats 4000000 in
theorem lc_peek (K : LC l D ad cs A sA Q X b Ln xs) (hj : j + 6 ≤ Ln) (hkR : k ≤ room_1.cells) (hnR : n ≤ room_1.slots) (hs : SyIs σ s) (hr : RfIs σ s) (ho : MsOk s) (kk : ∀ (σ2 : St) (s2 : Ms), SyIs σ2 s2 → RfIs σ2 s2 → MsOk s2 → GY (l, room_1, D, cs, A, Q) X 4 k n (wd (l, D, ad, cs, A, sA) σ2) 1312 (LJ ad b j) []) : GY (l, room_1, D, cs, A, Q) X 4 k n (wd (l, D, ad, cs, A, sA) σ) 1215 (LJ ad b j) [] := by
  obtain ⟨C, hSx, hX, hbl, hbA, hLn⟩ := K
  refine y_aload_n (x := ad 0) C dL_law_1215 rfl ?_
  refine y_sc C hX hbl hbA 1 (by decide) hj hLn rfl rfl dL_law_1216 dL_law_1217 dL_law_1218 dL_law_1219 dL_law_1220 ?_
  refine y_sc C hX hbl hbA 2 (by decide) hj hLn rfl rfl dL_law_1221 dL_law_1222 dL_law_1223 dL_law_1224 dL_law_1225 ?_
  refine y_callK C hSx ob0 (c_X7_peek (d := 0) hs) dL_law_1226 km_RL_156 kn_RX7 kc_yX7_peek ki_yX7_peek kx_yX7_peek hkR hnR (by decide) (by decide) ⟨by decide, by decide, rfl⟩ rfl (Nat.le_of_ble_eq_true rfl) (fun r7 σ7 h7 => ?_)
  obtain ⟨e7, hs1, f7⟩ := h7
  subst e7
  have hr1 := hr.fs f7
  show GY _ _ _ _ _ _ 1229 _ [.long _]
  refine y_aload_n (x := ad 64) C dL_law_1229 rfl ?_
  refine y_sc C hX hbl hbA 1 (by decide) hj hLn rfl rfl dL_law_1230 dL_law_1231 dL_law_1232 dL_law_1233 dL_law_1234 ?_
  refine y_sc C hX hbl hbA 2 (by decide) hj hLn rfl rfl dL_law_1235 dL_law_1236 dL_law_1237 dL_law_1238 dL_law_1239 ?_
  refine y_callK C hSx ob64 (c_X8_peek (d := 0) hr1) dL_law_1240 km_RL_160 kn_RX8 kc_yX8_peek ki_yX8_peek kx_yX8_peek hkR hnR (by decide) (by decide) ⟨by decide, by decide, rfl⟩ rfl (Nat.le_of_ble_eq_true rfl) (fun r8 σ8 h8 => ?_)
  obtain ⟨e8, hr2, f8⟩ := h8
  subst e8
  have hs2 := hs1.rs f8
  show GY _ _ _ _ _ _ 1243 _ [.long _, .long _]
  refine y_lcmp C dL_law_1243 ?_
  refine y_ifeq C 1312 dL_law_1244 rfl (fun _ => ?_) (fun h => absurd (lg_same _) h)
  exact kk _ _ hs2 hr2 ho
set_option maxHeartbeats 4000000 in
theorem lc_shift (K : LC l D ad cs A sA Q X b Ln xs) (hj : j + 6 ≤ Ln) (hkR : k ≤ room_1.cells) (hnR : n ≤ room_1.slots) (hs : SyIs σ s) (hr : RfIs σ s) (ho : MsOk s) (kk : ∀ (σ2 : St) (s2 : Ms), SyIs σ2 s2 → RfIs σ2 s2 → MsOk s2 → GY (l, room_1, D, cs, A, Q) X 4 k n (wd (l, D, ad, cs, A, sA) σ2) 1312 (LJ ad b j) []) : GY (l, room_1, D, cs, A, Q) X 4 k n (wd (l, D, ad, cs, A, sA) σ) 1249 (LJ ad b j) [] := by
  obtain ⟨C, hSx, hX, hbl, hbA, hLn⟩ := K
  refine y_aload_n (x := ad 0) C dL_law_1249 rfl ?_
  refine y_sc C hX hbl hbA 1 (by decide) hj hLn rfl rfl dL_law_1250 dL_law_1251 dL_law_1252 dL_law_1253 dL_law_1254 ?_
  refine y_sc C hX hbl hbA 2 (by decide) hj hLn rfl rfl dL_law_1255 dL_law_1256 dL_law_1257 dL_law_1258 dL_law_1259 ?_
  refine y_sc C hX hbl hbA 3 (by decide) hj hLn rfl rfl dL_law_1260 dL_law_1261 dL_law_1262 dL_law_1263 dL_law_1264 ?_
  refine y_sc C hX hbl hbA 4 (by decide) hj hLn rfl rfl dL_law_1265 dL_law_1266 dL_law_1267 dL_law_1268 dL_law_1269 ?_
  refine y_sc C hX hbl hbA 5 (by decide) hj hLn rfl rfl dL_law_1270 dL_law_1271 dL_law_1272 dL_law_1273 dL_law_1274 ?_
  refine y_callK C hSx ob0 (c_X7_shift (d := 0) hs) dL_law_1275 km_RL_161 kn_RX7 kc_yX7_shift ki_yX7_shift kx_yX7_shift hkR hnR (by decide) (by decide) ⟨by decide, by decide, rfl⟩ rfl (Nat.le_of_ble_eq_true rfl) (fun r7 σ7 h7 => ?_)
  obtain ⟨e7, hs1, f7⟩ := h7
  subst e7
  have hr1 := hr.fs f7
  show GY _ _ _ _ _ _ 1278 _ [.int _]
  refine y_aload_n (x := ad 64) C dL_law_1278 rfl ?_
  refine y_sc C hX hbl hbA 1 (by decide) hj hLn rfl rfl dL_law_1279 dL_law_1280 dL_law_1281 dL_law_1282 dL_law_1283 ?_
  refine y_sc C hX hbl hbA 2 (by decide) hj hLn rfl rfl dL_law_1284 dL_law_1285 dL_law_1286 dL_law_1287 dL_law_1288 ?_
  refine y_sc C hX hbl hbA 3 (by decide) hj hLn rfl rfl dL_law_1289 dL_law_1290 dL_law_1291 dL_law_1292 dL_law_1293 ?_
  refine y_sc C hX hbl hbA 4 (by decide) hj hLn rfl rfl dL_law_1294 dL_law_1295 dL_law_1296 dL_law_1297 dL_law_1298 ?_
  refine y_sc C hX hbl hbA 5 (by decide) hj hLn rfl rfl dL_law_1299 dL_law_1300 dL_law_1301 dL_law_1302 dL_law_1303 ?_
  refine y_callK C hSx ob64 (c_X8_shift (d := 0) hr1) dL_law_1304 km_RL_165 kn_RX8 kc_yX8_shift ki_yX8_shift kx_yX8_shift hkR hnR (by decide) (by decide) ⟨by decide, by decide, rfl⟩ rfl (Nat.le_of_ble_eq_true rfl) (fun r8 σ8 h8 => ?_)
  obtain ⟨e8, hr2, f8⟩ := h8
  subst e8
  have hs2 := hs1.rs f8
  show GY _ _ _ _ _ _ 1307 _ [.int _, .int _]
  refine y_iceq C 1312 dL_law_1307 rfl (fun _ => ?_) (fun h => absurd rfl h)
  exact kk _ _ hs2 hr2 (ok_tShift ho)
end LCS
