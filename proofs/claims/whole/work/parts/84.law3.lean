/-! THE LAW'S ROUNDS -/
abbrev la_ls (i : Int32) : px_L := [some (.retAddr 0), some (.ref 0), some (.ref 58), some (.int i)]
theorem la_cmp (x : Int64) : lg_cmp x x = 0 := by
  unfold lg_cmp
  rw [if_neg (show ¬ x > x from Int64.lt_irrefl), if_pos rfl]
theorem jm_0 {K : tc_K} {I : Nat → Int32} {A : Nat → Nat → Int32} {L : Nat → Nat → Int64} {r : tc_r} : (HT K (JM I A L) r)[58]? = some (.inr (12, MF 58 I)) := hm_0 (X := HC K r.1) (E := r.2) (I := I) (A := A) (L := L)
section LAR
variable {G : px_G} {nm : String} {C S : Nat} {K : tc_K} {I : Nat → Int32} {A : Nat → Nat → Int32} {L : Nat → Nat → Int64} {r : tc_r} {Q : Option Value → px_H → Prop} {i : Int32}
theorem la_c_man (h1 : vp_in (i + 1) G.2.2.2.2.1) (h2 : vp_in (i + 2) G.2.2.2.2.1) (h3 : vp_in (i + 3) G.2.2.2.2.1) (h4 : vp_in (i + 4) G.2.2.2.2.1) (h5 : vp_in (i + 5) G.2.2.2.2.1) (hJ : JI K I A L r) (kk : ∀ (K2 : tc_K) (I2 : Nat → Int32) (A2 : Nat → Nat → Int32) (L2 : Nat → Nat → Int64) (r2 : tc_r), JI K2 I2 A2 L2 r2 → px_W G 30 C S (m_La nm) 1386 (la_ls i) [] (HT K2 (JM I2 A2 L2) r2) Q) : px_W G 30 (1 + C) (2 + S) (m_La nm) 196 (la_ls i) [] (HT K (JM I A L) r) Q := by
  refine wp_aload_n d_La_law_196 rfl rfl rfl ?_
  refine wp_aload_n d_La_law_197 rfl rfl rfl ?_
  refine wp_iload_n d_La_law_198 rfl rfl ?_
  refine wp_iconst (v := 1) d_La_law_199 rfl ?_
  refine wp_iadd d_La_law_200 ?_
  refine wp_sld d_La_law_201 h1 ?_
  refine wp_aload_n d_La_law_202 rfl rfl rfl ?_
  refine wp_iload_n d_La_law_203 rfl rfl ?_
  refine wp_iconst (v := 2) d_La_law_204 rfl ?_
  refine wp_iadd d_La_law_205 ?_
  refine wp_sld d_La_law_206 h2 ?_
  refine wp_callV (r := (R_0, T_0, 11)) (M' := m_TC_man) (as := [_, _]) (D' := 24) (C1 := 1) (C2 := C) (S1 := 2) (S2 := S) d_La_law_207 rfl w_329 w_330 w_331 tt_0 k_TC_man (Nat.le_of_ble_eq_true rfl) rfl (Nat.le_of_ble_eq_true rfl) (by decide) rfl rfl ?_
  refine jp_man (Nat.le_refl 24) hJ (fun v K2 r2 hq => ?_)
  refine wp_aload_n d_La_law_210 rfl rfl rfl ?_
  refine wp_aload_n d_La_law_211 rfl rfl rfl ?_
  refine wp_iload_n d_La_law_212 rfl rfl ?_
  refine wp_iconst (v := 1) d_La_law_213 rfl ?_
  refine wp_iadd d_La_law_214 ?_
  refine wp_sld d_La_law_215 h1 ?_
  refine wp_aload_n d_La_law_216 rfl rfl rfl ?_
  refine wp_iload_n d_La_law_217 rfl rfl ?_
  refine wp_iconst (v := 2) d_La_law_218 rfl ?_
  refine wp_iadd d_La_law_219 ?_
  refine wp_sld d_La_law_220 h2 ?_
  refine wp_callV (r := (R_12, T_12, 70)) (M' := m_Mo_man) (as := [_, _]) (D' := 20) (C1 := 0) (C2 := C) (S1 := 0) (S2 := S) d_La_law_221 rfl w_1205 w_1206 w_1207 jm_0 k_Mo_man (Nat.le_of_ble_eq_true rfl) rfl (Nat.le_of_ble_eq_true rfl) (by decide) (Nat.zero_add _).symm (Nat.zero_add _).symm ?_
  refine hq _ (fun I' A' L' hJ' => ?_)
  refine wp_icmp_eq (t := 1386) d_La_law_224 (by decide) (fun c_224 => ?_) (fun c_224 => absurd rfl c_224)
  exact kk _ _ _ _ _ hJ'
theorem la_c_of (h1 : vp_in (i + 1) G.2.2.2.2.1) (h2 : vp_in (i + 2) G.2.2.2.2.1) (h3 : vp_in (i + 3) G.2.2.2.2.1) (h4 : vp_in (i + 4) G.2.2.2.2.1) (h5 : vp_in (i + 5) G.2.2.2.2.1) (hJ : JI K I A L r) (kk : ∀ (K2 : tc_K) (I2 : Nat → Int32) (A2 : Nat → Nat → Int32) (L2 : Nat → Nat → Int64) (r2 : tc_r), JI K2 I2 A2 L2 r2 → px_W G 30 C S (m_La nm) 1386 (la_ls i) [] (HT K2 (JM I2 A2 L2) r2) Q) : px_W G 30 C S (m_La nm) 229 (la_ls i) [] (HT K (JM I A L) r) Q := by
  refine wp_aload_n d_La_law_229 rfl rfl rfl ?_
  refine wp_aload_n d_La_law_230 rfl rfl rfl ?_
  refine wp_iload_n d_La_law_231 rfl rfl ?_
  refine wp_iconst (v := 1) d_La_law_232 rfl ?_
  refine wp_iadd d_La_law_233 ?_
  refine wp_sld d_La_law_234 h1 ?_
  refine wp_aload_n d_La_law_235 rfl rfl rfl ?_
  refine wp_iload_n d_La_law_236 rfl rfl ?_
  refine wp_iconst (v := 2) d_La_law_237 rfl ?_
  refine wp_iadd d_La_law_238 ?_
  refine wp_sld d_La_law_239 h2 ?_
  refine wp_callV (r := (R_0, T_0, 11)) (M' := m_TC_of) (as := [_, _]) (D' := 24) (C1 := 0) (C2 := C) (S1 := 0) (S2 := S) d_La_law_240 rfl w_403 w_404 w_405 tt_0 k_TC_of (Nat.le_of_ble_eq_true rfl) rfl (Nat.le_of_ble_eq_true rfl) (by decide) (Nat.zero_add _).symm (Nat.zero_add _).symm ?_
  refine jp_of (Nat.le_refl 24) hJ (fun v K2 r2 hq => ?_)
  refine wp_aload_n d_La_law_243 rfl rfl rfl ?_
  refine wp_aload_n d_La_law_244 rfl rfl rfl ?_
  refine wp_iload_n d_La_law_245 rfl rfl ?_
  refine wp_iconst (v := 1) d_La_law_246 rfl ?_
  refine wp_iadd d_La_law_247 ?_
  refine wp_sld d_La_law_248 h1 ?_
  refine wp_aload_n d_La_law_249 rfl rfl rfl ?_
  refine wp_iload_n d_La_law_250 rfl rfl ?_
  refine wp_iconst (v := 2) d_La_law_251 rfl ?_
  refine wp_iadd d_La_law_252 ?_
  refine wp_sld d_La_law_253 h2 ?_
  refine wp_callV (r := (R_12, T_12, 70)) (M' := m_Mo_of) (as := [_, _]) (D' := 20) (C1 := 0) (C2 := C) (S1 := 0) (S2 := S) d_La_law_254 rfl w_1301 w_1302 w_1303 jm_0 k_Mo_of (Nat.le_of_ble_eq_true rfl) rfl (Nat.le_of_ble_eq_true rfl) (by decide) (Nat.zero_add _).symm (Nat.zero_add _).symm ?_
  refine hq _ (fun I' A' L' hJ' => ?_)
  refine wp_icmp_eq (t := 1386) d_La_law_257 (by decide) (fun c_257 => ?_) (fun c_257 => absurd rfl c_257)
  exact kk _ _ _ _ _ hJ'
theorem la_c_held (h1 : vp_in (i + 1) G.2.2.2.2.1) (h2 : vp_in (i + 2) G.2.2.2.2.1) (h3 : vp_in (i + 3) G.2.2.2.2.1) (h4 : vp_in (i + 4) G.2.2.2.2.1) (h5 : vp_in (i + 5) G.2.2.2.2.1) (hJ : JI K I A L r) (kk : ∀ (K2 : tc_K) (I2 : Nat → Int32) (A2 : Nat → Nat → Int32) (L2 : Nat → Nat → Int64) (r2 : tc_r), JI K2 I2 A2 L2 r2 → px_W G 30 C S (m_La nm) 1386 (la_ls i) [] (HT K2 (JM I2 A2 L2) r2) Q) : px_W G 30 C S (m_La nm) 262 (la_ls i) [] (HT K (JM I A L) r) Q := by
  refine wp_aload_n d_La_law_262 rfl rfl rfl ?_
  refine wp_aload_n d_La_law_263 rfl rfl rfl ?_
  refine wp_iload_n d_La_law_264 rfl rfl ?_
  refine wp_iconst (v := 1) d_La_law_265 rfl ?_
  refine wp_iadd d_La_law_266 ?_
  refine wp_sld d_La_law_267 h1 ?_
  refine wp_aload_n d_La_law_268 rfl rfl rfl ?_
  refine wp_iload_n d_La_law_269 rfl rfl ?_
  refine wp_iconst (v := 2) d_La_law_270 rfl ?_
  refine wp_iadd d_La_law_271 ?_
  refine wp_sld d_La_law_272 h2 ?_
  refine wp_callV (r := (R_0, T_0, 11)) (M' := m_TC_held) (as := [_, _]) (D' := 24) (C1 := 0) (C2 := C) (S1 := 0) (S2 := S) d_La_law_273 rfl w_489 w_490 w_491 tt_0 k_TC_held (Nat.le_of_ble_eq_true rfl) rfl (Nat.le_of_ble_eq_true rfl) (by decide) (Nat.zero_add _).symm (Nat.zero_add _).symm ?_
  refine jp_held (Nat.le_refl 24) hJ (fun v K2 r2 hq => ?_)
  refine wp_aload_n d_La_law_276 rfl rfl rfl ?_
  refine wp_aload_n d_La_law_277 rfl rfl rfl ?_
  refine wp_iload_n d_La_law_278 rfl rfl ?_
  refine wp_iconst (v := 1) d_La_law_279 rfl ?_
  refine wp_iadd d_La_law_280 ?_
  refine wp_sld d_La_law_281 h1 ?_
  refine wp_aload_n d_La_law_282 rfl rfl rfl ?_
  refine wp_iload_n d_La_law_283 rfl rfl ?_
  refine wp_iconst (v := 2) d_La_law_284 rfl ?_
  refine wp_iadd d_La_law_285 ?_
  refine wp_sld d_La_law_286 h2 ?_
  refine wp_callV (r := (R_12, T_12, 70)) (M' := m_Mo_held) (as := [_, _]) (D' := 20) (C1 := 0) (C2 := C) (S1 := 0) (S2 := S) d_La_law_287 rfl w_1213 w_1214 w_1215 jm_0 k_Mo_held (Nat.le_of_ble_eq_true rfl) rfl (Nat.le_of_ble_eq_true rfl) (by decide) (Nat.zero_add _).symm (Nat.zero_add _).symm ?_
  refine hq _ (fun I' A' L' hJ' => ?_)
  refine wp_icmp_eq (t := 1386) d_La_law_290 (by decide) (fun c_290 => ?_) (fun c_290 => absurd rfl c_290)
  exact kk _ _ _ _ _ hJ'
theorem la_c_row (h1 : vp_in (i + 1) G.2.2.2.2.1) (h2 : vp_in (i + 2) G.2.2.2.2.1) (h3 : vp_in (i + 3) G.2.2.2.2.1) (h4 : vp_in (i + 4) G.2.2.2.2.1) (h5 : vp_in (i + 5) G.2.2.2.2.1) (hJ : JI K I A L r) (kk : ∀ (K2 : tc_K) (I2 : Nat → Int32) (A2 : Nat → Nat → Int32) (L2 : Nat → Nat → Int64) (r2 : tc_r), JI K2 I2 A2 L2 r2 → px_W G 30 C S (m_La nm) 1386 (la_ls i) [] (HT K2 (JM I2 A2 L2) r2) Q) : px_W G 30 C S (m_La nm) 295 (la_ls i) [] (HT K (JM I A L) r) Q := by
  refine wp_aload_n d_La_law_295 rfl rfl rfl ?_
  refine wp_aload_n d_La_law_296 rfl rfl rfl ?_
  refine wp_iload_n d_La_law_297 rfl rfl ?_
  refine wp_iconst (v := 1) d_La_law_298 rfl ?_
  refine wp_iadd d_La_law_299 ?_
  refine wp_sld d_La_law_300 h1 ?_
  refine wp_aload_n d_La_law_301 rfl rfl rfl ?_
  refine wp_iload_n d_La_law_302 rfl rfl ?_
  refine wp_iconst (v := 2) d_La_law_303 rfl ?_
  refine wp_iadd d_La_law_304 ?_
  refine wp_sld d_La_law_305 h2 ?_
  refine wp_aload_n d_La_law_306 rfl rfl rfl ?_
  refine wp_iload_n d_La_law_307 rfl rfl ?_
  refine wp_iconst (v := 3) d_La_law_308 rfl ?_
  refine wp_iadd d_La_law_309 ?_
  refine wp_sld d_La_law_310 h3 ?_
  refine wp_callV (r := (R_0, T_0, 11)) (M' := m_TC_row) (as := [_, _, _]) (D' := 24) (C1 := 0) (C2 := C) (S1 := 0) (S2 := S) d_La_law_311 rfl w_493 w_494 w_495 tt_0 k_TC_row (Nat.le_of_ble_eq_true rfl) rfl (Nat.le_of_ble_eq_true rfl) (by decide) (Nat.zero_add _).symm (Nat.zero_add _).symm ?_
  refine jp_row (Nat.le_refl 24) hJ (fun v K2 r2 hq => ?_)
  refine wp_aload_n d_La_law_314 rfl rfl rfl ?_
  refine wp_aload_n d_La_law_315 rfl rfl rfl ?_
  refine wp_iload_n d_La_law_316 rfl rfl ?_
  refine wp_iconst (v := 1) d_La_law_317 rfl ?_
  refine wp_iadd d_La_law_318 ?_
  refine wp_sld d_La_law_319 h1 ?_
  refine wp_aload_n d_La_law_320 rfl rfl rfl ?_
  refine wp_iload_n d_La_law_321 rfl rfl ?_
  refine wp_iconst (v := 2) d_La_law_322 rfl ?_
  refine wp_iadd d_La_law_323 ?_
  refine wp_sld d_La_law_324 h2 ?_
  refine wp_aload_n d_La_law_325 rfl rfl rfl ?_
  refine wp_iload_n d_La_law_326 rfl rfl ?_
  refine wp_iconst (v := 3) d_La_law_327 rfl ?_
  refine wp_iadd d_La_law_328 ?_
  refine wp_sld d_La_law_329 h3 ?_
  refine wp_callV (r := (R_12, T_12, 70)) (M' := m_Mo_row) (as := [_, _, _]) (D' := 20) (C1 := 0) (C2 := C) (S1 := 0) (S2 := S) d_La_law_330 rfl w_1221 w_1222 w_1223 jm_0 k_Mo_row (Nat.le_of_ble_eq_true rfl) rfl (Nat.le_of_ble_eq_true rfl) (by decide) (Nat.zero_add _).symm (Nat.zero_add _).symm ?_
  refine hq _ (fun I' A' L' hJ' => ?_)
  refine wp_icmp_eq (t := 1386) d_La_law_333 (by decide) (fun c_333 => ?_) (fun c_333 => absurd rfl c_333)
  exact kk _ _ _ _ _ hJ'
theorem la_c_place (h1 : vp_in (i + 1) G.2.2.2.2.1) (h2 : vp_in (i + 2) G.2.2.2.2.1) (h3 : vp_in (i + 3) G.2.2.2.2.1) (h4 : vp_in (i + 4) G.2.2.2.2.1) (h5 : vp_in (i + 5) G.2.2.2.2.1) (hJ : JI K I A L r) (kk : ∀ (K2 : tc_K) (I2 : Nat → Int32) (A2 : Nat → Nat → Int32) (L2 : Nat → Nat → Int64) (r2 : tc_r), JI K2 I2 A2 L2 r2 → px_W G 30 C S (m_La nm) 1386 (la_ls i) [] (HT K2 (JM I2 A2 L2) r2) Q) : px_W G 30 C S (m_La nm) 338 (la_ls i) [] (HT K (JM I A L) r) Q := by
  refine wp_aload_n d_La_law_338 rfl rfl rfl ?_
  refine wp_aload_n d_La_law_339 rfl rfl rfl ?_
  refine wp_iload_n d_La_law_340 rfl rfl ?_
  refine wp_iconst (v := 1) d_La_law_341 rfl ?_
  refine wp_iadd d_La_law_342 ?_
  refine wp_sld d_La_law_343 h1 ?_
  refine wp_aload_n d_La_law_344 rfl rfl rfl ?_
  refine wp_iload_n d_La_law_345 rfl rfl ?_
  refine wp_iconst (v := 2) d_La_law_346 rfl ?_
  refine wp_iadd d_La_law_347 ?_
  refine wp_sld d_La_law_348 h2 ?_
  refine wp_callV (r := (R_0, T_0, 11)) (M' := m_TC_place) (as := [_, _]) (D' := 24) (C1 := 0) (C2 := C) (S1 := 0) (S2 := S) d_La_law_349 rfl w_497 w_498 w_499 tt_0 k_TC_place (Nat.le_of_ble_eq_true rfl) rfl (Nat.le_of_ble_eq_true rfl) (by decide) (Nat.zero_add _).symm (Nat.zero_add _).symm ?_
  refine jp_place (Nat.le_refl 24) hJ (fun v K2 r2 hq => ?_)
  refine wp_aload_n d_La_law_352 rfl rfl rfl ?_
  refine wp_aload_n d_La_law_353 rfl rfl rfl ?_
  refine wp_iload_n d_La_law_354 rfl rfl ?_
  refine wp_iconst (v := 1) d_La_law_355 rfl ?_
  refine wp_iadd d_La_law_356 ?_
  refine wp_sld d_La_law_357 h1 ?_
  refine wp_aload_n d_La_law_358 rfl rfl rfl ?_
  refine wp_iload_n d_La_law_359 rfl rfl ?_
  refine wp_iconst (v := 2) d_La_law_360 rfl ?_
  refine wp_iadd d_La_law_361 ?_
  refine wp_sld d_La_law_362 h2 ?_
  refine wp_callV (r := (R_12, T_12, 70)) (M' := m_Mo_place) (as := [_, _]) (D' := 20) (C1 := 0) (C2 := C) (S1 := 0) (S2 := S) d_La_law_363 rfl w_1225 w_1226 w_1227 jm_0 k_Mo_place (Nat.le_of_ble_eq_true rfl) rfl (Nat.le_of_ble_eq_true rfl) (by decide) (Nat.zero_add _).symm (Nat.zero_add _).symm ?_
  refine hq _ (fun I' A' L' hJ' => ?_)
  refine wp_icmp_eq (t := 1386) d_La_law_366 (by decide) (fun c_366 => ?_) (fun c_366 => absurd rfl c_366)
  exact kk _ _ _ _ _ hJ'
theorem la_c_feed (h1 : vp_in (i + 1) G.2.2.2.2.1) (h2 : vp_in (i + 2) G.2.2.2.2.1) (h3 : vp_in (i + 3) G.2.2.2.2.1) (h4 : vp_in (i + 4) G.2.2.2.2.1) (h5 : vp_in (i + 5) G.2.2.2.2.1) (hJ : JI K I A L r) (kk : ∀ (K2 : tc_K) (I2 : Nat → Int32) (A2 : Nat → Nat → Int32) (L2 : Nat → Nat → Int64) (r2 : tc_r), JI K2 I2 A2 L2 r2 → px_W G 30 C S (m_La nm) 1386 (la_ls i) [] (HT K2 (JM I2 A2 L2) r2) Q) : px_W G 30 C S (m_La nm) 371 (la_ls i) [] (HT K (JM I A L) r) Q := by
  refine wp_aload_n d_La_law_371 rfl rfl rfl ?_
  refine wp_aload_n d_La_law_372 rfl rfl rfl ?_
  refine wp_iload_n d_La_law_373 rfl rfl ?_
  refine wp_iconst (v := 1) d_La_law_374 rfl ?_
  refine wp_iadd d_La_law_375 ?_
  refine wp_sld d_La_law_376 h1 ?_
  refine wp_callV (r := (R_0, T_0, 11)) (M' := m_TC_feed) (as := [_]) (D' := 24) (C1 := 0) (C2 := C) (S1 := 0) (S2 := S) d_La_law_377 rfl w_506 w_507 w_508 tt_0 k_TC_feed (Nat.le_of_ble_eq_true rfl) rfl (Nat.le_of_ble_eq_true rfl) (by decide) (Nat.zero_add _).symm (Nat.zero_add _).symm ?_
  refine jp_feed (Nat.le_refl 24) hJ (fun v K2 r2 hq => ?_)
  refine wp_aload_n d_La_law_380 rfl rfl rfl ?_
  refine wp_aload_n d_La_law_381 rfl rfl rfl ?_
  refine wp_iload_n d_La_law_382 rfl rfl ?_
  refine wp_iconst (v := 1) d_La_law_383 rfl ?_
  refine wp_iadd d_La_law_384 ?_
  refine wp_sld d_La_law_385 h1 ?_
  refine wp_callV (r := (R_12, T_12, 70)) (M' := m_Mo_feed) (as := [_]) (D' := 20) (C1 := 0) (C2 := C) (S1 := 0) (S2 := S) d_La_law_386 rfl w_1233 w_1234 w_1235 jm_0 k_Mo_feed (Nat.le_of_ble_eq_true rfl) rfl (Nat.le_of_ble_eq_true rfl) (by decide) (Nat.zero_add _).symm (Nat.zero_add _).symm ?_
  refine hq _ (fun I' A' L' hJ' => ?_)
  refine wp_icmp_eq (t := 1386) d_La_law_389 (by decide) (fun c_389 => ?_) (fun c_389 => absurd rfl c_389)
  exact kk _ _ _ _ _ hJ'
theorem la_c_scaffold (h1 : vp_in (i + 1) G.2.2.2.2.1) (h2 : vp_in (i + 2) G.2.2.2.2.1) (h3 : vp_in (i + 3) G.2.2.2.2.1) (h4 : vp_in (i + 4) G.2.2.2.2.1) (h5 : vp_in (i + 5) G.2.2.2.2.1) (hJ : JI K I A L r) (kk : ∀ (K2 : tc_K) (I2 : Nat → Int32) (A2 : Nat → Nat → Int32) (L2 : Nat → Nat → Int64) (r2 : tc_r), JI K2 I2 A2 L2 r2 → px_W G 30 C S (m_La nm) 1386 (la_ls i) [] (HT K2 (JM I2 A2 L2) r2) Q) : px_W G 30 (5 + C) (2420 + S) (m_La nm) 394 (la_ls i) [] (HT K (JM I A L) r) Q := by
  refine wp_aload_n d_La_law_394 rfl rfl rfl ?_
  refine wp_callV (r := (R_0, T_0, 11)) (M' := m_TC_scaffold) (as := []) (D' := 24) (C1 := 5) (C2 := C) (S1 := 2420) (S2 := S) d_La_law_395 rfl w_510 w_511 w_512 tt_0 k_TC_scaffold (Nat.le_of_ble_eq_true rfl) rfl (Nat.le_of_ble_eq_true rfl) (by decide) rfl rfl ?_
  refine jp_scaffold (Nat.le_refl 24) hJ (fun v K2 r2 hq => ?_)
  refine wp_aload_n d_La_law_398 rfl rfl rfl ?_
  refine wp_callV (r := (R_12, T_12, 70)) (M' := m_Mo_scaffold) (as := []) (D' := 20) (C1 := 0) (C2 := C) (S1 := 0) (S2 := S) d_La_law_399 rfl w_1237 w_1238 w_1239 jm_0 k_Mo_scaffold (Nat.le_of_ble_eq_true rfl) rfl (Nat.le_of_ble_eq_true rfl) (by decide) (Nat.zero_add _).symm (Nat.zero_add _).symm ?_
  refine hq _ (fun I' A' L' hJ' => ?_)
  refine wp_icmp_eq (t := 1386) d_La_law_402 (by decide) (fun c_402 => ?_) (fun c_402 => absurd rfl c_402)
  exact kk _ _ _ _ _ hJ'
theorem la_c_told (h1 : vp_in (i + 1) G.2.2.2.2.1) (h2 : vp_in (i + 2) G.2.2.2.2.1) (h3 : vp_in (i + 3) G.2.2.2.2.1) (h4 : vp_in (i + 4) G.2.2.2.2.1) (h5 : vp_in (i + 5) G.2.2.2.2.1) (hJ : JI K I A L r) (kk : ∀ (K2 : tc_K) (I2 : Nat → Int32) (A2 : Nat → Nat → Int32) (L2 : Nat → Nat → Int64) (r2 : tc_r), JI K2 I2 A2 L2 r2 → px_W G 30 C S (m_La nm) 1386 (la_ls i) [] (HT K2 (JM I2 A2 L2) r2) Q) : px_W G 30 C S (m_La nm) 407 (la_ls i) [] (HT K (JM I A L) r) Q := by
  refine wp_aload_n d_La_law_407 rfl rfl rfl ?_
  refine wp_aload_n d_La_law_408 rfl rfl rfl ?_
  refine wp_iload_n d_La_law_409 rfl rfl ?_
  refine wp_iconst (v := 1) d_La_law_410 rfl ?_
  refine wp_iadd d_La_law_411 ?_
  refine wp_sld d_La_law_412 h1 ?_
  refine wp_callV (r := (R_0, T_0, 11)) (M' := m_TC_told) (as := [_]) (D' := 24) (C1 := 0) (C2 := C) (S1 := 0) (S2 := S) d_La_law_413 rfl w_661 w_662 w_663 tt_0 k_TC_told (Nat.le_of_ble_eq_true rfl) rfl (Nat.le_of_ble_eq_true rfl) (by decide) (Nat.zero_add _).symm (Nat.zero_add _).symm ?_
  refine jp_told (Nat.le_refl 24) hJ (fun v K2 r2 hq => ?_)
  refine wp_aload_n d_La_law_416 rfl rfl rfl ?_
  refine wp_aload_n d_La_law_417 rfl rfl rfl ?_
  refine wp_iload_n d_La_law_418 rfl rfl ?_
  refine wp_iconst (v := 1) d_La_law_419 rfl ?_
  refine wp_iadd d_La_law_420 ?_
  refine wp_sld d_La_law_421 h1 ?_
  refine wp_callV (r := (R_12, T_12, 70)) (M' := m_Mo_told) (as := [_]) (D' := 20) (C1 := 0) (C2 := C) (S1 := 0) (S2 := S) d_La_law_422 rfl w_1337 w_1338 w_1339 jm_0 k_Mo_told (Nat.le_of_ble_eq_true rfl) rfl (Nat.le_of_ble_eq_true rfl) (by decide) (Nat.zero_add _).symm (Nat.zero_add _).symm ?_
  refine hq _ (fun I' A' L' hJ' => ?_)
  refine wp_icmp_eq (t := 1386) d_La_law_425 (by decide) (fun c_425 => ?_) (fun c_425 => absurd rfl c_425)
  exact kk _ _ _ _ _ hJ'
theorem la_c_up (h1 : vp_in (i + 1) G.2.2.2.2.1) (h2 : vp_in (i + 2) G.2.2.2.2.1) (h3 : vp_in (i + 3) G.2.2.2.2.1) (h4 : vp_in (i + 4) G.2.2.2.2.1) (h5 : vp_in (i + 5) G.2.2.2.2.1) (hJ : JI K I A L r) (kk : ∀ (K2 : tc_K) (I2 : Nat → Int32) (A2 : Nat → Nat → Int32) (L2 : Nat → Nat → Int64) (r2 : tc_r), JI K2 I2 A2 L2 r2 → px_W G 30 C S (m_La nm) 1386 (la_ls i) [] (HT K2 (JM I2 A2 L2) r2) Q) : px_W G 30 C S (m_La nm) 430 (la_ls i) [] (HT K (JM I A L) r) Q := by
  refine wp_aload_n d_La_law_430 rfl rfl rfl ?_
  refine wp_aload_n d_La_law_431 rfl rfl rfl ?_
  refine wp_iload_n d_La_law_432 rfl rfl ?_
  refine wp_iconst (v := 1) d_La_law_433 rfl ?_
  refine wp_iadd d_La_law_434 ?_
  refine wp_sld d_La_law_435 h1 ?_
  refine wp_callV (r := (R_0, T_0, 11)) (M' := m_TC_up) (as := [_]) (D' := 24) (C1 := 0) (C2 := C) (S1 := 0) (S2 := S) d_La_law_436 rfl w_665 w_666 w_667 tt_0 k_TC_up (Nat.le_of_ble_eq_true rfl) rfl (Nat.le_of_ble_eq_true rfl) (by decide) (Nat.zero_add _).symm (Nat.zero_add _).symm ?_
  refine jp_up (Nat.le_refl 24) hJ (fun v K2 r2 hq => ?_)
  refine wp_aload_n d_La_law_439 rfl rfl rfl ?_
  refine wp_aload_n d_La_law_440 rfl rfl rfl ?_
  refine wp_iload_n d_La_law_441 rfl rfl ?_
  refine wp_iconst (v := 1) d_La_law_442 rfl ?_
  refine wp_iadd d_La_law_443 ?_
  refine wp_sld d_La_law_444 h1 ?_
  refine wp_callV (r := (R_12, T_12, 70)) (M' := m_Mo_up) (as := [_]) (D' := 20) (C1 := 0) (C2 := C) (S1 := 0) (S2 := S) d_La_law_445 rfl w_1357 w_1358 w_1359 jm_0 k_Mo_up (Nat.le_of_ble_eq_true rfl) rfl (Nat.le_of_ble_eq_true rfl) (by decide) (Nat.zero_add _).symm (Nat.zero_add _).symm ?_
  refine hq _ (fun I' A' L' hJ' => ?_)
  refine wp_icmp_eq (t := 1386) d_La_law_448 (by decide) (fun c_448 => ?_) (fun c_448 => absurd rfl c_448)
  exact kk _ _ _ _ _ hJ'
theorem la_c_pause (h1 : vp_in (i + 1) G.2.2.2.2.1) (h2 : vp_in (i + 2) G.2.2.2.2.1) (h3 : vp_in (i + 3) G.2.2.2.2.1) (h4 : vp_in (i + 4) G.2.2.2.2.1) (h5 : vp_in (i + 5) G.2.2.2.2.1) (hJ : JI K I A L r) (kk : ∀ (K2 : tc_K) (I2 : Nat → Int32) (A2 : Nat → Nat → Int32) (L2 : Nat → Nat → Int64) (r2 : tc_r), JI K2 I2 A2 L2 r2 → px_W G 30 C S (m_La nm) 1386 (la_ls i) [] (HT K2 (JM I2 A2 L2) r2) Q) : px_W G 30 C S (m_La nm) 453 (la_ls i) [] (HT K (JM I A L) r) Q := by
  refine wp_aload_n d_La_law_453 rfl rfl rfl ?_
  refine wp_aload_n d_La_law_454 rfl rfl rfl ?_
  refine wp_iload_n d_La_law_455 rfl rfl ?_
  refine wp_iconst (v := 1) d_La_law_456 rfl ?_
  refine wp_iadd d_La_law_457 ?_
  refine wp_sld d_La_law_458 h1 ?_
  refine wp_callV (r := (R_0, T_0, 11)) (M' := m_TC_pause) (as := [_]) (D' := 24) (C1 := 0) (C2 := C) (S1 := 0) (S2 := S) d_La_law_459 rfl w_696 w_697 w_698 tt_0 k_TC_pause (Nat.le_of_ble_eq_true rfl) rfl (Nat.le_of_ble_eq_true rfl) (by decide) (Nat.zero_add _).symm (Nat.zero_add _).symm ?_
  refine jp_pause (Nat.le_refl 24) hJ (fun v K2 r2 hq => ?_)
  refine wp_aload_n d_La_law_462 rfl rfl rfl ?_
  refine wp_aload_n d_La_law_463 rfl rfl rfl ?_
  refine wp_iload_n d_La_law_464 rfl rfl ?_
  refine wp_iconst (v := 1) d_La_law_465 rfl ?_
  refine wp_iadd d_La_law_466 ?_
  refine wp_sld d_La_law_467 h1 ?_
  refine wp_callV (r := (R_12, T_12, 70)) (M' := m_Mo_pause) (as := [_]) (D' := 20) (C1 := 0) (C2 := C) (S1 := 0) (S2 := S) d_La_law_468 rfl w_1374 w_1375 w_1376 jm_0 k_Mo_pause (Nat.le_of_ble_eq_true rfl) rfl (Nat.le_of_ble_eq_true rfl) (by decide) (Nat.zero_add _).symm (Nat.zero_add _).symm ?_
  refine hq _ (fun I' A' L' hJ' => ?_)
  refine wp_icmp_eq (t := 1386) d_La_law_471 (by decide) (fun c_471 => ?_) (fun c_471 => absurd rfl c_471)
  exact kk _ _ _ _ _ hJ'
theorem la_c_on (h1 : vp_in (i + 1) G.2.2.2.2.1) (h2 : vp_in (i + 2) G.2.2.2.2.1) (h3 : vp_in (i + 3) G.2.2.2.2.1) (h4 : vp_in (i + 4) G.2.2.2.2.1) (h5 : vp_in (i + 5) G.2.2.2.2.1) (hJ : JI K I A L r) (kk : ∀ (K2 : tc_K) (I2 : Nat → Int32) (A2 : Nat → Nat → Int32) (L2 : Nat → Nat → Int64) (r2 : tc_r), JI K2 I2 A2 L2 r2 → px_W G 30 C S (m_La nm) 1386 (la_ls i) [] (HT K2 (JM I2 A2 L2) r2) Q) : px_W G 30 C S (m_La nm) 476 (la_ls i) [] (HT K (JM I A L) r) Q := by
  refine wp_aload_n d_La_law_476 rfl rfl rfl ?_
  refine wp_aload_n d_La_law_477 rfl rfl rfl ?_
  refine wp_iload_n d_La_law_478 rfl rfl ?_
  refine wp_iconst (v := 1) d_La_law_479 rfl ?_
  refine wp_iadd d_La_law_480 ?_
  refine wp_sld d_La_law_481 h1 ?_
  refine wp_aload_n d_La_law_482 rfl rfl rfl ?_
  refine wp_iload_n d_La_law_483 rfl rfl ?_
  refine wp_iconst (v := 2) d_La_law_484 rfl ?_
  refine wp_iadd d_La_law_485 ?_
  refine wp_sld d_La_law_486 h2 ?_
  refine wp_aload_n d_La_law_487 rfl rfl rfl ?_
  refine wp_iload_n d_La_law_488 rfl rfl ?_
  refine wp_iconst (v := 3) d_La_law_489 rfl ?_
  refine wp_iadd d_La_law_490 ?_
  refine wp_sld d_La_law_491 h3 ?_
  refine wp_callV (r := (R_0, T_0, 11)) (M' := m_TC_on) (as := [_, _, _]) (D' := 24) (C1 := 0) (C2 := C) (S1 := 0) (S2 := S) d_La_law_492 rfl w_700 w_701 w_702 tt_0 k_TC_on (Nat.le_of_ble_eq_true rfl) rfl (Nat.le_of_ble_eq_true rfl) (by decide) (Nat.zero_add _).symm (Nat.zero_add _).symm ?_
  refine jp_on (Nat.le_refl 24) hJ (fun v K2 r2 hq => ?_)
  refine wp_aload_n d_La_law_495 rfl rfl rfl ?_
  refine wp_aload_n d_La_law_496 rfl rfl rfl ?_
  refine wp_iload_n d_La_law_497 rfl rfl ?_
  refine wp_iconst (v := 1) d_La_law_498 rfl ?_
  refine wp_iadd d_La_law_499 ?_
  refine wp_sld d_La_law_500 h1 ?_
  refine wp_aload_n d_La_law_501 rfl rfl rfl ?_
  refine wp_iload_n d_La_law_502 rfl rfl ?_
  refine wp_iconst (v := 2) d_La_law_503 rfl ?_
  refine wp_iadd d_La_law_504 ?_
  refine wp_sld d_La_law_505 h2 ?_
  refine wp_aload_n d_La_law_506 rfl rfl rfl ?_
  refine wp_iload_n d_La_law_507 rfl rfl ?_
  refine wp_iconst (v := 3) d_La_law_508 rfl ?_
  refine wp_iadd d_La_law_509 ?_
  refine wp_sld d_La_law_510 h3 ?_
  refine wp_callV (r := (R_12, T_12, 70)) (M' := m_Mo_on) (as := [_, _, _]) (D' := 20) (C1 := 0) (C2 := C) (S1 := 0) (S2 := S) d_La_law_511 rfl w_1378 w_1379 w_1380 jm_0 k_Mo_on (Nat.le_of_ble_eq_true rfl) rfl (Nat.le_of_ble_eq_true rfl) (by decide) (Nat.zero_add _).symm (Nat.zero_add _).symm ?_
  refine hq _ (fun I' A' L' hJ' => ?_)
  refine wp_icmp_eq (t := 1386) d_La_law_514 (by decide) (fun c_514 => ?_) (fun c_514 => absurd rfl c_514)
  exact kk _ _ _ _ _ hJ'
theorem la_c_safe (h1 : vp_in (i + 1) G.2.2.2.2.1) (h2 : vp_in (i + 2) G.2.2.2.2.1) (h3 : vp_in (i + 3) G.2.2.2.2.1) (h4 : vp_in (i + 4) G.2.2.2.2.1) (h5 : vp_in (i + 5) G.2.2.2.2.1) (hJ : JI K I A L r) (kk : ∀ (K2 : tc_K) (I2 : Nat → Int32) (A2 : Nat → Nat → Int32) (L2 : Nat → Nat → Int64) (r2 : tc_r), JI K2 I2 A2 L2 r2 → px_W G 30 C S (m_La nm) 1386 (la_ls i) [] (HT K2 (JM I2 A2 L2) r2) Q) : px_W G 30 C S (m_La nm) 519 (la_ls i) [] (HT K (JM I A L) r) Q := by
  refine wp_aload_n d_La_law_519 rfl rfl rfl ?_
  refine wp_aload_n d_La_law_520 rfl rfl rfl ?_
  refine wp_iload_n d_La_law_521 rfl rfl ?_
  refine wp_iconst (v := 1) d_La_law_522 rfl ?_
  refine wp_iadd d_La_law_523 ?_
  refine wp_sld d_La_law_524 h1 ?_
  refine wp_callV (r := (R_0, T_0, 11)) (M' := m_TC_safe) (as := [_]) (D' := 24) (C1 := 0) (C2 := C) (S1 := 0) (S2 := S) d_La_law_525 rfl w_729 w_730 w_731 tt_0 k_TC_safe (Nat.le_of_ble_eq_true rfl) rfl (Nat.le_of_ble_eq_true rfl) (by decide) (Nat.zero_add _).symm (Nat.zero_add _).symm ?_
  refine jp_safe (Nat.le_refl 24) hJ (fun v K2 r2 hq => ?_)
  refine wp_aload_n d_La_law_528 rfl rfl rfl ?_
  refine wp_aload_n d_La_law_529 rfl rfl rfl ?_
  refine wp_iload_n d_La_law_530 rfl rfl ?_
  refine wp_iconst (v := 1) d_La_law_531 rfl ?_
  refine wp_iadd d_La_law_532 ?_
  refine wp_sld d_La_law_533 h1 ?_
  refine wp_callV (r := (R_12, T_12, 70)) (M' := m_Mo_safe) (as := [_]) (D' := 20) (C1 := 0) (C2 := C) (S1 := 0) (S2 := S) d_La_law_534 rfl w_1399 w_1400 w_1401 jm_0 k_Mo_safe (Nat.le_of_ble_eq_true rfl) rfl (Nat.le_of_ble_eq_true rfl) (by decide) (Nat.zero_add _).symm (Nat.zero_add _).symm ?_
  refine hq _ (fun I' A' L' hJ' => ?_)
  refine wp_icmp_eq (t := 1386) d_La_law_537 (by decide) (fun c_537 => ?_) (fun c_537 => absurd rfl c_537)
  exact kk _ _ _ _ _ hJ'
theorem la_c_best (h1 : vp_in (i + 1) G.2.2.2.2.1) (h2 : vp_in (i + 2) G.2.2.2.2.1) (h3 : vp_in (i + 3) G.2.2.2.2.1) (h4 : vp_in (i + 4) G.2.2.2.2.1) (h5 : vp_in (i + 5) G.2.2.2.2.1) (hJ : JI K I A L r) (kk : ∀ (K2 : tc_K) (I2 : Nat → Int32) (A2 : Nat → Nat → Int32) (L2 : Nat → Nat → Int64) (r2 : tc_r), JI K2 I2 A2 L2 r2 → px_W G 30 C S (m_La nm) 1386 (la_ls i) [] (HT K2 (JM I2 A2 L2) r2) Q) : px_W G 30 C S (m_La nm) 542 (la_ls i) [] (HT K (JM I A L) r) Q := by
  refine wp_aload_n d_La_law_542 rfl rfl rfl ?_
  refine wp_aload_n d_La_law_543 rfl rfl rfl ?_
  refine wp_iload_n d_La_law_544 rfl rfl ?_
  refine wp_iconst (v := 1) d_La_law_545 rfl ?_
  refine wp_iadd d_La_law_546 ?_
  refine wp_sld d_La_law_547 h1 ?_
  refine wp_aload_n d_La_law_548 rfl rfl rfl ?_
  refine wp_iload_n d_La_law_549 rfl rfl ?_
  refine wp_iconst (v := 2) d_La_law_550 rfl ?_
  refine wp_iadd d_La_law_551 ?_
  refine wp_sld d_La_law_552 h2 ?_
  refine wp_callV (r := (R_0, T_0, 11)) (M' := m_TC_best) (as := [_, _]) (D' := 24) (C1 := 0) (C2 := C) (S1 := 0) (S2 := S) d_La_law_553 rfl w_741 w_742 w_743 tt_0 k_TC_best (Nat.le_of_ble_eq_true rfl) rfl (Nat.le_of_ble_eq_true rfl) (by decide) (Nat.zero_add _).symm (Nat.zero_add _).symm ?_
  refine jp_best (Nat.le_refl 24) hJ (fun v K2 r2 hq => ?_)
  refine wp_aload_n d_La_law_556 rfl rfl rfl ?_
  refine wp_aload_n d_La_law_557 rfl rfl rfl ?_
  refine wp_iload_n d_La_law_558 rfl rfl ?_
  refine wp_iconst (v := 1) d_La_law_559 rfl ?_
  refine wp_iadd d_La_law_560 ?_
  refine wp_sld d_La_law_561 h1 ?_
  refine wp_aload_n d_La_law_562 rfl rfl rfl ?_
  refine wp_iload_n d_La_law_563 rfl rfl ?_
  refine wp_iconst (v := 2) d_La_law_564 rfl ?_
  refine wp_iadd d_La_law_565 ?_
  refine wp_sld d_La_law_566 h2 ?_
  refine wp_callV (r := (R_12, T_12, 70)) (M' := m_Mo_best) (as := [_, _]) (D' := 20) (C1 := 0) (C2 := C) (S1 := 0) (S2 := S) d_La_law_567 rfl w_1411 w_1412 w_1413 jm_0 k_Mo_best (Nat.le_of_ble_eq_true rfl) rfl (Nat.le_of_ble_eq_true rfl) (by decide) (Nat.zero_add _).symm (Nat.zero_add _).symm ?_
  refine hq _ (fun I' A' L' hJ' => ?_)
  refine wp_icmp_eq (t := 1386) d_La_law_570 (by decide) (fun c_570 => ?_) (fun c_570 => absurd rfl c_570)
  exact kk _ _ _ _ _ hJ'
theorem la_c_slowest (h1 : vp_in (i + 1) G.2.2.2.2.1) (h2 : vp_in (i + 2) G.2.2.2.2.1) (h3 : vp_in (i + 3) G.2.2.2.2.1) (h4 : vp_in (i + 4) G.2.2.2.2.1) (h5 : vp_in (i + 5) G.2.2.2.2.1) (hJ : JI K I A L r) (kk : ∀ (K2 : tc_K) (I2 : Nat → Int32) (A2 : Nat → Nat → Int32) (L2 : Nat → Nat → Int64) (r2 : tc_r), JI K2 I2 A2 L2 r2 → px_W G 30 C S (m_La nm) 1386 (la_ls i) [] (HT K2 (JM I2 A2 L2) r2) Q) : px_W G 30 C S (m_La nm) 575 (la_ls i) [] (HT K (JM I A L) r) Q := by
  refine wp_aload_n d_La_law_575 rfl rfl rfl ?_
  refine wp_callV (r := (R_0, T_0, 11)) (M' := m_TC_slowest) (as := []) (D' := 24) (C1 := 0) (C2 := C) (S1 := 0) (S2 := S) d_La_law_576 rfl w_745 w_746 w_747 tt_0 k_TC_slowest (Nat.le_of_ble_eq_true rfl) rfl (Nat.le_of_ble_eq_true rfl) (by decide) (Nat.zero_add _).symm (Nat.zero_add _).symm ?_
  refine jp_slowest (Nat.le_refl 24) hJ (fun v K2 r2 hq => ?_)
  refine wp_aload_n d_La_law_579 rfl rfl rfl ?_
  refine wp_callV (r := (R_12, T_12, 70)) (M' := m_Mo_slowest) (as := []) (D' := 20) (C1 := 0) (C2 := C) (S1 := 0) (S2 := S) d_La_law_580 rfl w_1415 w_1416 w_1417 jm_0 k_Mo_slowest (Nat.le_of_ble_eq_true rfl) rfl (Nat.le_of_ble_eq_true rfl) (by decide) (Nat.zero_add _).symm (Nat.zero_add _).symm ?_
  refine hq _ (fun I' A' L' hJ' => ?_)
  refine wp_icmp_eq (t := 1386) d_La_law_583 (by decide) (fun c_583 => ?_) (fun c_583 => absurd rfl c_583)
  exact kk _ _ _ _ _ hJ'
theorem la_c_order (h1 : vp_in (i + 1) G.2.2.2.2.1) (h2 : vp_in (i + 2) G.2.2.2.2.1) (h3 : vp_in (i + 3) G.2.2.2.2.1) (h4 : vp_in (i + 4) G.2.2.2.2.1) (h5 : vp_in (i + 5) G.2.2.2.2.1) (hJ : JI K I A L r) (kk : ∀ (K2 : tc_K) (I2 : Nat → Int32) (A2 : Nat → Nat → Int32) (L2 : Nat → Nat → Int64) (r2 : tc_r), JI K2 I2 A2 L2 r2 → px_W G 30 C S (m_La nm) 1386 (la_ls i) [] (HT K2 (JM I2 A2 L2) r2) Q) : px_W G 30 C S (m_La nm) 588 (la_ls i) [] (HT K (JM I A L) r) Q := by
  refine wp_aload_n d_La_law_588 rfl rfl rfl ?_
  refine wp_aload_n d_La_law_589 rfl rfl rfl ?_
  refine wp_iload_n d_La_law_590 rfl rfl ?_
  refine wp_iconst (v := 1) d_La_law_591 rfl ?_
  refine wp_iadd d_La_law_592 ?_
  refine wp_sld d_La_law_593 h1 ?_
  refine wp_aload_n d_La_law_594 rfl rfl rfl ?_
  refine wp_iload_n d_La_law_595 rfl rfl ?_
  refine wp_iconst (v := 2) d_La_law_596 rfl ?_
  refine wp_iadd d_La_law_597 ?_
  refine wp_sld d_La_law_598 h2 ?_
  refine wp_callV (r := (R_0, T_0, 11)) (M' := m_TC_order) (as := [_, _]) (D' := 24) (C1 := 0) (C2 := C) (S1 := 0) (S2 := S) d_La_law_599 rfl w_749 w_750 w_751 tt_0 k_TC_order (Nat.le_of_ble_eq_true rfl) rfl (Nat.le_of_ble_eq_true rfl) (by decide) (Nat.zero_add _).symm (Nat.zero_add _).symm ?_
  refine jp_order (Nat.le_refl 24) hJ (fun v K2 r2 hq => ?_)
  refine wp_aload_n d_La_law_602 rfl rfl rfl ?_
  refine wp_aload_n d_La_law_603 rfl rfl rfl ?_
  refine wp_iload_n d_La_law_604 rfl rfl ?_
  refine wp_iconst (v := 1) d_La_law_605 rfl ?_
  refine wp_iadd d_La_law_606 ?_
  refine wp_sld d_La_law_607 h1 ?_
  refine wp_aload_n d_La_law_608 rfl rfl rfl ?_
  refine wp_iload_n d_La_law_609 rfl rfl ?_
  refine wp_iconst (v := 2) d_La_law_610 rfl ?_
  refine wp_iadd d_La_law_611 ?_
  refine wp_sld d_La_law_612 h2 ?_
  refine wp_callV (r := (R_12, T_12, 70)) (M' := m_Mo_order) (as := [_, _]) (D' := 20) (C1 := 0) (C2 := C) (S1 := 0) (S2 := S) d_La_law_613 rfl w_1419 w_1420 w_1421 jm_0 k_Mo_order (Nat.le_of_ble_eq_true rfl) rfl (Nat.le_of_ble_eq_true rfl) (by decide) (Nat.zero_add _).symm (Nat.zero_add _).symm ?_
  refine hq _ (fun I' A' L' hJ' => ?_)
  refine wp_icmp_eq (t := 1386) d_La_law_616 (by decide) (fun c_616 => ?_) (fun c_616 => absurd rfl c_616)
  exact kk _ _ _ _ _ hJ'
theorem la_c_without (h1 : vp_in (i + 1) G.2.2.2.2.1) (h2 : vp_in (i + 2) G.2.2.2.2.1) (h3 : vp_in (i + 3) G.2.2.2.2.1) (h4 : vp_in (i + 4) G.2.2.2.2.1) (h5 : vp_in (i + 5) G.2.2.2.2.1) (hJ : JI K I A L r) (kk : ∀ (K2 : tc_K) (I2 : Nat → Int32) (A2 : Nat → Nat → Int32) (L2 : Nat → Nat → Int64) (r2 : tc_r), JI K2 I2 A2 L2 r2 → px_W G 30 C S (m_La nm) 1386 (la_ls i) [] (HT K2 (JM I2 A2 L2) r2) Q) : px_W G 30 C S (m_La nm) 621 (la_ls i) [] (HT K (JM I A L) r) Q := by
  refine wp_aload_n d_La_law_621 rfl rfl rfl ?_
  refine wp_aload_n d_La_law_622 rfl rfl rfl ?_
  refine wp_iload_n d_La_law_623 rfl rfl ?_
  refine wp_iconst (v := 1) d_La_law_624 rfl ?_
  refine wp_iadd d_La_law_625 ?_
  refine wp_sld d_La_law_626 h1 ?_
  refine wp_aload_n d_La_law_627 rfl rfl rfl ?_
  refine wp_iload_n d_La_law_628 rfl rfl ?_
  refine wp_iconst (v := 2) d_La_law_629 rfl ?_
  refine wp_iadd d_La_law_630 ?_
  refine wp_sld d_La_law_631 h2 ?_
  refine wp_aload_n d_La_law_632 rfl rfl rfl ?_
  refine wp_iload_n d_La_law_633 rfl rfl ?_
  refine wp_iconst (v := 3) d_La_law_634 rfl ?_
  refine wp_iadd d_La_law_635 ?_
  refine wp_sld d_La_law_636 h3 ?_
  refine wp_callV (r := (R_0, T_0, 11)) (M' := m_TC_without) (as := [_, _, _]) (D' := 24) (C1 := 0) (C2 := C) (S1 := 0) (S2 := S) d_La_law_637 rfl w_766 w_767 w_768 tt_0 k_TC_without (Nat.le_of_ble_eq_true rfl) rfl (Nat.le_of_ble_eq_true rfl) (by decide) (Nat.zero_add _).symm (Nat.zero_add _).symm ?_
  refine jp_without (Nat.le_refl 24) hJ (fun v K2 r2 hq => ?_)
  refine wp_aload_n d_La_law_640 rfl rfl rfl ?_
  refine wp_aload_n d_La_law_641 rfl rfl rfl ?_
  refine wp_iload_n d_La_law_642 rfl rfl ?_
  refine wp_iconst (v := 1) d_La_law_643 rfl ?_
  refine wp_iadd d_La_law_644 ?_
  refine wp_sld d_La_law_645 h1 ?_
  refine wp_aload_n d_La_law_646 rfl rfl rfl ?_
  refine wp_iload_n d_La_law_647 rfl rfl ?_
  refine wp_iconst (v := 2) d_La_law_648 rfl ?_
  refine wp_iadd d_La_law_649 ?_
  refine wp_sld d_La_law_650 h2 ?_
  refine wp_aload_n d_La_law_651 rfl rfl rfl ?_
  refine wp_iload_n d_La_law_652 rfl rfl ?_
  refine wp_iconst (v := 3) d_La_law_653 rfl ?_
  refine wp_iadd d_La_law_654 ?_
  refine wp_sld d_La_law_655 h3 ?_
  refine wp_callV (r := (R_12, T_12, 70)) (M' := m_Mo_without) (as := [_, _, _]) (D' := 20) (C1 := 0) (C2 := C) (S1 := 0) (S2 := S) d_La_law_656 rfl w_1439 w_1440 w_1441 jm_0 k_Mo_without (Nat.le_of_ble_eq_true rfl) rfl (Nat.le_of_ble_eq_true rfl) (by decide) (Nat.zero_add _).symm (Nat.zero_add _).symm ?_
  refine hq _ (fun I' A' L' hJ' => ?_)
  refine wp_icmp_eq (t := 1386) d_La_law_659 (by decide) (fun c_659 => ?_) (fun c_659 => absurd rfl c_659)
  exact kk _ _ _ _ _ hJ'
theorem la_c_pulley (h1 : vp_in (i + 1) G.2.2.2.2.1) (h2 : vp_in (i + 2) G.2.2.2.2.1) (h3 : vp_in (i + 3) G.2.2.2.2.1) (h4 : vp_in (i + 4) G.2.2.2.2.1) (h5 : vp_in (i + 5) G.2.2.2.2.1) (hJ : JI K I A L r) (kk : ∀ (K2 : tc_K) (I2 : Nat → Int32) (A2 : Nat → Nat → Int32) (L2 : Nat → Nat → Int64) (r2 : tc_r), JI K2 I2 A2 L2 r2 → px_W G 30 C S (m_La nm) 1386 (la_ls i) [] (HT K2 (JM I2 A2 L2) r2) Q) : px_W G 30 C S (m_La nm) 664 (la_ls i) [] (HT K (JM I A L) r) Q := by
  refine wp_aload_n d_La_law_664 rfl rfl rfl ?_
  refine wp_aload_n d_La_law_665 rfl rfl rfl ?_
  refine wp_iload_n d_La_law_666 rfl rfl ?_
  refine wp_iconst (v := 1) d_La_law_667 rfl ?_
  refine wp_iadd d_La_law_668 ?_
  refine wp_sld d_La_law_669 h1 ?_
  refine wp_aload_n d_La_law_670 rfl rfl rfl ?_
  refine wp_iload_n d_La_law_671 rfl rfl ?_
  refine wp_iconst (v := 2) d_La_law_672 rfl ?_
  refine wp_iadd d_La_law_673 ?_
  refine wp_sld d_La_law_674 h2 ?_
  refine wp_callV (r := (R_0, T_0, 11)) (M' := m_TC_pulley) (as := [_, _]) (D' := 24) (C1 := 0) (C2 := C) (S1 := 0) (S2 := S) d_La_law_675 rfl w_773 w_774 w_775 tt_0 k_TC_pulley (Nat.le_of_ble_eq_true rfl) rfl (Nat.le_of_ble_eq_true rfl) (by decide) (Nat.zero_add _).symm (Nat.zero_add _).symm ?_
  refine jp_pulley (Nat.le_refl 24) hJ (fun v K2 r2 hq => ?_)
  refine wp_aload_n d_La_law_678 rfl rfl rfl ?_
  refine wp_aload_n d_La_law_679 rfl rfl rfl ?_
  refine wp_iload_n d_La_law_680 rfl rfl ?_
  refine wp_iconst (v := 1) d_La_law_681 rfl ?_
  refine wp_iadd d_La_law_682 ?_
  refine wp_sld d_La_law_683 h1 ?_
  refine wp_aload_n d_La_law_684 rfl rfl rfl ?_
  refine wp_iload_n d_La_law_685 rfl rfl ?_
  refine wp_iconst (v := 2) d_La_law_686 rfl ?_
  refine wp_iadd d_La_law_687 ?_
  refine wp_sld d_La_law_688 h2 ?_
  refine wp_callV (r := (R_12, T_12, 70)) (M' := m_Mo_pulley) (as := [_, _]) (D' := 20) (C1 := 0) (C2 := C) (S1 := 0) (S2 := S) d_La_law_689 rfl w_1443 w_1444 w_1445 jm_0 k_Mo_pulley (Nat.le_of_ble_eq_true rfl) rfl (Nat.le_of_ble_eq_true rfl) (by decide) (Nat.zero_add _).symm (Nat.zero_add _).symm ?_
  refine hq _ (fun I' A' L' hJ' => ?_)
  refine wp_icmp_eq (t := 1386) d_La_law_692 (by decide) (fun c_692 => ?_) (fun c_692 => absurd rfl c_692)
  exact kk _ _ _ _ _ hJ'
theorem la_c_from (h1 : vp_in (i + 1) G.2.2.2.2.1) (h2 : vp_in (i + 2) G.2.2.2.2.1) (h3 : vp_in (i + 3) G.2.2.2.2.1) (h4 : vp_in (i + 4) G.2.2.2.2.1) (h5 : vp_in (i + 5) G.2.2.2.2.1) (hJ : JI K I A L r) (kk : ∀ (K2 : tc_K) (I2 : Nat → Int32) (A2 : Nat → Nat → Int32) (L2 : Nat → Nat → Int64) (r2 : tc_r), JI K2 I2 A2 L2 r2 → px_W G 30 C S (m_La nm) 1386 (la_ls i) [] (HT K2 (JM I2 A2 L2) r2) Q) : px_W G 30 C S (m_La nm) 697 (la_ls i) [] (HT K (JM I A L) r) Q := by
  refine wp_aload_n d_La_law_697 rfl rfl rfl ?_
  refine wp_aload_n d_La_law_698 rfl rfl rfl ?_
  refine wp_iload_n d_La_law_699 rfl rfl ?_
  refine wp_iconst (v := 1) d_La_law_700 rfl ?_
  refine wp_iadd d_La_law_701 ?_
  refine wp_sld d_La_law_702 h1 ?_
  refine wp_callV (r := (R_0, T_0, 11)) (M' := m_TC_from) (as := [_]) (D' := 24) (C1 := 0) (C2 := C) (S1 := 0) (S2 := S) d_La_law_703 rfl w_783 w_784 w_785 tt_0 k_TC_from (Nat.le_of_ble_eq_true rfl) rfl (Nat.le_of_ble_eq_true rfl) (by decide) (Nat.zero_add _).symm (Nat.zero_add _).symm ?_
  refine jp_from (Nat.le_refl 24) hJ (fun v K2 r2 hq => ?_)
  refine wp_aload_n d_La_law_706 rfl rfl rfl ?_
  refine wp_aload_n d_La_law_707 rfl rfl rfl ?_
  refine wp_iload_n d_La_law_708 rfl rfl ?_
  refine wp_iconst (v := 1) d_La_law_709 rfl ?_
  refine wp_iadd d_La_law_710 ?_
  refine wp_sld d_La_law_711 h1 ?_
  refine wp_callV (r := (R_12, T_12, 70)) (M' := m_Mo_from) (as := [_]) (D' := 20) (C1 := 0) (C2 := C) (S1 := 0) (S2 := S) d_La_law_712 rfl w_1453 w_1454 w_1455 jm_0 k_Mo_from (Nat.le_of_ble_eq_true rfl) rfl (Nat.le_of_ble_eq_true rfl) (by decide) (Nat.zero_add _).symm (Nat.zero_add _).symm ?_
  refine hq _ (fun I' A' L' hJ' => ?_)
  refine wp_icmp_eq (t := 1386) d_La_law_715 (by decide) (fun c_715 => ?_) (fun c_715 => absurd rfl c_715)
  exact kk _ _ _ _ _ hJ'
theorem la_c_rested (h1 : vp_in (i + 1) G.2.2.2.2.1) (h2 : vp_in (i + 2) G.2.2.2.2.1) (h3 : vp_in (i + 3) G.2.2.2.2.1) (h4 : vp_in (i + 4) G.2.2.2.2.1) (h5 : vp_in (i + 5) G.2.2.2.2.1) (hJ : JI K I A L r) (kk : ∀ (K2 : tc_K) (I2 : Nat → Int32) (A2 : Nat → Nat → Int32) (L2 : Nat → Nat → Int64) (r2 : tc_r), JI K2 I2 A2 L2 r2 → px_W G 30 C S (m_La nm) 1386 (la_ls i) [] (HT K2 (JM I2 A2 L2) r2) Q) : px_W G 30 C S (m_La nm) 720 (la_ls i) [] (HT K (JM I A L) r) Q := by
  refine wp_aload_n d_La_law_720 rfl rfl rfl ?_
  refine wp_aload_n d_La_law_721 rfl rfl rfl ?_
  refine wp_iload_n d_La_law_722 rfl rfl ?_
  refine wp_iconst (v := 1) d_La_law_723 rfl ?_
  refine wp_iadd d_La_law_724 ?_
  refine wp_sld d_La_law_725 h1 ?_
  refine wp_aload_n d_La_law_726 rfl rfl rfl ?_
  refine wp_iload_n d_La_law_727 rfl rfl ?_
  refine wp_iconst (v := 2) d_La_law_728 rfl ?_
  refine wp_iadd d_La_law_729 ?_
  refine wp_sld d_La_law_730 h2 ?_
  refine wp_aload_n d_La_law_731 rfl rfl rfl ?_
  refine wp_iload_n d_La_law_732 rfl rfl ?_
  refine wp_iconst (v := 3) d_La_law_733 rfl ?_
  refine wp_iadd d_La_law_734 ?_
  refine wp_sld d_La_law_735 h3 ?_
  refine wp_callV (r := (R_0, T_0, 11)) (M' := m_TC_rested) (as := [_, _, _]) (D' := 24) (C1 := 0) (C2 := C) (S1 := 0) (S2 := S) d_La_law_736 rfl w_787 w_788 w_789 tt_0 k_TC_rested (Nat.le_of_ble_eq_true rfl) rfl (Nat.le_of_ble_eq_true rfl) (by decide) (Nat.zero_add _).symm (Nat.zero_add _).symm ?_
  refine jp_rested (Nat.le_refl 24) hJ (fun v K2 r2 hq => ?_)
  refine wp_aload_n d_La_law_739 rfl rfl rfl ?_
  refine wp_aload_n d_La_law_740 rfl rfl rfl ?_
  refine wp_iload_n d_La_law_741 rfl rfl ?_
  refine wp_iconst (v := 1) d_La_law_742 rfl ?_
  refine wp_iadd d_La_law_743 ?_
  refine wp_sld d_La_law_744 h1 ?_
  refine wp_aload_n d_La_law_745 rfl rfl rfl ?_
  refine wp_iload_n d_La_law_746 rfl rfl ?_
  refine wp_iconst (v := 2) d_La_law_747 rfl ?_
  refine wp_iadd d_La_law_748 ?_
  refine wp_sld d_La_law_749 h2 ?_
  refine wp_aload_n d_La_law_750 rfl rfl rfl ?_
  refine wp_iload_n d_La_law_751 rfl rfl ?_
  refine wp_iconst (v := 3) d_La_law_752 rfl ?_
  refine wp_iadd d_La_law_753 ?_
  refine wp_sld d_La_law_754 h3 ?_
  refine wp_callV (r := (R_12, T_12, 70)) (M' := m_Mo_rested) (as := [_, _, _]) (D' := 20) (C1 := 0) (C2 := C) (S1 := 0) (S2 := S) d_La_law_755 rfl w_1457 w_1458 w_1459 jm_0 k_Mo_rested (Nat.le_of_ble_eq_true rfl) rfl (Nat.le_of_ble_eq_true rfl) (by decide) (Nat.zero_add _).symm (Nat.zero_add _).symm ?_
  refine hq _ (fun I' A' L' hJ' => ?_)
  refine wp_icmp_eq (t := 1386) d_La_law_758 (by decide) (fun c_758 => ?_) (fun c_758 => absurd rfl c_758)
  exact kk _ _ _ _ _ hJ'
theorem la_c_change (h1 : vp_in (i + 1) G.2.2.2.2.1) (h2 : vp_in (i + 2) G.2.2.2.2.1) (h3 : vp_in (i + 3) G.2.2.2.2.1) (h4 : vp_in (i + 4) G.2.2.2.2.1) (h5 : vp_in (i + 5) G.2.2.2.2.1) (hJ : JI K I A L r) (kk : ∀ (K2 : tc_K) (I2 : Nat → Int32) (A2 : Nat → Nat → Int32) (L2 : Nat → Nat → Int64) (r2 : tc_r), JI K2 I2 A2 L2 r2 → px_W G 30 C S (m_La nm) 1386 (la_ls i) [] (HT K2 (JM I2 A2 L2) r2) Q) : px_W G 30 C S (m_La nm) 763 (la_ls i) [] (HT K (JM I A L) r) Q := by
  refine wp_aload_n d_La_law_763 rfl rfl rfl ?_
  refine wp_aload_n d_La_law_764 rfl rfl rfl ?_
  refine wp_iload_n d_La_law_765 rfl rfl ?_
  refine wp_iconst (v := 1) d_La_law_766 rfl ?_
  refine wp_iadd d_La_law_767 ?_
  refine wp_sld d_La_law_768 h1 ?_
  refine wp_aload_n d_La_law_769 rfl rfl rfl ?_
  refine wp_iload_n d_La_law_770 rfl rfl ?_
  refine wp_iconst (v := 2) d_La_law_771 rfl ?_
  refine wp_iadd d_La_law_772 ?_
  refine wp_sld d_La_law_773 h2 ?_
  refine wp_callV (r := (R_0, T_0, 11)) (M' := m_TC_change) (as := [_, _]) (D' := 24) (C1 := 0) (C2 := C) (S1 := 0) (S2 := S) d_La_law_774 rfl w_792 w_793 w_794 tt_0 k_TC_change (Nat.le_of_ble_eq_true rfl) rfl (Nat.le_of_ble_eq_true rfl) (by decide) (Nat.zero_add _).symm (Nat.zero_add _).symm ?_
  refine jp_change (Nat.le_refl 24) hJ (fun v K2 r2 hq => ?_)
  refine wp_aload_n d_La_law_777 rfl rfl rfl ?_
  refine wp_aload_n d_La_law_778 rfl rfl rfl ?_
  refine wp_iload_n d_La_law_779 rfl rfl ?_
  refine wp_iconst (v := 1) d_La_law_780 rfl ?_
  refine wp_iadd d_La_law_781 ?_
  refine wp_sld d_La_law_782 h1 ?_
  refine wp_aload_n d_La_law_783 rfl rfl rfl ?_
  refine wp_iload_n d_La_law_784 rfl rfl ?_
  refine wp_iconst (v := 2) d_La_law_785 rfl ?_
  refine wp_iadd d_La_law_786 ?_
  refine wp_sld d_La_law_787 h2 ?_
  refine wp_callV (r := (R_12, T_12, 70)) (M' := m_Mo_change) (as := [_, _]) (D' := 20) (C1 := 0) (C2 := C) (S1 := 0) (S2 := S) d_La_law_788 rfl w_1461 w_1462 w_1463 jm_0 k_Mo_change (Nat.le_of_ble_eq_true rfl) rfl (Nat.le_of_ble_eq_true rfl) (by decide) (Nat.zero_add _).symm (Nat.zero_add _).symm ?_
  refine hq _ (fun I' A' L' hJ' => ?_)
  refine wp_icmp_eq (t := 1386) d_La_law_791 (by decide) (fun c_791 => ?_) (fun c_791 => absurd rfl c_791)
  exact kk _ _ _ _ _ hJ'
theorem la_c_see (h1 : vp_in (i + 1) G.2.2.2.2.1) (h2 : vp_in (i + 2) G.2.2.2.2.1) (h3 : vp_in (i + 3) G.2.2.2.2.1) (h4 : vp_in (i + 4) G.2.2.2.2.1) (h5 : vp_in (i + 5) G.2.2.2.2.1) (hJ : JI K I A L r) (kk : ∀ (K2 : tc_K) (I2 : Nat → Int32) (A2 : Nat → Nat → Int32) (L2 : Nat → Nat → Int64) (r2 : tc_r), JI K2 I2 A2 L2 r2 → px_W G 30 C S (m_La nm) 1386 (la_ls i) [] (HT K2 (JM I2 A2 L2) r2) Q) : px_W G 30 C S (m_La nm) 796 (la_ls i) [] (HT K (JM I A L) r) Q := by
  refine wp_aload_n d_La_law_796 rfl rfl rfl ?_
  refine wp_aload_n d_La_law_797 rfl rfl rfl ?_
  refine wp_iload_n d_La_law_798 rfl rfl ?_
  refine wp_iconst (v := 1) d_La_law_799 rfl ?_
  refine wp_iadd d_La_law_800 ?_
  refine wp_sld d_La_law_801 h1 ?_
  refine wp_callV (r := (R_0, T_0, 11)) (M' := m_TC_see) (as := [_]) (D' := 24) (C1 := 0) (C2 := C) (S1 := 0) (S2 := S) d_La_law_802 rfl w_797 w_798 w_799 tt_0 k_TC_see (Nat.le_of_ble_eq_true rfl) rfl (Nat.le_of_ble_eq_true rfl) (by decide) (Nat.zero_add _).symm (Nat.zero_add _).symm ?_
  refine jp_see (Nat.le_refl 24) hJ (fun v K2 r2 hq => ?_)
  refine wp_aload_n d_La_law_805 rfl rfl rfl ?_
  refine wp_aload_n d_La_law_806 rfl rfl rfl ?_
  refine wp_iload_n d_La_law_807 rfl rfl ?_
  refine wp_iconst (v := 1) d_La_law_808 rfl ?_
  refine wp_iadd d_La_law_809 ?_
  refine wp_sld d_La_law_810 h1 ?_
  refine wp_callV (r := (R_12, T_12, 70)) (M' := m_Mo_see) (as := [_]) (D' := 20) (C1 := 0) (C2 := C) (S1 := 0) (S2 := S) d_La_law_811 rfl w_1469 w_1470 w_1471 jm_0 k_Mo_see (Nat.le_of_ble_eq_true rfl) rfl (Nat.le_of_ble_eq_true rfl) (by decide) (Nat.zero_add _).symm (Nat.zero_add _).symm ?_
  refine hq _ (fun I' A' L' hJ' => ?_)
  refine wp_icmp_eq (t := 1386) d_La_law_814 (by decide) (fun c_814 => ?_) (fun c_814 => absurd rfl c_814)
  exact kk _ _ _ _ _ hJ'
theorem la_c_who (h1 : vp_in (i + 1) G.2.2.2.2.1) (h2 : vp_in (i + 2) G.2.2.2.2.1) (h3 : vp_in (i + 3) G.2.2.2.2.1) (h4 : vp_in (i + 4) G.2.2.2.2.1) (h5 : vp_in (i + 5) G.2.2.2.2.1) (hJ : JI K I A L r) (kk : ∀ (K2 : tc_K) (I2 : Nat → Int32) (A2 : Nat → Nat → Int32) (L2 : Nat → Nat → Int64) (r2 : tc_r), JI K2 I2 A2 L2 r2 → px_W G 30 C S (m_La nm) 1386 (la_ls i) [] (HT K2 (JM I2 A2 L2) r2) Q) : px_W G 30 C S (m_La nm) 819 (la_ls i) [] (HT K (JM I A L) r) Q := by
  refine wp_aload_n d_La_law_819 rfl rfl rfl ?_
  refine wp_aload_n d_La_law_820 rfl rfl rfl ?_
  refine wp_iload_n d_La_law_821 rfl rfl ?_
  refine wp_iconst (v := 1) d_La_law_822 rfl ?_
  refine wp_iadd d_La_law_823 ?_
  refine wp_sld d_La_law_824 h1 ?_
  refine wp_callV (r := (R_0, T_0, 11)) (M' := m_TC_who) (as := [_]) (D' := 24) (C1 := 0) (C2 := C) (S1 := 0) (S2 := S) d_La_law_825 rfl w_801 w_802 w_803 tt_0 k_TC_who (Nat.le_of_ble_eq_true rfl) rfl (Nat.le_of_ble_eq_true rfl) (by decide) (Nat.zero_add _).symm (Nat.zero_add _).symm ?_
  refine jp_who (Nat.le_refl 24) hJ (fun v K2 r2 hq => ?_)
  refine wp_aload_n d_La_law_828 rfl rfl rfl ?_
  refine wp_aload_n d_La_law_829 rfl rfl rfl ?_
  refine wp_iload_n d_La_law_830 rfl rfl ?_
  refine wp_iconst (v := 1) d_La_law_831 rfl ?_
  refine wp_iadd d_La_law_832 ?_
  refine wp_sld d_La_law_833 h1 ?_
  refine wp_callV (r := (R_12, T_12, 70)) (M' := m_Mo_who) (as := [_]) (D' := 20) (C1 := 0) (C2 := C) (S1 := 0) (S2 := S) d_La_law_834 rfl w_1473 w_1474 w_1475 jm_0 k_Mo_who (Nat.le_of_ble_eq_true rfl) rfl (Nat.le_of_ble_eq_true rfl) (by decide) (Nat.zero_add _).symm (Nat.zero_add _).symm ?_
  refine hq _ (fun I' A' L' hJ' => ?_)
  refine wp_icmp_eq (t := 1386) d_La_law_837 (by decide) (fun c_837 => ?_) (fun c_837 => absurd rfl c_837)
  exact kk _ _ _ _ _ hJ'
theorem la_c_odds (h1 : vp_in (i + 1) G.2.2.2.2.1) (h2 : vp_in (i + 2) G.2.2.2.2.1) (h3 : vp_in (i + 3) G.2.2.2.2.1) (h4 : vp_in (i + 4) G.2.2.2.2.1) (h5 : vp_in (i + 5) G.2.2.2.2.1) (hJ : JI K I A L r) (kk : ∀ (K2 : tc_K) (I2 : Nat → Int32) (A2 : Nat → Nat → Int32) (L2 : Nat → Nat → Int64) (r2 : tc_r), JI K2 I2 A2 L2 r2 → px_W G 30 C S (m_La nm) 1386 (la_ls i) [] (HT K2 (JM I2 A2 L2) r2) Q) : px_W G 30 C S (m_La nm) 842 (la_ls i) [] (HT K (JM I A L) r) Q := by
  refine wp_aload_n d_La_law_842 rfl rfl rfl ?_
  refine wp_aload_n d_La_law_843 rfl rfl rfl ?_
  refine wp_iload_n d_La_law_844 rfl rfl ?_
  refine wp_iconst (v := 1) d_La_law_845 rfl ?_
  refine wp_iadd d_La_law_846 ?_
  refine wp_sld d_La_law_847 h1 ?_
  refine wp_aload_n d_La_law_848 rfl rfl rfl ?_
  refine wp_iload_n d_La_law_849 rfl rfl ?_
  refine wp_iconst (v := 2) d_La_law_850 rfl ?_
  refine wp_iadd d_La_law_851 ?_
  refine wp_sld d_La_law_852 h2 ?_
  refine wp_aload_n d_La_law_853 rfl rfl rfl ?_
  refine wp_iload_n d_La_law_854 rfl rfl ?_
  refine wp_iconst (v := 3) d_La_law_855 rfl ?_
  refine wp_iadd d_La_law_856 ?_
  refine wp_sld d_La_law_857 h3 ?_
  refine wp_callV (r := (R_0, T_0, 11)) (M' := m_TC_odds) (as := [_, _, _]) (D' := 24) (C1 := 0) (C2 := C) (S1 := 0) (S2 := S) d_La_law_858 rfl w_813 w_814 w_815 tt_0 k_TC_odds (Nat.le_of_ble_eq_true rfl) rfl (Nat.le_of_ble_eq_true rfl) (by decide) (Nat.zero_add _).symm (Nat.zero_add _).symm ?_
  refine jp_odds (Nat.le_refl 24) hJ (fun v K2 r2 hq => ?_)
  refine wp_aload_n d_La_law_861 rfl rfl rfl ?_
  refine wp_aload_n d_La_law_862 rfl rfl rfl ?_
  refine wp_iload_n d_La_law_863 rfl rfl ?_
  refine wp_iconst (v := 1) d_La_law_864 rfl ?_
  refine wp_iadd d_La_law_865 ?_
  refine wp_sld d_La_law_866 h1 ?_
  refine wp_aload_n d_La_law_867 rfl rfl rfl ?_
  refine wp_iload_n d_La_law_868 rfl rfl ?_
  refine wp_iconst (v := 2) d_La_law_869 rfl ?_
  refine wp_iadd d_La_law_870 ?_
  refine wp_sld d_La_law_871 h2 ?_
  refine wp_aload_n d_La_law_872 rfl rfl rfl ?_
  refine wp_iload_n d_La_law_873 rfl rfl ?_
  refine wp_iconst (v := 3) d_La_law_874 rfl ?_
  refine wp_iadd d_La_law_875 ?_
  refine wp_sld d_La_law_876 h3 ?_
  refine wp_callV (r := (R_12, T_12, 70)) (M' := m_Mo_odds) (as := [_, _, _]) (D' := 20) (C1 := 0) (C2 := C) (S1 := 0) (S2 := S) d_La_law_877 rfl w_1478 w_1479 w_1480 jm_0 k_Mo_odds (Nat.le_of_ble_eq_true rfl) rfl (Nat.le_of_ble_eq_true rfl) (by decide) (Nat.zero_add _).symm (Nat.zero_add _).symm ?_
  refine hq _ (fun I' A' L' hJ' => ?_)
  refine wp_lcmp d_La_law_880 ?_
  refine wp_if_eq (t := 1386) d_La_law_881 (by decide) (fun c_881 => ?_) (fun c_881 => absurd (la_cmp _) c_881)
  exact kk _ _ _ _ _ hJ'
theorem la_c_mean (h1 : vp_in (i + 1) G.2.2.2.2.1) (h2 : vp_in (i + 2) G.2.2.2.2.1) (h3 : vp_in (i + 3) G.2.2.2.2.1) (h4 : vp_in (i + 4) G.2.2.2.2.1) (h5 : vp_in (i + 5) G.2.2.2.2.1) (hJ : JI K I A L r) (kk : ∀ (K2 : tc_K) (I2 : Nat → Int32) (A2 : Nat → Nat → Int32) (L2 : Nat → Nat → Int64) (r2 : tc_r), JI K2 I2 A2 L2 r2 → px_W G 30 C S (m_La nm) 1386 (la_ls i) [] (HT K2 (JM I2 A2 L2) r2) Q) : px_W G 30 C S (m_La nm) 886 (la_ls i) [] (HT K (JM I A L) r) Q := by
  refine wp_aload_n d_La_law_886 rfl rfl rfl ?_
  refine wp_aload_n d_La_law_887 rfl rfl rfl ?_
  refine wp_iload_n d_La_law_888 rfl rfl ?_
  refine wp_iconst (v := 1) d_La_law_889 rfl ?_
  refine wp_iadd d_La_law_890 ?_
  refine wp_sld d_La_law_891 h1 ?_
  refine wp_aload_n d_La_law_892 rfl rfl rfl ?_
  refine wp_iload_n d_La_law_893 rfl rfl ?_
  refine wp_iconst (v := 2) d_La_law_894 rfl ?_
  refine wp_iadd d_La_law_895 ?_
  refine wp_sld d_La_law_896 h2 ?_
  refine wp_callV (r := (R_0, T_0, 11)) (M' := m_TC_mean) (as := [_, _]) (D' := 24) (C1 := 0) (C2 := C) (S1 := 0) (S2 := S) d_La_law_897 rfl w_824 w_825 w_826 tt_0 k_TC_mean (Nat.le_of_ble_eq_true rfl) rfl (Nat.le_of_ble_eq_true rfl) (by decide) (Nat.zero_add _).symm (Nat.zero_add _).symm ?_
  refine jp_mean (Nat.le_refl 24) hJ (fun v K2 r2 hq => ?_)
  refine wp_aload_n d_La_law_900 rfl rfl rfl ?_
  refine wp_aload_n d_La_law_901 rfl rfl rfl ?_
  refine wp_iload_n d_La_law_902 rfl rfl ?_
  refine wp_iconst (v := 1) d_La_law_903 rfl ?_
  refine wp_iadd d_La_law_904 ?_
  refine wp_sld d_La_law_905 h1 ?_
  refine wp_aload_n d_La_law_906 rfl rfl rfl ?_
  refine wp_iload_n d_La_law_907 rfl rfl ?_
  refine wp_iconst (v := 2) d_La_law_908 rfl ?_
  refine wp_iadd d_La_law_909 ?_
  refine wp_sld d_La_law_910 h2 ?_
  refine wp_callV (r := (R_12, T_12, 70)) (M' := m_Mo_mean) (as := [_, _]) (D' := 20) (C1 := 0) (C2 := C) (S1 := 0) (S2 := S) d_La_law_911 rfl w_1491 w_1492 w_1493 jm_0 k_Mo_mean (Nat.le_of_ble_eq_true rfl) rfl (Nat.le_of_ble_eq_true rfl) (by decide) (Nat.zero_add _).symm (Nat.zero_add _).symm ?_
  refine hq _ (fun I' A' L' hJ' => ?_)
  refine wp_lcmp d_La_law_914 ?_
  refine wp_if_eq (t := 1386) d_La_law_915 (by decide) (fun c_915 => ?_) (fun c_915 => absurd (la_cmp _) c_915)
  exact kk _ _ _ _ _ hJ'
theorem la_c_book (h1 : vp_in (i + 1) G.2.2.2.2.1) (h2 : vp_in (i + 2) G.2.2.2.2.1) (h3 : vp_in (i + 3) G.2.2.2.2.1) (h4 : vp_in (i + 4) G.2.2.2.2.1) (h5 : vp_in (i + 5) G.2.2.2.2.1) (hJ : JI K I A L r) (kk : ∀ (K2 : tc_K) (I2 : Nat → Int32) (A2 : Nat → Nat → Int32) (L2 : Nat → Nat → Int64) (r2 : tc_r), JI K2 I2 A2 L2 r2 → px_W G 30 C S (m_La nm) 1386 (la_ls i) [] (HT K2 (JM I2 A2 L2) r2) Q) : px_W G 30 C S (m_La nm) 920 (la_ls i) [] (HT K (JM I A L) r) Q := by
  refine wp_aload_n d_La_law_920 rfl rfl rfl ?_
  refine wp_aload_n d_La_law_921 rfl rfl rfl ?_
  refine wp_iload_n d_La_law_922 rfl rfl ?_
  refine wp_iconst (v := 1) d_La_law_923 rfl ?_
  refine wp_iadd d_La_law_924 ?_
  refine wp_sld d_La_law_925 h1 ?_
  refine wp_aload_n d_La_law_926 rfl rfl rfl ?_
  refine wp_iload_n d_La_law_927 rfl rfl ?_
  refine wp_iconst (v := 2) d_La_law_928 rfl ?_
  refine wp_iadd d_La_law_929 ?_
  refine wp_sld d_La_law_930 h2 ?_
  refine wp_if_eq (t := 938) d_La_law_931 (by decide) (fun c_0 => ?_) (fun c_0 => ?_)
  · skip
    refine wp_iconst (v := 0) d_La_law_938 rfl ?_
    refine wp_callV (r := (R_0, T_0, 11)) (M' := m_TC_book) (as := [_, _]) (D' := 24) (C1 := 0) (C2 := C) (S1 := 0) (S2 := S) d_La_law_939 rfl w_828 w_829 w_830 tt_0 k_TC_book (Nat.le_of_ble_eq_true rfl) rfl (Nat.le_of_ble_eq_true rfl) (by decide) (Nat.zero_add _).symm (Nat.zero_add _).symm ?_
    refine jp_book (Or.inl rfl) (Nat.le_refl 24) hJ (fun v K2 r2 hq => ?_)
    refine wp_aload_n d_La_law_942 rfl rfl rfl ?_
    refine wp_aload_n d_La_law_943 rfl rfl rfl ?_
    refine wp_iload_n d_La_law_944 rfl rfl ?_
    refine wp_iconst (v := 1) d_La_law_945 rfl ?_
    refine wp_iadd d_La_law_946 ?_
    refine wp_sld d_La_law_947 h1 ?_
    refine wp_aload_n d_La_law_948 rfl rfl rfl ?_
    refine wp_iload_n d_La_law_949 rfl rfl ?_
    refine wp_iconst (v := 2) d_La_law_950 rfl ?_
    refine wp_iadd d_La_law_951 ?_
    refine wp_sld d_La_law_952 h2 ?_
    refine wp_if_eq (t := 960) d_La_law_953 (by decide) (fun c_953 => ?_) (fun c_953 => absurd c_0 c_953)
    refine wp_iconst (v := 0) d_La_law_960 rfl ?_
    refine wp_callV (r := (R_12, T_12, 70)) (M' := m_Mo_book) (as := [_, _]) (D' := 20) (C1 := 0) (C2 := C) (S1 := 0) (S2 := S) d_La_law_961 rfl w_1495 w_1496 w_1497 jm_0 k_Mo_book (Nat.le_of_ble_eq_true rfl) rfl (Nat.le_of_ble_eq_true rfl) (by decide) (Nat.zero_add _).symm (Nat.zero_add _).symm ?_
    refine hq _ (fun I' A' L' hJ' => ?_)
    refine wp_icmp_eq (t := 1386) d_La_law_964 (by decide) (fun c_964 => ?_) (fun c_964 => absurd rfl c_964)
    exact kk _ _ _ _ _ hJ'
  · skip
    refine wp_iconst (v := 1) d_La_law_934 rfl ?_
    refine wp_goto (t := 939) d_La_law_935 (by decide) ?_
    refine wp_callV (r := (R_0, T_0, 11)) (M' := m_TC_book) (as := [_, _]) (D' := 24) (C1 := 0) (C2 := C) (S1 := 0) (S2 := S) d_La_law_939 rfl w_828 w_829 w_830 tt_0 k_TC_book (Nat.le_of_ble_eq_true rfl) rfl (Nat.le_of_ble_eq_true rfl) (by decide) (Nat.zero_add _).symm (Nat.zero_add _).symm ?_
    refine jp_book (Or.inr rfl) (Nat.le_refl 24) hJ (fun v K2 r2 hq => ?_)
    refine wp_aload_n d_La_law_942 rfl rfl rfl ?_
    refine wp_aload_n d_La_law_943 rfl rfl rfl ?_
    refine wp_iload_n d_La_law_944 rfl rfl ?_
    refine wp_iconst (v := 1) d_La_law_945 rfl ?_
    refine wp_iadd d_La_law_946 ?_
    refine wp_sld d_La_law_947 h1 ?_
    refine wp_aload_n d_La_law_948 rfl rfl rfl ?_
    refine wp_iload_n d_La_law_949 rfl rfl ?_
    refine wp_iconst (v := 2) d_La_law_950 rfl ?_
    refine wp_iadd d_La_law_951 ?_
    refine wp_sld d_La_law_952 h2 ?_
    refine wp_if_eq (t := 960) d_La_law_953 (by decide) (fun c_953 => absurd c_953 c_0) (fun c_953 => ?_)
    refine wp_iconst (v := 1) d_La_law_956 rfl ?_
    refine wp_goto (t := 961) d_La_law_957 (by decide) ?_
    refine wp_callV (r := (R_12, T_12, 70)) (M' := m_Mo_book) (as := [_, _]) (D' := 20) (C1 := 0) (C2 := C) (S1 := 0) (S2 := S) d_La_law_961 rfl w_1495 w_1496 w_1497 jm_0 k_Mo_book (Nat.le_of_ble_eq_true rfl) rfl (Nat.le_of_ble_eq_true rfl) (by decide) (Nat.zero_add _).symm (Nat.zero_add _).symm ?_
    refine hq _ (fun I' A' L' hJ' => ?_)
    refine wp_icmp_eq (t := 1386) d_La_law_964 (by decide) (fun c_964 => ?_) (fun c_964 => absurd rfl c_964)
    exact kk _ _ _ _ _ hJ'
theorem la_c_looked (h1 : vp_in (i + 1) G.2.2.2.2.1) (h2 : vp_in (i + 2) G.2.2.2.2.1) (h3 : vp_in (i + 3) G.2.2.2.2.1) (h4 : vp_in (i + 4) G.2.2.2.2.1) (h5 : vp_in (i + 5) G.2.2.2.2.1) (hJ : JI K I A L r) (kk : ∀ (K2 : tc_K) (I2 : Nat → Int32) (A2 : Nat → Nat → Int32) (L2 : Nat → Nat → Int64) (r2 : tc_r), JI K2 I2 A2 L2 r2 → px_W G 30 C S (m_La nm) 1386 (la_ls i) [] (HT K2 (JM I2 A2 L2) r2) Q) : px_W G 30 C S (m_La nm) 969 (la_ls i) [] (HT K (JM I A L) r) Q := by
  refine wp_aload_n d_La_law_969 rfl rfl rfl ?_
  refine wp_aload_n d_La_law_970 rfl rfl rfl ?_
  refine wp_iload_n d_La_law_971 rfl rfl ?_
  refine wp_iconst (v := 1) d_La_law_972 rfl ?_
  refine wp_iadd d_La_law_973 ?_
  refine wp_sld d_La_law_974 h1 ?_
  refine wp_callV (r := (R_0, T_0, 11)) (M' := m_TC_looked) (as := [_]) (D' := 24) (C1 := 0) (C2 := C) (S1 := 0) (S2 := S) d_La_law_975 rfl w_832 w_833 w_834 tt_0 k_TC_looked (Nat.le_of_ble_eq_true rfl) rfl (Nat.le_of_ble_eq_true rfl) (by decide) (Nat.zero_add _).symm (Nat.zero_add _).symm ?_
  refine jp_looked (Nat.le_refl 24) hJ (fun v K2 r2 hq => ?_)
  refine wp_aload_n d_La_law_978 rfl rfl rfl ?_
  refine wp_aload_n d_La_law_979 rfl rfl rfl ?_
  refine wp_iload_n d_La_law_980 rfl rfl ?_
  refine wp_iconst (v := 1) d_La_law_981 rfl ?_
  refine wp_iadd d_La_law_982 ?_
  refine wp_sld d_La_law_983 h1 ?_
  refine wp_callV (r := (R_12, T_12, 70)) (M' := m_Mo_looked) (as := [_]) (D' := 20) (C1 := 0) (C2 := C) (S1 := 0) (S2 := S) d_La_law_984 rfl w_1499 w_1500 w_1501 jm_0 k_Mo_looked (Nat.le_of_ble_eq_true rfl) rfl (Nat.le_of_ble_eq_true rfl) (by decide) (Nat.zero_add _).symm (Nat.zero_add _).symm ?_
  refine hq _ (fun I' A' L' hJ' => ?_)
  refine wp_icmp_eq (t := 1386) d_La_law_987 (by decide) (fun c_987 => ?_) (fun c_987 => absurd rfl c_987)
  exact kk _ _ _ _ _ hJ'
theorem la_c_judge (h1 : vp_in (i + 1) G.2.2.2.2.1) (h2 : vp_in (i + 2) G.2.2.2.2.1) (h3 : vp_in (i + 3) G.2.2.2.2.1) (h4 : vp_in (i + 4) G.2.2.2.2.1) (h5 : vp_in (i + 5) G.2.2.2.2.1) (hJ : JI K I A L r) (kk : ∀ (K2 : tc_K) (I2 : Nat → Int32) (A2 : Nat → Nat → Int32) (L2 : Nat → Nat → Int64) (r2 : tc_r), JI K2 I2 A2 L2 r2 → px_W G 30 C S (m_La nm) 1386 (la_ls i) [] (HT K2 (JM I2 A2 L2) r2) Q) : px_W G 30 C S (m_La nm) 992 (la_ls i) [] (HT K (JM I A L) r) Q := by
  refine wp_aload_n d_La_law_992 rfl rfl rfl ?_
  refine wp_aload_n d_La_law_993 rfl rfl rfl ?_
  refine wp_iload_n d_La_law_994 rfl rfl ?_
  refine wp_iconst (v := 1) d_La_law_995 rfl ?_
  refine wp_iadd d_La_law_996 ?_
  refine wp_sld d_La_law_997 h1 ?_
  refine wp_aload_n d_La_law_998 rfl rfl rfl ?_
  refine wp_iload_n d_La_law_999 rfl rfl ?_
  refine wp_iconst (v := 2) d_La_law_1000 rfl ?_
  refine wp_iadd d_La_law_1001 ?_
  refine wp_sld d_La_law_1002 h2 ?_
  refine wp_callV (r := (R_0, T_0, 11)) (M' := m_TC_judge) (as := [_, _]) (D' := 24) (C1 := 0) (C2 := C) (S1 := 0) (S2 := S) d_La_law_1003 rfl w_836 w_837 w_838 tt_0 k_TC_judge (Nat.le_of_ble_eq_true rfl) rfl (Nat.le_of_ble_eq_true rfl) (by decide) (Nat.zero_add _).symm (Nat.zero_add _).symm ?_
  refine jp_judge (Nat.le_refl 24) hJ (fun v K2 r2 hq => ?_)
  refine wp_aload_n d_La_law_1006 rfl rfl rfl ?_
  refine wp_aload_n d_La_law_1007 rfl rfl rfl ?_
  refine wp_iload_n d_La_law_1008 rfl rfl ?_
  refine wp_iconst (v := 1) d_La_law_1009 rfl ?_
  refine wp_iadd d_La_law_1010 ?_
  refine wp_sld d_La_law_1011 h1 ?_
  refine wp_aload_n d_La_law_1012 rfl rfl rfl ?_
  refine wp_iload_n d_La_law_1013 rfl rfl ?_
  refine wp_iconst (v := 2) d_La_law_1014 rfl ?_
  refine wp_iadd d_La_law_1015 ?_
  refine wp_sld d_La_law_1016 h2 ?_
  refine wp_callV (r := (R_12, T_12, 70)) (M' := m_Mo_judge) (as := [_, _]) (D' := 20) (C1 := 0) (C2 := C) (S1 := 0) (S2 := S) d_La_law_1017 rfl w_1503 w_1504 w_1505 jm_0 k_Mo_judge (Nat.le_of_ble_eq_true rfl) rfl (Nat.le_of_ble_eq_true rfl) (by decide) (Nat.zero_add _).symm (Nat.zero_add _).symm ?_
  refine hq _ (fun I' A' L' hJ' => ?_)
  refine wp_icmp_eq (t := 1386) d_La_law_1020 (by decide) (fun c_1020 => ?_) (fun c_1020 => absurd rfl c_1020)
  exact kk _ _ _ _ _ hJ'
theorem la_c_image (h1 : vp_in (i + 1) G.2.2.2.2.1) (h2 : vp_in (i + 2) G.2.2.2.2.1) (h3 : vp_in (i + 3) G.2.2.2.2.1) (h4 : vp_in (i + 4) G.2.2.2.2.1) (h5 : vp_in (i + 5) G.2.2.2.2.1) (hJ : JI K I A L r) (kk : ∀ (K2 : tc_K) (I2 : Nat → Int32) (A2 : Nat → Nat → Int32) (L2 : Nat → Nat → Int64) (r2 : tc_r), JI K2 I2 A2 L2 r2 → px_W G 30 C S (m_La nm) 1386 (la_ls i) [] (HT K2 (JM I2 A2 L2) r2) Q) : px_W G 30 C S (m_La nm) 1025 (la_ls i) [] (HT K (JM I A L) r) Q := by
  refine wp_aload_n d_La_law_1025 rfl rfl rfl ?_
  refine wp_callV (r := (R_0, T_0, 11)) (M' := m_TC_image) (as := []) (D' := 24) (C1 := 0) (C2 := C) (S1 := 0) (S2 := S) d_La_law_1026 rfl w_843 w_844 w_845 tt_0 k_TC_image (Nat.le_of_ble_eq_true rfl) rfl (Nat.le_of_ble_eq_true rfl) (by decide) (Nat.zero_add _).symm (Nat.zero_add _).symm ?_
  refine jp_image (Nat.le_refl 24) hJ (fun v K2 r2 hq => ?_)
  refine wp_aload_n d_La_law_1029 rfl rfl rfl ?_
  refine wp_callV (r := (R_12, T_12, 70)) (M' := m_Mo_image) (as := []) (D' := 20) (C1 := 0) (C2 := C) (S1 := 0) (S2 := S) d_La_law_1030 rfl w_1511 w_1512 w_1513 jm_0 k_Mo_image (Nat.le_of_ble_eq_true rfl) rfl (Nat.le_of_ble_eq_true rfl) (by decide) (Nat.zero_add _).symm (Nat.zero_add _).symm ?_
  refine hq _ (fun I' A' L' hJ' => ?_)
  refine wp_icmp_eq (t := 1386) d_La_law_1033 (by decide) (fun c_1033 => ?_) (fun c_1033 => absurd rfl c_1033)
  exact kk _ _ _ _ _ hJ'
theorem la_c_undo (h1 : vp_in (i + 1) G.2.2.2.2.1) (h2 : vp_in (i + 2) G.2.2.2.2.1) (h3 : vp_in (i + 3) G.2.2.2.2.1) (h4 : vp_in (i + 4) G.2.2.2.2.1) (h5 : vp_in (i + 5) G.2.2.2.2.1) (hJ : JI K I A L r) (kk : ∀ (K2 : tc_K) (I2 : Nat → Int32) (A2 : Nat → Nat → Int32) (L2 : Nat → Nat → Int64) (r2 : tc_r), JI K2 I2 A2 L2 r2 → px_W G 30 C S (m_La nm) 1386 (la_ls i) [] (HT K2 (JM I2 A2 L2) r2) Q) : px_W G 30 C S (m_La nm) 1038 (la_ls i) [] (HT K (JM I A L) r) Q := by
  refine wp_aload_n d_La_law_1038 rfl rfl rfl ?_
  refine wp_callV (r := (R_0, T_0, 11)) (M' := m_TC_undo) (as := []) (D' := 24) (C1 := 0) (C2 := C) (S1 := 0) (S2 := S) d_La_law_1039 rfl w_852 w_853 w_854 tt_0 k_TC_undo (Nat.le_of_ble_eq_true rfl) rfl (Nat.le_of_ble_eq_true rfl) (by decide) (Nat.zero_add _).symm (Nat.zero_add _).symm ?_
  refine jp_undo (Nat.le_refl 24) hJ (fun v K2 r2 hq => ?_)
  refine wp_aload_n d_La_law_1042 rfl rfl rfl ?_
  refine wp_callV (r := (R_12, T_12, 70)) (M' := m_Mo_undo) (as := []) (D' := 20) (C1 := 0) (C2 := C) (S1 := 0) (S2 := S) d_La_law_1043 rfl w_1515 w_1516 w_1517 jm_0 k_Mo_undo (Nat.le_of_ble_eq_true rfl) rfl (Nat.le_of_ble_eq_true rfl) (by decide) (Nat.zero_add _).symm (Nat.zero_add _).symm ?_
  refine hq _ (fun I' A' L' hJ' => ?_)
  refine wp_icmp_eq (t := 1386) d_La_law_1046 (by decide) (fun c_1046 => ?_) (fun c_1046 => absurd rfl c_1046)
  exact kk _ _ _ _ _ hJ'
theorem la_c_act (h1 : vp_in (i + 1) G.2.2.2.2.1) (h2 : vp_in (i + 2) G.2.2.2.2.1) (h3 : vp_in (i + 3) G.2.2.2.2.1) (h4 : vp_in (i + 4) G.2.2.2.2.1) (h5 : vp_in (i + 5) G.2.2.2.2.1) (hJ : JI K I A L r) (kk : ∀ (K2 : tc_K) (I2 : Nat → Int32) (A2 : Nat → Nat → Int32) (L2 : Nat → Nat → Int64) (r2 : tc_r), JI K2 I2 A2 L2 r2 → px_W G 30 C S (m_La nm) 1386 (la_ls i) [] (HT K2 (JM I2 A2 L2) r2) Q) : px_W G 30 C S (m_La nm) 1051 (la_ls i) [] (HT K (JM I A L) r) Q := by
  refine wp_aload_n d_La_law_1051 rfl rfl rfl ?_
  refine wp_aload_n d_La_law_1052 rfl rfl rfl ?_
  refine wp_iload_n d_La_law_1053 rfl rfl ?_
  refine wp_iconst (v := 1) d_La_law_1054 rfl ?_
  refine wp_iadd d_La_law_1055 ?_
  refine wp_sld d_La_law_1056 h1 ?_
  refine wp_aload_n d_La_law_1057 rfl rfl rfl ?_
  refine wp_iload_n d_La_law_1058 rfl rfl ?_
  refine wp_iconst (v := 2) d_La_law_1059 rfl ?_
  refine wp_iadd d_La_law_1060 ?_
  refine wp_sld d_La_law_1061 h2 ?_
  refine wp_aload_n d_La_law_1062 rfl rfl rfl ?_
  refine wp_iload_n d_La_law_1063 rfl rfl ?_
  refine wp_iconst (v := 3) d_La_law_1064 rfl ?_
  refine wp_iadd d_La_law_1065 ?_
  refine wp_sld d_La_law_1066 h3 ?_
  refine wp_callV (r := (R_0, T_0, 11)) (M' := m_TC_act) (as := [_, _, _]) (D' := 24) (C1 := 0) (C2 := C) (S1 := 0) (S2 := S) d_La_law_1067 rfl w_856 w_857 w_858 tt_0 k_TC_act (Nat.le_of_ble_eq_true rfl) rfl (Nat.le_of_ble_eq_true rfl) (by decide) (Nat.zero_add _).symm (Nat.zero_add _).symm ?_
  refine jp_act (Nat.le_refl 24) hJ (fun v K2 r2 hq => ?_)
  refine wp_aload_n d_La_law_1070 rfl rfl rfl ?_
  refine wp_aload_n d_La_law_1071 rfl rfl rfl ?_
  refine wp_iload_n d_La_law_1072 rfl rfl ?_
  refine wp_iconst (v := 1) d_La_law_1073 rfl ?_
  refine wp_iadd d_La_law_1074 ?_
  refine wp_sld d_La_law_1075 h1 ?_
  refine wp_aload_n d_La_law_1076 rfl rfl rfl ?_
  refine wp_iload_n d_La_law_1077 rfl rfl ?_
  refine wp_iconst (v := 2) d_La_law_1078 rfl ?_
  refine wp_iadd d_La_law_1079 ?_
  refine wp_sld d_La_law_1080 h2 ?_
  refine wp_aload_n d_La_law_1081 rfl rfl rfl ?_
  refine wp_iload_n d_La_law_1082 rfl rfl ?_
  refine wp_iconst (v := 3) d_La_law_1083 rfl ?_
  refine wp_iadd d_La_law_1084 ?_
  refine wp_sld d_La_law_1085 h3 ?_
  refine wp_callV (r := (R_12, T_12, 70)) (M' := m_Mo_act) (as := [_, _, _]) (D' := 20) (C1 := 0) (C2 := C) (S1 := 0) (S2 := S) d_La_law_1086 rfl w_1519 w_1520 w_1521 jm_0 k_Mo_act (Nat.le_of_ble_eq_true rfl) rfl (Nat.le_of_ble_eq_true rfl) (by decide) (Nat.zero_add _).symm (Nat.zero_add _).symm ?_
  refine hq _ (fun I' A' L' hJ' => ?_)
  refine wp_icmp_eq (t := 1386) d_La_law_1089 (by decide) (fun c_1089 => ?_) (fun c_1089 => absurd rfl c_1089)
  exact kk _ _ _ _ _ hJ'
theorem la_c_trace (h1 : vp_in (i + 1) G.2.2.2.2.1) (h2 : vp_in (i + 2) G.2.2.2.2.1) (h3 : vp_in (i + 3) G.2.2.2.2.1) (h4 : vp_in (i + 4) G.2.2.2.2.1) (h5 : vp_in (i + 5) G.2.2.2.2.1) (hJ : JI K I A L r) (kk : ∀ (K2 : tc_K) (I2 : Nat → Int32) (A2 : Nat → Nat → Int32) (L2 : Nat → Nat → Int64) (r2 : tc_r), JI K2 I2 A2 L2 r2 → px_W G 30 C S (m_La nm) 1386 (la_ls i) [] (HT K2 (JM I2 A2 L2) r2) Q) : px_W G 30 C S (m_La nm) 1094 (la_ls i) [] (HT K (JM I A L) r) Q := by
  refine wp_aload_n d_La_law_1094 rfl rfl rfl ?_
  refine wp_aload_n d_La_law_1095 rfl rfl rfl ?_
  refine wp_iload_n d_La_law_1096 rfl rfl ?_
  refine wp_iconst (v := 1) d_La_law_1097 rfl ?_
  refine wp_iadd d_La_law_1098 ?_
  refine wp_sld d_La_law_1099 h1 ?_
  refine wp_callV (r := (R_0, T_0, 11)) (M' := m_TC_trace) (as := [_]) (D' := 24) (C1 := 0) (C2 := C) (S1 := 0) (S2 := S) d_La_law_1100 rfl w_944 w_945 w_946 tt_0 k_TC_trace (Nat.le_of_ble_eq_true rfl) rfl (Nat.le_of_ble_eq_true rfl) (by decide) (Nat.zero_add _).symm (Nat.zero_add _).symm ?_
  refine jp_trace (Nat.le_refl 24) hJ (fun v K2 r2 hq => ?_)
  refine wp_aload_n d_La_law_1103 rfl rfl rfl ?_
  refine wp_aload_n d_La_law_1104 rfl rfl rfl ?_
  refine wp_iload_n d_La_law_1105 rfl rfl ?_
  refine wp_iconst (v := 1) d_La_law_1106 rfl ?_
  refine wp_iadd d_La_law_1107 ?_
  refine wp_sld d_La_law_1108 h1 ?_
  refine wp_callV (r := (R_12, T_12, 70)) (M' := m_Mo_trace) (as := [_]) (D' := 20) (C1 := 0) (C2 := C) (S1 := 0) (S2 := S) d_La_law_1109 rfl w_1555 w_1556 w_1557 jm_0 k_Mo_trace (Nat.le_of_ble_eq_true rfl) rfl (Nat.le_of_ble_eq_true rfl) (by decide) (Nat.zero_add _).symm (Nat.zero_add _).symm ?_
  refine hq _ (fun I' A' L' hJ' => ?_)
  refine wp_icmp_eq (t := 1386) d_La_law_1112 (by decide) (fun c_1112 => ?_) (fun c_1112 => absurd rfl c_1112)
  exact kk _ _ _ _ _ hJ'
theorem la_c_taken (h1 : vp_in (i + 1) G.2.2.2.2.1) (h2 : vp_in (i + 2) G.2.2.2.2.1) (h3 : vp_in (i + 3) G.2.2.2.2.1) (h4 : vp_in (i + 4) G.2.2.2.2.1) (h5 : vp_in (i + 5) G.2.2.2.2.1) (hJ : JI K I A L r) (kk : ∀ (K2 : tc_K) (I2 : Nat → Int32) (A2 : Nat → Nat → Int32) (L2 : Nat → Nat → Int64) (r2 : tc_r), JI K2 I2 A2 L2 r2 → px_W G 30 C S (m_La nm) 1386 (la_ls i) [] (HT K2 (JM I2 A2 L2) r2) Q) : px_W G 30 C S (m_La nm) 1117 (la_ls i) [] (HT K (JM I A L) r) Q := by
  refine wp_aload_n d_La_law_1117 rfl rfl rfl ?_
  refine wp_aload_n d_La_law_1118 rfl rfl rfl ?_
  refine wp_iload_n d_La_law_1119 rfl rfl ?_
  refine wp_iconst (v := 1) d_La_law_1120 rfl ?_
  refine wp_iadd d_La_law_1121 ?_
  refine wp_sld d_La_law_1122 h1 ?_
  refine wp_aload_n d_La_law_1123 rfl rfl rfl ?_
  refine wp_iload_n d_La_law_1124 rfl rfl ?_
  refine wp_iconst (v := 2) d_La_law_1125 rfl ?_
  refine wp_iadd d_La_law_1126 ?_
  refine wp_sld d_La_law_1127 h2 ?_
  refine wp_callV (r := (R_0, T_0, 11)) (M' := m_TC_taken) (as := [_, _]) (D' := 24) (C1 := 0) (C2 := C) (S1 := 0) (S2 := S) d_La_law_1128 rfl w_948 w_949 w_950 tt_0 k_TC_taken (Nat.le_of_ble_eq_true rfl) rfl (Nat.le_of_ble_eq_true rfl) (by decide) (Nat.zero_add _).symm (Nat.zero_add _).symm ?_
  refine jp_taken (Nat.le_refl 24) hJ (fun v K2 r2 hq => ?_)
  refine wp_aload_n d_La_law_1131 rfl rfl rfl ?_
  refine wp_aload_n d_La_law_1132 rfl rfl rfl ?_
  refine wp_iload_n d_La_law_1133 rfl rfl ?_
  refine wp_iconst (v := 1) d_La_law_1134 rfl ?_
  refine wp_iadd d_La_law_1135 ?_
  refine wp_sld d_La_law_1136 h1 ?_
  refine wp_aload_n d_La_law_1137 rfl rfl rfl ?_
  refine wp_iload_n d_La_law_1138 rfl rfl ?_
  refine wp_iconst (v := 2) d_La_law_1139 rfl ?_
  refine wp_iadd d_La_law_1140 ?_
  refine wp_sld d_La_law_1141 h2 ?_
  refine wp_callV (r := (R_12, T_12, 70)) (M' := m_Mo_taken) (as := [_, _]) (D' := 20) (C1 := 0) (C2 := C) (S1 := 0) (S2 := S) d_La_law_1142 rfl w_1559 w_1560 w_1561 jm_0 k_Mo_taken (Nat.le_of_ble_eq_true rfl) rfl (Nat.le_of_ble_eq_true rfl) (by decide) (Nat.zero_add _).symm (Nat.zero_add _).symm ?_
  refine hq _ (fun I' A' L' hJ' => ?_)
  refine wp_icmp_eq (t := 1386) d_La_law_1145 (by decide) (fun c_1145 => ?_) (fun c_1145 => absurd rfl c_1145)
  exact kk _ _ _ _ _ hJ'
theorem la_c_count (h1 : vp_in (i + 1) G.2.2.2.2.1) (h2 : vp_in (i + 2) G.2.2.2.2.1) (h3 : vp_in (i + 3) G.2.2.2.2.1) (h4 : vp_in (i + 4) G.2.2.2.2.1) (h5 : vp_in (i + 5) G.2.2.2.2.1) (hJ : JI K I A L r) (kk : ∀ (K2 : tc_K) (I2 : Nat → Int32) (A2 : Nat → Nat → Int32) (L2 : Nat → Nat → Int64) (r2 : tc_r), JI K2 I2 A2 L2 r2 → px_W G 30 C S (m_La nm) 1386 (la_ls i) [] (HT K2 (JM I2 A2 L2) r2) Q) : px_W G 30 C S (m_La nm) 1150 (la_ls i) [] (HT K (JM I A L) r) Q := by
  refine wp_aload_n d_La_law_1150 rfl rfl rfl ?_
  refine wp_aload_n d_La_law_1151 rfl rfl rfl ?_
  refine wp_iload_n d_La_law_1152 rfl rfl ?_
  refine wp_iconst (v := 1) d_La_law_1153 rfl ?_
  refine wp_iadd d_La_law_1154 ?_
  refine wp_sld d_La_law_1155 h1 ?_
  refine wp_callV (r := (R_0, T_0, 11)) (M' := m_TC_count) (as := [_]) (D' := 24) (C1 := 0) (C2 := C) (S1 := 0) (S2 := S) d_La_law_1156 rfl w_952 w_953 w_954 tt_0 k_TC_count (Nat.le_of_ble_eq_true rfl) rfl (Nat.le_of_ble_eq_true rfl) (by decide) (Nat.zero_add _).symm (Nat.zero_add _).symm ?_
  refine jp_count (Nat.le_refl 24) hJ (fun v K2 r2 hq => ?_)
  refine wp_aload_n d_La_law_1159 rfl rfl rfl ?_
  refine wp_aload_n d_La_law_1160 rfl rfl rfl ?_
  refine wp_iload_n d_La_law_1161 rfl rfl ?_
  refine wp_iconst (v := 1) d_La_law_1162 rfl ?_
  refine wp_iadd d_La_law_1163 ?_
  refine wp_sld d_La_law_1164 h1 ?_
  refine wp_callV (r := (R_12, T_12, 70)) (M' := m_Mo_count) (as := [_]) (D' := 20) (C1 := 0) (C2 := C) (S1 := 0) (S2 := S) d_La_law_1165 rfl w_1563 w_1564 w_1565 jm_0 k_Mo_count (Nat.le_of_ble_eq_true rfl) rfl (Nat.le_of_ble_eq_true rfl) (by decide) (Nat.zero_add _).symm (Nat.zero_add _).symm ?_
  refine hq _ (fun I' A' L' hJ' => ?_)
  refine wp_icmp_eq (t := 1386) d_La_law_1168 (by decide) (fun c_1168 => ?_) (fun c_1168 => absurd rfl c_1168)
  exact kk _ _ _ _ _ hJ'
theorem la_c_tape (h1 : vp_in (i + 1) G.2.2.2.2.1) (h2 : vp_in (i + 2) G.2.2.2.2.1) (h3 : vp_in (i + 3) G.2.2.2.2.1) (h4 : vp_in (i + 4) G.2.2.2.2.1) (h5 : vp_in (i + 5) G.2.2.2.2.1) (hJ : JI K I A L r) (kk : ∀ (K2 : tc_K) (I2 : Nat → Int32) (A2 : Nat → Nat → Int32) (L2 : Nat → Nat → Int64) (r2 : tc_r), JI K2 I2 A2 L2 r2 → px_W G 30 C S (m_La nm) 1386 (la_ls i) [] (HT K2 (JM I2 A2 L2) r2) Q) : px_W G 30 C S (m_La nm) 1173 (la_ls i) [] (HT K (JM I A L) r) Q := by
  refine wp_aload_n d_La_law_1173 rfl rfl rfl ?_
  refine wp_aload_n d_La_law_1174 rfl rfl rfl ?_
  refine wp_iload_n d_La_law_1175 rfl rfl ?_
  refine wp_iconst (v := 1) d_La_law_1176 rfl ?_
  refine wp_iadd d_La_law_1177 ?_
  refine wp_sld d_La_law_1178 h1 ?_
  refine wp_aload_n d_La_law_1179 rfl rfl rfl ?_
  refine wp_iload_n d_La_law_1180 rfl rfl ?_
  refine wp_iconst (v := 2) d_La_law_1181 rfl ?_
  refine wp_iadd d_La_law_1182 ?_
  refine wp_sld d_La_law_1183 h2 ?_
  refine wp_aload_n d_La_law_1184 rfl rfl rfl ?_
  refine wp_iload_n d_La_law_1185 rfl rfl ?_
  refine wp_iconst (v := 3) d_La_law_1186 rfl ?_
  refine wp_iadd d_La_law_1187 ?_
  refine wp_sld d_La_law_1188 h3 ?_
  refine wp_callV (r := (R_0, T_0, 11)) (M' := m_TC_tape) (as := [_, _, _]) (D' := 24) (C1 := 0) (C2 := C) (S1 := 0) (S2 := S) d_La_law_1189 rfl w_956 w_957 w_958 tt_0 k_TC_tape (Nat.le_of_ble_eq_true rfl) rfl (Nat.le_of_ble_eq_true rfl) (by decide) (Nat.zero_add _).symm (Nat.zero_add _).symm ?_
  refine jp_tape (Nat.le_refl 24) hJ (fun v K2 r2 hq => ?_)
  refine wp_aload_n d_La_law_1192 rfl rfl rfl ?_
  refine wp_aload_n d_La_law_1193 rfl rfl rfl ?_
  refine wp_iload_n d_La_law_1194 rfl rfl ?_
  refine wp_iconst (v := 1) d_La_law_1195 rfl ?_
  refine wp_iadd d_La_law_1196 ?_
  refine wp_sld d_La_law_1197 h1 ?_
  refine wp_aload_n d_La_law_1198 rfl rfl rfl ?_
  refine wp_iload_n d_La_law_1199 rfl rfl ?_
  refine wp_iconst (v := 2) d_La_law_1200 rfl ?_
  refine wp_iadd d_La_law_1201 ?_
  refine wp_sld d_La_law_1202 h2 ?_
  refine wp_aload_n d_La_law_1203 rfl rfl rfl ?_
  refine wp_iload_n d_La_law_1204 rfl rfl ?_
  refine wp_iconst (v := 3) d_La_law_1205 rfl ?_
  refine wp_iadd d_La_law_1206 ?_
  refine wp_sld d_La_law_1207 h3 ?_
  refine wp_callV (r := (R_12, T_12, 70)) (M' := m_Mo_tape) (as := [_, _, _]) (D' := 20) (C1 := 0) (C2 := C) (S1 := 0) (S2 := S) d_La_law_1208 rfl w_1567 w_1568 w_1569 jm_0 k_Mo_tape (Nat.le_of_ble_eq_true rfl) rfl (Nat.le_of_ble_eq_true rfl) (by decide) (Nat.zero_add _).symm (Nat.zero_add _).symm ?_
  refine hq _ (fun I' A' L' hJ' => ?_)
  refine wp_icmp_eq (t := 1386) d_La_law_1211 (by decide) (fun c_1211 => ?_) (fun c_1211 => absurd rfl c_1211)
  exact kk _ _ _ _ _ hJ'
theorem la_c_item (h1 : vp_in (i + 1) G.2.2.2.2.1) (h2 : vp_in (i + 2) G.2.2.2.2.1) (h3 : vp_in (i + 3) G.2.2.2.2.1) (h4 : vp_in (i + 4) G.2.2.2.2.1) (h5 : vp_in (i + 5) G.2.2.2.2.1) (hJ : JI K I A L r) (kk : ∀ (K2 : tc_K) (I2 : Nat → Int32) (A2 : Nat → Nat → Int32) (L2 : Nat → Nat → Int64) (r2 : tc_r), JI K2 I2 A2 L2 r2 → px_W G 30 C S (m_La nm) 1386 (la_ls i) [] (HT K2 (JM I2 A2 L2) r2) Q) : px_W G 30 C S (m_La nm) 1216 (la_ls i) [] (HT K (JM I A L) r) Q := by
  refine wp_aload_n d_La_law_1216 rfl rfl rfl ?_
  refine wp_aload_n d_La_law_1217 rfl rfl rfl ?_
  refine wp_iload_n d_La_law_1218 rfl rfl ?_
  refine wp_iconst (v := 1) d_La_law_1219 rfl ?_
  refine wp_iadd d_La_law_1220 ?_
  refine wp_sld d_La_law_1221 h1 ?_
  refine wp_aload_n d_La_law_1222 rfl rfl rfl ?_
  refine wp_iload_n d_La_law_1223 rfl rfl ?_
  refine wp_iconst (v := 2) d_La_law_1224 rfl ?_
  refine wp_iadd d_La_law_1225 ?_
  refine wp_sld d_La_law_1226 h2 ?_
  refine wp_aload_n d_La_law_1227 rfl rfl rfl ?_
  refine wp_iload_n d_La_law_1228 rfl rfl ?_
  refine wp_iconst (v := 3) d_La_law_1229 rfl ?_
  refine wp_iadd d_La_law_1230 ?_
  refine wp_sld d_La_law_1231 h3 ?_
  refine wp_i2l d_La_law_1232 ?_
  refine wp_bipush (v := 32) d_La_law_1233 (by decide) ?_
  refine wp_lshl d_La_law_1235 ?_
  refine wp_aload_n d_La_law_1236 rfl rfl rfl ?_
  refine wp_iload_n d_La_law_1237 rfl rfl ?_
  refine wp_iconst (v := 4) d_La_law_1238 rfl ?_
  refine wp_iadd d_La_law_1239 ?_
  refine wp_sld d_La_law_1240 h4 ?_
  refine wp_i2l d_La_law_1241 ?_
  refine wp_ldc2 d_La_law_1242 w_1587 ?_
  refine wp_land d_La_law_1245 ?_
  refine wp_lor d_La_law_1246 ?_
  refine wp_callV (r := (R_0, T_0, 11)) (M' := m_TC_item) (as := [_, _, _]) (D' := 24) (C1 := 0) (C2 := C) (S1 := 0) (S2 := S) d_La_law_1247 rfl w_967 w_968 w_969 tt_0 k_TC_item (Nat.le_of_ble_eq_true rfl) rfl (Nat.le_of_ble_eq_true rfl) (by decide) (Nat.zero_add _).symm (Nat.zero_add _).symm ?_
  refine jp_item (Nat.le_refl 24) hJ (fun v K2 r2 hq => ?_)
  refine wp_aload_n d_La_law_1250 rfl rfl rfl ?_
  refine wp_aload_n d_La_law_1251 rfl rfl rfl ?_
  refine wp_iload_n d_La_law_1252 rfl rfl ?_
  refine wp_iconst (v := 1) d_La_law_1253 rfl ?_
  refine wp_iadd d_La_law_1254 ?_
  refine wp_sld d_La_law_1255 h1 ?_
  refine wp_aload_n d_La_law_1256 rfl rfl rfl ?_
  refine wp_iload_n d_La_law_1257 rfl rfl ?_
  refine wp_iconst (v := 2) d_La_law_1258 rfl ?_
  refine wp_iadd d_La_law_1259 ?_
  refine wp_sld d_La_law_1260 h2 ?_
  refine wp_aload_n d_La_law_1261 rfl rfl rfl ?_
  refine wp_iload_n d_La_law_1262 rfl rfl ?_
  refine wp_iconst (v := 3) d_La_law_1263 rfl ?_
  refine wp_iadd d_La_law_1264 ?_
  refine wp_sld d_La_law_1265 h3 ?_
  refine wp_i2l d_La_law_1266 ?_
  refine wp_bipush (v := 32) d_La_law_1267 (by decide) ?_
  refine wp_lshl d_La_law_1269 ?_
  refine wp_aload_n d_La_law_1270 rfl rfl rfl ?_
  refine wp_iload_n d_La_law_1271 rfl rfl ?_
  refine wp_iconst (v := 4) d_La_law_1272 rfl ?_
  refine wp_iadd d_La_law_1273 ?_
  refine wp_sld d_La_law_1274 h4 ?_
  refine wp_i2l d_La_law_1275 ?_
  refine wp_ldc2 d_La_law_1276 w_1587 ?_
  refine wp_land d_La_law_1279 ?_
  refine wp_lor d_La_law_1280 ?_
  refine wp_callV (r := (R_12, T_12, 70)) (M' := m_Mo_item) (as := [_, _, _]) (D' := 20) (C1 := 0) (C2 := C) (S1 := 0) (S2 := S) d_La_law_1281 rfl w_1571 w_1572 w_1573 jm_0 k_Mo_item (Nat.le_of_ble_eq_true rfl) rfl (Nat.le_of_ble_eq_true rfl) (by decide) (Nat.zero_add _).symm (Nat.zero_add _).symm ?_
  refine hq _ (fun I' A' L' hJ' => ?_)
  refine wp_icmp_eq (t := 1386) d_La_law_1284 (by decide) (fun c_1284 => ?_) (fun c_1284 => absurd rfl c_1284)
  exact kk _ _ _ _ _ hJ'
theorem la_c_read (h1 : vp_in (i + 1) G.2.2.2.2.1) (h2 : vp_in (i + 2) G.2.2.2.2.1) (h3 : vp_in (i + 3) G.2.2.2.2.1) (h4 : vp_in (i + 4) G.2.2.2.2.1) (h5 : vp_in (i + 5) G.2.2.2.2.1) (hJ : JI K I A L r) (kk : ∀ (K2 : tc_K) (I2 : Nat → Int32) (A2 : Nat → Nat → Int32) (L2 : Nat → Nat → Int64) (r2 : tc_r), JI K2 I2 A2 L2 r2 → px_W G 30 C S (m_La nm) 1386 (la_ls i) [] (HT K2 (JM I2 A2 L2) r2) Q) : px_W G 30 C S (m_La nm) 1289 (la_ls i) [] (HT K (JM I A L) r) Q := by
  refine wp_aload_n d_La_law_1289 rfl rfl rfl ?_
  refine wp_aload_n d_La_law_1290 rfl rfl rfl ?_
  refine wp_iload_n d_La_law_1291 rfl rfl ?_
  refine wp_iconst (v := 1) d_La_law_1292 rfl ?_
  refine wp_iadd d_La_law_1293 ?_
  refine wp_sld d_La_law_1294 h1 ?_
  refine wp_aload_n d_La_law_1295 rfl rfl rfl ?_
  refine wp_iload_n d_La_law_1296 rfl rfl ?_
  refine wp_iconst (v := 2) d_La_law_1297 rfl ?_
  refine wp_iadd d_La_law_1298 ?_
  refine wp_sld d_La_law_1299 h2 ?_
  refine wp_callV (r := (R_0, T_0, 11)) (M' := m_TC_read) (as := [_, _]) (D' := 24) (C1 := 0) (C2 := C) (S1 := 0) (S2 := S) d_La_law_1300 rfl w_975 w_976 w_977 tt_0 k_TC_read (Nat.le_of_ble_eq_true rfl) rfl (Nat.le_of_ble_eq_true rfl) (by decide) (Nat.zero_add _).symm (Nat.zero_add _).symm ?_
  refine jp_read (Nat.le_refl 24) hJ (fun v K2 r2 hq => ?_)
  refine wp_aload_n d_La_law_1303 rfl rfl rfl ?_
  refine wp_aload_n d_La_law_1304 rfl rfl rfl ?_
  refine wp_iload_n d_La_law_1305 rfl rfl ?_
  refine wp_iconst (v := 1) d_La_law_1306 rfl ?_
  refine wp_iadd d_La_law_1307 ?_
  refine wp_sld d_La_law_1308 h1 ?_
  refine wp_aload_n d_La_law_1309 rfl rfl rfl ?_
  refine wp_iload_n d_La_law_1310 rfl rfl ?_
  refine wp_iconst (v := 2) d_La_law_1311 rfl ?_
  refine wp_iadd d_La_law_1312 ?_
  refine wp_sld d_La_law_1313 h2 ?_
  refine wp_callV (r := (R_12, T_12, 70)) (M' := m_Mo_read) (as := [_, _]) (D' := 20) (C1 := 0) (C2 := C) (S1 := 0) (S2 := S) d_La_law_1314 rfl w_1579 w_1580 w_1581 jm_0 k_Mo_read (Nat.le_of_ble_eq_true rfl) rfl (Nat.le_of_ble_eq_true rfl) (by decide) (Nat.zero_add _).symm (Nat.zero_add _).symm ?_
  refine hq _ (fun I' A' L' hJ' => ?_)
  refine wp_lcmp d_La_law_1317 ?_
  refine wp_if_eq (t := 1386) d_La_law_1318 (by decide) (fun c_1318 => ?_) (fun c_1318 => absurd (la_cmp _) c_1318)
  exact kk _ _ _ _ _ hJ'
theorem la_c_shift (h1 : vp_in (i + 1) G.2.2.2.2.1) (h2 : vp_in (i + 2) G.2.2.2.2.1) (h3 : vp_in (i + 3) G.2.2.2.2.1) (h4 : vp_in (i + 4) G.2.2.2.2.1) (h5 : vp_in (i + 5) G.2.2.2.2.1) (hJ : JI K I A L r) (kk : ∀ (K2 : tc_K) (I2 : Nat → Int32) (A2 : Nat → Nat → Int32) (L2 : Nat → Nat → Int64) (r2 : tc_r), JI K2 I2 A2 L2 r2 → px_W G 30 C S (m_La nm) 1386 (la_ls i) [] (HT K2 (JM I2 A2 L2) r2) Q) : px_W G 30 C S (m_La nm) 1323 (la_ls i) [] (HT K (JM I A L) r) Q := by
  refine wp_aload_n d_La_law_1323 rfl rfl rfl ?_
  refine wp_aload_n d_La_law_1324 rfl rfl rfl ?_
  refine wp_iload_n d_La_law_1325 rfl rfl ?_
  refine wp_iconst (v := 1) d_La_law_1326 rfl ?_
  refine wp_iadd d_La_law_1327 ?_
  refine wp_sld d_La_law_1328 h1 ?_
  refine wp_aload_n d_La_law_1329 rfl rfl rfl ?_
  refine wp_iload_n d_La_law_1330 rfl rfl ?_
  refine wp_iconst (v := 2) d_La_law_1331 rfl ?_
  refine wp_iadd d_La_law_1332 ?_
  refine wp_sld d_La_law_1333 h2 ?_
  refine wp_aload_n d_La_law_1334 rfl rfl rfl ?_
  refine wp_iload_n d_La_law_1335 rfl rfl ?_
  refine wp_iconst (v := 3) d_La_law_1336 rfl ?_
  refine wp_iadd d_La_law_1337 ?_
  refine wp_sld d_La_law_1338 h3 ?_
  refine wp_aload_n d_La_law_1339 rfl rfl rfl ?_
  refine wp_iload_n d_La_law_1340 rfl rfl ?_
  refine wp_iconst (v := 4) d_La_law_1341 rfl ?_
  refine wp_iadd d_La_law_1342 ?_
  refine wp_sld d_La_law_1343 h4 ?_
  refine wp_aload_n d_La_law_1344 rfl rfl rfl ?_
  refine wp_iload_n d_La_law_1345 rfl rfl ?_
  refine wp_iconst (v := 5) d_La_law_1346 rfl ?_
  refine wp_iadd d_La_law_1347 ?_
  refine wp_sld d_La_law_1348 h5 ?_
  refine wp_callV (r := (R_0, T_0, 11)) (M' := m_TC_shift) (as := [_, _, _, _, _]) (D' := 24) (C1 := 0) (C2 := C) (S1 := 0) (S2 := S) d_La_law_1349 rfl w_979 w_980 w_981 tt_0 k_TC_shift (Nat.le_of_ble_eq_true rfl) rfl (Nat.le_of_ble_eq_true rfl) (by decide) (Nat.zero_add _).symm (Nat.zero_add _).symm ?_
  refine jp_shift (Nat.le_refl 24) hJ (fun v K2 r2 hq => ?_)
  refine wp_aload_n d_La_law_1352 rfl rfl rfl ?_
  refine wp_aload_n d_La_law_1353 rfl rfl rfl ?_
  refine wp_iload_n d_La_law_1354 rfl rfl ?_
  refine wp_iconst (v := 1) d_La_law_1355 rfl ?_
  refine wp_iadd d_La_law_1356 ?_
  refine wp_sld d_La_law_1357 h1 ?_
  refine wp_aload_n d_La_law_1358 rfl rfl rfl ?_
  refine wp_iload_n d_La_law_1359 rfl rfl ?_
  refine wp_iconst (v := 2) d_La_law_1360 rfl ?_
  refine wp_iadd d_La_law_1361 ?_
  refine wp_sld d_La_law_1362 h2 ?_
  refine wp_aload_n d_La_law_1363 rfl rfl rfl ?_
  refine wp_iload_n d_La_law_1364 rfl rfl ?_
  refine wp_iconst (v := 3) d_La_law_1365 rfl ?_
  refine wp_iadd d_La_law_1366 ?_
  refine wp_sld d_La_law_1367 h3 ?_
  refine wp_aload_n d_La_law_1368 rfl rfl rfl ?_
  refine wp_iload_n d_La_law_1369 rfl rfl ?_
  refine wp_iconst (v := 4) d_La_law_1370 rfl ?_
  refine wp_iadd d_La_law_1371 ?_
  refine wp_sld d_La_law_1372 h4 ?_
  refine wp_aload_n d_La_law_1373 rfl rfl rfl ?_
  refine wp_iload_n d_La_law_1374 rfl rfl ?_
  refine wp_iconst (v := 5) d_La_law_1375 rfl ?_
  refine wp_iadd d_La_law_1376 ?_
  refine wp_sld d_La_law_1377 h5 ?_
  refine wp_callV (r := (R_12, T_12, 70)) (M' := m_Mo_shift) (as := [_, _, _, _, _]) (D' := 20) (C1 := 0) (C2 := C) (S1 := 0) (S2 := S) d_La_law_1378 rfl w_1583 w_1584 w_1585 jm_0 k_Mo_shift (Nat.le_of_ble_eq_true rfl) rfl (Nat.le_of_ble_eq_true rfl) (by decide) (Nat.zero_add _).symm (Nat.zero_add _).symm ?_
  refine hq _ (fun I' A' L' hJ' => ?_)
  refine wp_icmp_eq (t := 1386) d_La_law_1381 (by decide) (fun c_1381 => ?_) (fun c_1381 => absurd rfl c_1381)
  exact kk _ _ _ _ _ hJ'
theorem la_round (h0 : vp_in i G.2.2.2.2.1) (h1 : vp_in (i + 1) G.2.2.2.2.1) (h2 : vp_in (i + 2) G.2.2.2.2.1) (h3 : vp_in (i + 3) G.2.2.2.2.1) (h4 : vp_in (i + 4) G.2.2.2.2.1) (h5 : vp_in (i + 5) G.2.2.2.2.1) (hJ : JI K I A L r) (kk : ∀ (K2 : tc_K) (I2 : Nat → Int32) (A2 : Nat → Nat → Int32) (L2 : Nat → Nat → Int64) (r2 : tc_r), JI K2 I2 A2 L2 r2 → px_W G 30 C S (m_La nm) 1386 (la_ls i) [] (HT K2 (JM I2 A2 L2) r2) Q) : px_W G 30 (5 + C) (2420 + S) (m_La nm) 27 (la_ls i) [] (HT K (JM I A L) r) Q := by
  refine wp_aload_n d_La_law_27 rfl rfl rfl ?_
  refine wp_iload_n d_La_law_28 rfl rfl ?_
  refine wp_sld d_La_law_29 h0 ?_
  refine wp_bipush (v := 63) d_La_law_30 (by decide) ?_
  refine wp_iand d_La_law_32 ?_
  refine wp_topi (fun y e_33 => ?_)
  by_cases s_0 : y = 0
  · rw [s_0]
    refine wp_tableIn (off := 163) (t := 196) d_La_law_33 (by decide) (by decide) rfl (by decide) ?_
    exact wp_room (by omega) (by omega) (la_c_man h1 h2 h3 h4 h5 hJ kk)
  by_cases s_1 : y = 1
  · rw [s_1]
    refine wp_tableIn (off := 196) (t := 229) d_La_law_33 (by decide) (by decide) rfl (by decide) ?_
    exact wp_room (by omega) (by omega) (la_c_of h1 h2 h3 h4 h5 hJ kk)
  by_cases s_2 : y = 2
  · rw [s_2]
    refine wp_tableIn (off := 229) (t := 262) d_La_law_33 (by decide) (by decide) rfl (by decide) ?_
    exact wp_room (by omega) (by omega) (la_c_held h1 h2 h3 h4 h5 hJ kk)
  by_cases s_3 : y = 3
  · rw [s_3]
    refine wp_tableIn (off := 262) (t := 295) d_La_law_33 (by decide) (by decide) rfl (by decide) ?_
    exact wp_room (by omega) (by omega) (la_c_row h1 h2 h3 h4 h5 hJ kk)
  by_cases s_4 : y = 4
  · rw [s_4]
    refine wp_tableIn (off := 305) (t := 338) d_La_law_33 (by decide) (by decide) rfl (by decide) ?_
    exact wp_room (by omega) (by omega) (la_c_place h1 h2 h3 h4 h5 hJ kk)
  by_cases s_5 : y = 5
  · rw [s_5]
    refine wp_tableIn (off := 338) (t := 371) d_La_law_33 (by decide) (by decide) rfl (by decide) ?_
    exact wp_room (by omega) (by omega) (la_c_feed h1 h2 h3 h4 h5 hJ kk)
  by_cases s_6 : y = 6
  · rw [s_6]
    refine wp_tableIn (off := 361) (t := 394) d_La_law_33 (by decide) (by decide) rfl (by decide) ?_
    exact wp_room (by omega) (by omega) (la_c_scaffold h1 h2 h3 h4 h5 hJ kk)
  by_cases s_7 : y = 7
  · rw [s_7]
    refine wp_tableIn (off := 374) (t := 407) d_La_law_33 (by decide) (by decide) rfl (by decide) ?_
    exact wp_room (by omega) (by omega) (la_c_told h1 h2 h3 h4 h5 hJ kk)
  by_cases s_8 : y = 8
  · rw [s_8]
    refine wp_tableIn (off := 397) (t := 430) d_La_law_33 (by decide) (by decide) rfl (by decide) ?_
    exact wp_room (by omega) (by omega) (la_c_up h1 h2 h3 h4 h5 hJ kk)
  by_cases s_9 : y = 9
  · rw [s_9]
    refine wp_tableIn (off := 420) (t := 453) d_La_law_33 (by decide) (by decide) rfl (by decide) ?_
    exact wp_room (by omega) (by omega) (la_c_pause h1 h2 h3 h4 h5 hJ kk)
  by_cases s_10 : y = 10
  · rw [s_10]
    refine wp_tableIn (off := 443) (t := 476) d_La_law_33 (by decide) (by decide) rfl (by decide) ?_
    exact wp_room (by omega) (by omega) (la_c_on h1 h2 h3 h4 h5 hJ kk)
  by_cases s_11 : y = 11
  · rw [s_11]
    refine wp_tableIn (off := 486) (t := 519) d_La_law_33 (by decide) (by decide) rfl (by decide) ?_
    exact wp_room (by omega) (by omega) (la_c_safe h1 h2 h3 h4 h5 hJ kk)
  by_cases s_12 : y = 12
  · rw [s_12]
    refine wp_tableIn (off := 509) (t := 542) d_La_law_33 (by decide) (by decide) rfl (by decide) ?_
    exact wp_room (by omega) (by omega) (la_c_best h1 h2 h3 h4 h5 hJ kk)
  by_cases s_13 : y = 13
  · rw [s_13]
    refine wp_tableIn (off := 542) (t := 575) d_La_law_33 (by decide) (by decide) rfl (by decide) ?_
    exact wp_room (by omega) (by omega) (la_c_slowest h1 h2 h3 h4 h5 hJ kk)
  by_cases s_14 : y = 14
  · rw [s_14]
    refine wp_tableIn (off := 555) (t := 588) d_La_law_33 (by decide) (by decide) rfl (by decide) ?_
    exact wp_room (by omega) (by omega) (la_c_order h1 h2 h3 h4 h5 hJ kk)
  by_cases s_15 : y = 15
  · rw [s_15]
    refine wp_tableIn (off := 588) (t := 621) d_La_law_33 (by decide) (by decide) rfl (by decide) ?_
    exact wp_room (by omega) (by omega) (la_c_without h1 h2 h3 h4 h5 hJ kk)
  by_cases s_16 : y = 16
  · rw [s_16]
    refine wp_tableIn (off := 631) (t := 664) d_La_law_33 (by decide) (by decide) rfl (by decide) ?_
    exact wp_room (by omega) (by omega) (la_c_pulley h1 h2 h3 h4 h5 hJ kk)
  by_cases s_17 : y = 17
  · rw [s_17]
    refine wp_tableIn (off := 664) (t := 697) d_La_law_33 (by decide) (by decide) rfl (by decide) ?_
    exact wp_room (by omega) (by omega) (la_c_from h1 h2 h3 h4 h5 hJ kk)
  by_cases s_18 : y = 18
  · rw [s_18]
    refine wp_tableIn (off := 687) (t := 720) d_La_law_33 (by decide) (by decide) rfl (by decide) ?_
    exact wp_room (by omega) (by omega) (la_c_rested h1 h2 h3 h4 h5 hJ kk)
  by_cases s_19 : y = 19
  · rw [s_19]
    refine wp_tableIn (off := 730) (t := 763) d_La_law_33 (by decide) (by decide) rfl (by decide) ?_
    exact wp_room (by omega) (by omega) (la_c_change h1 h2 h3 h4 h5 hJ kk)
  by_cases s_20 : y = 20
  · rw [s_20]
    refine wp_tableIn (off := 763) (t := 796) d_La_law_33 (by decide) (by decide) rfl (by decide) ?_
    exact wp_room (by omega) (by omega) (la_c_see h1 h2 h3 h4 h5 hJ kk)
  by_cases s_21 : y = 21
  · rw [s_21]
    refine wp_tableIn (off := 786) (t := 819) d_La_law_33 (by decide) (by decide) rfl (by decide) ?_
    exact wp_room (by omega) (by omega) (la_c_who h1 h2 h3 h4 h5 hJ kk)
  by_cases s_22 : y = 22
  · rw [s_22]
    refine wp_tableIn (off := 809) (t := 842) d_La_law_33 (by decide) (by decide) rfl (by decide) ?_
    exact wp_room (by omega) (by omega) (la_c_odds h1 h2 h3 h4 h5 hJ kk)
  by_cases s_23 : y = 23
  · rw [s_23]
    refine wp_tableIn (off := 853) (t := 886) d_La_law_33 (by decide) (by decide) rfl (by decide) ?_
    exact wp_room (by omega) (by omega) (la_c_mean h1 h2 h3 h4 h5 hJ kk)
  by_cases s_24 : y = 24
  · rw [s_24]
    refine wp_tableIn (off := 887) (t := 920) d_La_law_33 (by decide) (by decide) rfl (by decide) ?_
    exact wp_room (by omega) (by omega) (la_c_book h1 h2 h3 h4 h5 hJ kk)
  by_cases s_25 : y = 25
  · rw [s_25]
    refine wp_tableIn (off := 936) (t := 969) d_La_law_33 (by decide) (by decide) rfl (by decide) ?_
    exact wp_room (by omega) (by omega) (la_c_looked h1 h2 h3 h4 h5 hJ kk)
  by_cases s_26 : y = 26
  · rw [s_26]
    refine wp_tableIn (off := 959) (t := 992) d_La_law_33 (by decide) (by decide) rfl (by decide) ?_
    exact wp_room (by omega) (by omega) (la_c_judge h1 h2 h3 h4 h5 hJ kk)
  by_cases s_27 : y = 27
  · rw [s_27]
    refine wp_tableIn (off := 992) (t := 1025) d_La_law_33 (by decide) (by decide) rfl (by decide) ?_
    exact wp_room (by omega) (by omega) (la_c_image h1 h2 h3 h4 h5 hJ kk)
  by_cases s_28 : y = 28
  · rw [s_28]
    refine wp_tableIn (off := 1005) (t := 1038) d_La_law_33 (by decide) (by decide) rfl (by decide) ?_
    exact wp_room (by omega) (by omega) (la_c_undo h1 h2 h3 h4 h5 hJ kk)
  by_cases s_29 : y = 29
  · rw [s_29]
    refine wp_tableIn (off := 1018) (t := 1051) d_La_law_33 (by decide) (by decide) rfl (by decide) ?_
    exact wp_room (by omega) (by omega) (la_c_act h1 h2 h3 h4 h5 hJ kk)
  by_cases s_30 : y = 30
  · rw [s_30]
    refine wp_tableIn (off := 1061) (t := 1094) d_La_law_33 (by decide) (by decide) rfl (by decide) ?_
    exact wp_room (by omega) (by omega) (la_c_trace h1 h2 h3 h4 h5 hJ kk)
  by_cases s_31 : y = 31
  · rw [s_31]
    refine wp_tableIn (off := 1084) (t := 1117) d_La_law_33 (by decide) (by decide) rfl (by decide) ?_
    exact wp_room (by omega) (by omega) (la_c_taken h1 h2 h3 h4 h5 hJ kk)
  by_cases s_32 : y = 32
  · rw [s_32]
    refine wp_tableIn (off := 1117) (t := 1150) d_La_law_33 (by decide) (by decide) rfl (by decide) ?_
    exact wp_room (by omega) (by omega) (la_c_count h1 h2 h3 h4 h5 hJ kk)
  by_cases s_33 : y = 33
  · rw [s_33]
    refine wp_tableIn (off := 1140) (t := 1173) d_La_law_33 (by decide) (by decide) rfl (by decide) ?_
    exact wp_room (by omega) (by omega) (la_c_tape h1 h2 h3 h4 h5 hJ kk)
  by_cases s_34 : y = 34
  · rw [s_34]
    refine wp_tableIn (off := 1183) (t := 1216) d_La_law_33 (by decide) (by decide) rfl (by decide) ?_
    exact wp_room (by omega) (by omega) (la_c_item h1 h2 h3 h4 h5 hJ kk)
  by_cases s_35 : y = 35
  · rw [s_35]
    refine wp_tableIn (off := 1256) (t := 1289) d_La_law_33 (by decide) (by decide) rfl (by decide) ?_
    exact wp_room (by omega) (by omega) (la_c_read h1 h2 h3 h4 h5 hJ kk)
  by_cases s_36 : y = 36
  · rw [s_36]
    refine wp_tableIn (off := 1290) (t := 1323) d_La_law_33 (by decide) (by decide) rfl (by decide) ?_
    exact wp_room (by omega) (by omega) (la_c_shift h1 h2 h3 h4 h5 hJ kk)
  have n_0 : y.toInt ≠ 0 := lv_neT s_0 rfl
  have n_1 : y.toInt ≠ 1 := lv_neT s_1 rfl
  have n_2 : y.toInt ≠ 2 := lv_neT s_2 rfl
  have n_3 : y.toInt ≠ 3 := lv_neT s_3 rfl
  have n_4 : y.toInt ≠ 4 := lv_neT s_4 rfl
  have n_5 : y.toInt ≠ 5 := lv_neT s_5 rfl
  have n_6 : y.toInt ≠ 6 := lv_neT s_6 rfl
  have n_7 : y.toInt ≠ 7 := lv_neT s_7 rfl
  have n_8 : y.toInt ≠ 8 := lv_neT s_8 rfl
  have n_9 : y.toInt ≠ 9 := lv_neT s_9 rfl
  have n_10 : y.toInt ≠ 10 := lv_neT s_10 rfl
  have n_11 : y.toInt ≠ 11 := lv_neT s_11 rfl
  have n_12 : y.toInt ≠ 12 := lv_neT s_12 rfl
  have n_13 : y.toInt ≠ 13 := lv_neT s_13 rfl
  have n_14 : y.toInt ≠ 14 := lv_neT s_14 rfl
  have n_15 : y.toInt ≠ 15 := lv_neT s_15 rfl
  have n_16 : y.toInt ≠ 16 := lv_neT s_16 rfl
  have n_17 : y.toInt ≠ 17 := lv_neT s_17 rfl
  have n_18 : y.toInt ≠ 18 := lv_neT s_18 rfl
  have n_19 : y.toInt ≠ 19 := lv_neT s_19 rfl
  have n_20 : y.toInt ≠ 20 := lv_neT s_20 rfl
  have n_21 : y.toInt ≠ 21 := lv_neT s_21 rfl
  have n_22 : y.toInt ≠ 22 := lv_neT s_22 rfl
  have n_23 : y.toInt ≠ 23 := lv_neT s_23 rfl
  have n_24 : y.toInt ≠ 24 := lv_neT s_24 rfl
  have n_25 : y.toInt ≠ 25 := lv_neT s_25 rfl
  have n_26 : y.toInt ≠ 26 := lv_neT s_26 rfl
  have n_27 : y.toInt ≠ 27 := lv_neT s_27 rfl
  have n_28 : y.toInt ≠ 28 := lv_neT s_28 rfl
  have n_29 : y.toInt ≠ 29 := lv_neT s_29 rfl
  have n_30 : y.toInt ≠ 30 := lv_neT s_30 rfl
  have n_31 : y.toInt ≠ 31 := lv_neT s_31 rfl
  have n_32 : y.toInt ≠ 32 := lv_neT s_32 rfl
  have n_33 : y.toInt ≠ 33 := lv_neT s_33 rfl
  have n_34 : y.toInt ≠ 34 := lv_neT s_34 rfl
  have n_35 : y.toInt ≠ 35 := lv_neT s_35 rfl
  have n_36 : y.toInt ≠ 36 := lv_neT s_36 rfl
  refine wp_tableOut (t := 1386) d_La_law_33 (by omega) (by decide) ?_
  exact wp_room (by omega) (by omega) (kk _ _ _ _ _ hJ)
end LAR
