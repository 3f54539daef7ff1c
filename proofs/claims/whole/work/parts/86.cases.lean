/-! THE LAW: its cases (printed by wip/whole/p86.py) -/
section
variable {g : zG} {P : zP} {M : zM} {kc ks : Nat}
theorem lw_c0 {i : Int} (hk : kc ≤ xL_law.rm.cells ∧ ks ≤ xL_law.rm.slots) (hL : g.2.2.2.2 301 ≤ 3072) (hi : 0 ≤ i ∧ i + 6 ≤ ((g.2.2.2.2 301 : Nat) : Int)) (h : zJn M) (K : ∀ M2, zJ M2 → zV g xL_law P 1123 [zr 1000300, zr 0, zr 58, zi i] [] 75 M2 kc ks) : zV g xL_law P 168 [zr 1000300, zr 0, zr 58, zi i] [] 75 M kc ks := by
  refine zV_aload_n (pc := 168) (i := 1) dL_law_168 rfl rfl ?_
  refine zV_arg (pc := 169) hL hi (by decide) dL_law_169 dL_law_170 dL_law_171 dL_law_172 dL_law_173 ?_
  refine zV_arg (pc := 174) hL hi (by decide) dL_law_174 dL_law_175 dL_law_176 dL_law_177 dL_law_178 ?_
  refine zV_arg (pc := 179) hL hi (by decide) dL_law_179 dL_law_180 dL_law_181 dL_law_182 dL_law_183 ?_
  refine zV_ivs (pc := 184) (ci := 9) dL_law_184 klL_13 mX9_set ⟨by decide, rfl⟩ rfl hk (s_set h zsc_in zsc_in zsc_in) (zOb_of rfl) rfl rfl (Nat.le_of_ble_eq_true rfl) ?_
  rintro w N1 M1 ⟨rfl, v, rfl, h2⟩
  refine zV_aload_n (pc := 187) (i := 2) dL_law_187 rfl rfl ?_
  refine zV_arg (pc := 188) hL hi (by decide) dL_law_188 dL_law_189 dL_law_190 dL_law_191 dL_law_192 ?_
  refine zV_arg (pc := 193) hL hi (by decide) dL_law_193 dL_law_194 dL_law_195 dL_law_196 dL_law_197 ?_
  refine zV_arg (pc := 198) hL hi (by decide) dL_law_198 dL_law_199 dL_law_200 dL_law_201 dL_law_202 ?_
  refine zV_ivs (pc := 203) (ci := 10) dL_law_203 klL_17 mX10_set ⟨by decide, rfl⟩ rfl hk h2 (zOb_of rfl) rfl rfl (Nat.le_of_ble_eq_true rfl) ?_
  rintro w N2 M2 ⟨rfl, rfl, hJ⟩
  exact zV_icmp_eqW (pc := 206) (tgt := 1123) dL_law_206 (by decide) (fun _ => K M2 hJ) (fun c => absurd rfl c)
theorem lw_c1 {i : Int} (hk : kc ≤ xL_law.rm.cells ∧ ks ≤ xL_law.rm.slots) (hL : g.2.2.2.2 301 ≤ 3072) (hi : 0 ≤ i ∧ i + 6 ≤ ((g.2.2.2.2 301 : Nat) : Int)) (h : zJn M) (K : ∀ M2, zJ M2 → zV g xL_law P 1123 [zr 1000300, zr 0, zr 58, zi i] [] 75 M2 kc ks) : zV g xL_law P 211 [zr 1000300, zr 0, zr 58, zi i] [] 75 M kc ks := by
  refine zV_aload_n (pc := 211) (i := 1) dL_law_211 rfl rfl ?_
  refine zV_arg (pc := 212) hL hi (by decide) dL_law_212 dL_law_213 dL_law_214 dL_law_215 dL_law_216 ?_
  refine zV_arg (pc := 217) hL hi (by decide) dL_law_217 dL_law_218 dL_law_219 dL_law_220 dL_law_221 ?_
  refine zV_arg (pc := 222) hL hi (by decide) dL_law_222 dL_law_223 dL_law_224 dL_law_225 dL_law_226 ?_
  refine zV_ivs (pc := 227) (ci := 9) dL_law_227 klL_18 mX9_thing ⟨by decide, rfl⟩ rfl hk (s_thing h zsc_in zsc_in zsc_in) (zOb_of rfl) rfl rfl (Nat.le_of_ble_eq_true rfl) ?_
  rintro w N1 M1 ⟨rfl, v, rfl, h2⟩
  refine zV_aload_n (pc := 230) (i := 2) dL_law_230 rfl rfl ?_
  refine zV_arg (pc := 231) hL hi (by decide) dL_law_231 dL_law_232 dL_law_233 dL_law_234 dL_law_235 ?_
  refine zV_arg (pc := 236) hL hi (by decide) dL_law_236 dL_law_237 dL_law_238 dL_law_239 dL_law_240 ?_
  refine zV_arg (pc := 241) hL hi (by decide) dL_law_241 dL_law_242 dL_law_243 dL_law_244 dL_law_245 ?_
  refine zV_ivs (pc := 246) (ci := 10) dL_law_246 klL_21 mX10_thing ⟨by decide, rfl⟩ rfl hk h2 (zOb_of rfl) rfl rfl (Nat.le_of_ble_eq_true rfl) ?_
  rintro w N2 M2 ⟨rfl, rfl, hJ⟩
  exact zV_icmp_eqW (pc := 249) (tgt := 1123) dL_law_249 (by decide) (fun _ => K M2 hJ) (fun c => absurd rfl c)
theorem lw_c2 {i : Int} (hk : kc ≤ xL_law.rm.cells ∧ ks ≤ xL_law.rm.slots) (hL : g.2.2.2.2 301 ≤ 3072) (hi : 0 ≤ i ∧ i + 6 ≤ ((g.2.2.2.2 301 : Nat) : Int)) (h : zJn M) (K : ∀ M2, zJ M2 → zV g xL_law P 1123 [zr 1000300, zr 0, zr 58, zi i] [] 75 M2 kc ks) : zV g xL_law P 254 [zr 1000300, zr 0, zr 58, zi i] [] 75 M kc ks := by
  refine zV_aload_n (pc := 254) (i := 1) dL_law_254 rfl rfl ?_
  refine zV_arg (pc := 255) hL hi (by decide) dL_law_255 dL_law_256 dL_law_257 dL_law_258 dL_law_259 ?_
  refine zV_arg (pc := 260) hL hi (by decide) dL_law_260 dL_law_261 dL_law_262 dL_law_263 dL_law_264 ?_
  refine zV_ivs (pc := 265) (ci := 9) dL_law_265 klL_22 mX9_told ⟨by decide, rfl⟩ rfl hk (s_told h zsc_in zsc_in) (zOb_of rfl) rfl rfl (Nat.le_of_ble_eq_true rfl) ?_
  rintro w N1 M1 ⟨rfl, v, rfl, h2⟩
  refine zV_aload_n (pc := 268) (i := 2) dL_law_268 rfl rfl ?_
  refine zV_arg (pc := 269) hL hi (by decide) dL_law_269 dL_law_270 dL_law_271 dL_law_272 dL_law_273 ?_
  refine zV_arg (pc := 274) hL hi (by decide) dL_law_274 dL_law_275 dL_law_276 dL_law_277 dL_law_278 ?_
  refine zV_ivs (pc := 279) (ci := 10) dL_law_279 klL_26 mX10_told ⟨by decide, rfl⟩ rfl hk h2 (zOb_of rfl) rfl rfl (Nat.le_of_ble_eq_true rfl) ?_
  rintro w N2 M2 ⟨rfl, rfl, hJ⟩
  exact zV_icmp_eqW (pc := 282) (tgt := 1123) dL_law_282 (by decide) (fun _ => K M2 hJ) (fun c => absurd rfl c)
theorem lw_c3 {i : Int} (hk : kc ≤ xL_law.rm.cells ∧ ks ≤ xL_law.rm.slots) (hL : g.2.2.2.2 301 ≤ 3072) (hi : 0 ≤ i ∧ i + 6 ≤ ((g.2.2.2.2 301 : Nat) : Int)) (h : zJn M) (K : ∀ M2, zJ M2 → zV g xL_law P 1123 [zr 1000300, zr 0, zr 58, zi i] [] 75 M2 kc ks) : zV g xL_law P 287 [zr 1000300, zr 0, zr 58, zi i] [] 75 M kc ks := by
  refine zV_aload_n (pc := 287) (i := 1) dL_law_287 rfl rfl ?_
  refine zV_arg (pc := 288) hL hi (by decide) dL_law_288 dL_law_289 dL_law_290 dL_law_291 dL_law_292 ?_
  refine zV_ivs (pc := 293) (ci := 9) dL_law_293 klL_27 mX9_feed ⟨by decide, rfl⟩ rfl hk (s_feed h zsc_in) (zOb_of rfl) rfl rfl (Nat.le_of_ble_eq_true rfl) ?_
  rintro w N1 M1 ⟨rfl, v, rfl, h2⟩
  refine zV_aload_n (pc := 296) (i := 2) dL_law_296 rfl rfl ?_
  refine zV_arg (pc := 297) hL hi (by decide) dL_law_297 dL_law_298 dL_law_299 dL_law_300 dL_law_301 ?_
  refine zV_ivs (pc := 302) (ci := 10) dL_law_302 klL_31 mX10_feed ⟨by decide, rfl⟩ rfl hk h2 (zOb_of rfl) rfl rfl (Nat.le_of_ble_eq_true rfl) ?_
  rintro w N2 M2 ⟨rfl, rfl, hJ⟩
  exact zV_icmp_eqW (pc := 305) (tgt := 1123) dL_law_305 (by decide) (fun _ => K M2 hJ) (fun c => absurd rfl c)
theorem lw_c4 {i : Int} (hk : kc ≤ xL_law.rm.cells ∧ ks ≤ xL_law.rm.slots) (hL : g.2.2.2.2 301 ≤ 3072) (hi : 0 ≤ i ∧ i + 6 ≤ ((g.2.2.2.2 301 : Nat) : Int)) (h : zJn M) (K : ∀ M2, zJ M2 → zV g xL_law P 1123 [zr 1000300, zr 0, zr 58, zi i] [] 75 M2 kc ks) : zV g xL_law P 310 [zr 1000300, zr 0, zr 58, zi i] [] 75 M kc ks := by
  refine zV_aload_n (pc := 310) (i := 1) dL_law_310 rfl rfl ?_
  refine zV_ivs (pc := 311) (ci := 9) dL_law_311 klL_32 mX9_text ⟨by decide, rfl⟩ rfl hk (s_text h) (zOb_of rfl) rfl rfl (Nat.le_of_ble_eq_true rfl) ?_
  rintro w N1 M1 ⟨rfl, v, rfl, h2⟩
  refine zV_aload_n (pc := 314) (i := 2) dL_law_314 rfl rfl ?_
  refine zV_ivs (pc := 315) (ci := 10) dL_law_315 klL_36 mX10_text ⟨by decide, rfl⟩ rfl hk h2 (zOb_of rfl) rfl rfl (Nat.le_of_ble_eq_true rfl) ?_
  rintro w N2 M2 ⟨rfl, rfl, hJ⟩
  exact zV_icmp_eqW (pc := 318) (tgt := 1123) dL_law_318 (by decide) (fun _ => K M2 hJ) (fun c => absurd rfl c)
theorem lw_c5 {i : Int} (hk : kc ≤ xL_law.rm.cells ∧ ks ≤ xL_law.rm.slots) (hL : g.2.2.2.2 301 ≤ 3072) (hi : 0 ≤ i ∧ i + 6 ≤ ((g.2.2.2.2 301 : Nat) : Int)) (h : zJn M) (K : ∀ M2, zJ M2 → zV g xL_law P 1123 [zr 1000300, zr 0, zr 58, zi i] [] 75 M2 kc ks) : zV g xL_law P 323 [zr 1000300, zr 0, zr 58, zi i] [] 75 M kc ks := by
  refine zV_aload_n (pc := 323) (i := 1) dL_law_323 rfl rfl ?_
  refine zV_arg (pc := 324) hL hi (by decide) dL_law_324 dL_law_325 dL_law_326 dL_law_327 dL_law_328 ?_
  refine zV_ivs (pc := 329) (ci := 9) dL_law_329 klL_37 mX9_force ⟨by decide, rfl⟩ rfl hk (s_force h zsc_in) (zOb_of rfl) rfl rfl (Nat.le_of_ble_eq_true rfl) ?_
  rintro w N1 M1 ⟨rfl, v, rfl, h2⟩
  refine zV_aload_n (pc := 332) (i := 2) dL_law_332 rfl rfl ?_
  refine zV_arg (pc := 333) hL hi (by decide) dL_law_333 dL_law_334 dL_law_335 dL_law_336 dL_law_337 ?_
  refine zV_ivs (pc := 338) (ci := 10) dL_law_338 klL_40 mX10_force ⟨by decide, rfl⟩ rfl hk h2 (zOb_of rfl) rfl rfl (Nat.le_of_ble_eq_true rfl) ?_
  rintro w N2 M2 ⟨rfl, rfl, hJ⟩
  exact zV_icmp_eqW (pc := 341) (tgt := 1123) dL_law_341 (by decide) (fun _ => K M2 hJ) (fun c => absurd rfl c)
theorem lw_c6 {i : Int} (hk : kc ≤ xL_law.rm.cells ∧ ks ≤ xL_law.rm.slots) (hL : g.2.2.2.2 301 ≤ 3072) (hi : 0 ≤ i ∧ i + 6 ≤ ((g.2.2.2.2 301 : Nat) : Int)) (h : zJn M) (K : ∀ M2, zJ M2 → zV g xL_law P 1123 [zr 1000300, zr 0, zr 58, zi i] [] 75 M2 kc ks) : zV g xL_law P 346 [zr 1000300, zr 0, zr 58, zi i] [] 75 M kc ks := by
  refine zV_aload_n (pc := 346) (i := 1) dL_law_346 rfl rfl ?_
  refine zV_arg (pc := 347) hL hi (by decide) dL_law_347 dL_law_348 dL_law_349 dL_law_350 dL_law_351 ?_
  refine zV_arg (pc := 352) hL hi (by decide) dL_law_352 dL_law_353 dL_law_354 dL_law_355 dL_law_356 ?_
  refine zV_ivs (pc := 357) (ci := 9) dL_law_357 klL_41 mX9_day ⟨by decide, rfl⟩ rfl hk (s_day h zsc_in zsc_in) (zOb_of rfl) rfl rfl (Nat.le_of_ble_eq_true rfl) ?_
  rintro w N1 M1 ⟨rfl, v, rfl, h2⟩
  refine zV_aload_n (pc := 360) (i := 2) dL_law_360 rfl rfl ?_
  refine zV_arg (pc := 361) hL hi (by decide) dL_law_361 dL_law_362 dL_law_363 dL_law_364 dL_law_365 ?_
  refine zV_arg (pc := 366) hL hi (by decide) dL_law_366 dL_law_367 dL_law_368 dL_law_369 dL_law_370 ?_
  refine zV_ivs (pc := 371) (ci := 10) dL_law_371 klL_44 mX10_day ⟨by decide, rfl⟩ rfl hk h2 (zOb_of rfl) rfl rfl (Nat.le_of_ble_eq_true rfl) ?_
  rintro w N2 M2 ⟨rfl, rfl, hJ⟩
  exact zV_icmp_eqW (pc := 374) (tgt := 1123) dL_law_374 (by decide) (fun _ => K M2 hJ) (fun c => absurd rfl c)
theorem lw_c7 {i : Int} (hk : kc ≤ xL_law.rm.cells ∧ ks ≤ xL_law.rm.slots) (hL : g.2.2.2.2 301 ≤ 3072) (hi : 0 ≤ i ∧ i + 6 ≤ ((g.2.2.2.2 301 : Nat) : Int)) (h : zJn M) (K : ∀ M2, zJ M2 → zV g xL_law P 1123 [zr 1000300, zr 0, zr 58, zi i] [] 75 M2 kc ks) : zV g xL_law P 379 [zr 1000300, zr 0, zr 58, zi i] [] 75 M kc ks := by
  refine zV_aload_n (pc := 379) (i := 1) dL_law_379 rfl rfl ?_
  refine zV_arg (pc := 380) hL hi (by decide) dL_law_380 dL_law_381 dL_law_382 dL_law_383 dL_law_384 ?_
  refine zV_arg (pc := 385) hL hi (by decide) dL_law_385 dL_law_386 dL_law_387 dL_law_388 dL_law_389 ?_
  refine zV_ivs (pc := 390) (ci := 9) dL_law_390 klL_45 mX9_when ⟨by decide, rfl⟩ rfl hk (s_when h zsc_in zsc_in) (zOb_of rfl) rfl rfl (Nat.le_of_ble_eq_true rfl) ?_
  rintro w N1 M1 ⟨rfl, v, rfl, h2⟩
  refine zV_aload_n (pc := 393) (i := 2) dL_law_393 rfl rfl ?_
  refine zV_arg (pc := 394) hL hi (by decide) dL_law_394 dL_law_395 dL_law_396 dL_law_397 dL_law_398 ?_
  refine zV_arg (pc := 399) hL hi (by decide) dL_law_399 dL_law_400 dL_law_401 dL_law_402 dL_law_403 ?_
  refine zV_ivs (pc := 404) (ci := 10) dL_law_404 klL_48 mX10_when ⟨by decide, rfl⟩ rfl hk h2 (zOb_of rfl) rfl rfl (Nat.le_of_ble_eq_true rfl) ?_
  rintro w N2 M2 ⟨rfl, rfl, hJ⟩
  exact zV_icmp_eqW (pc := 407) (tgt := 1123) dL_law_407 (by decide) (fun _ => K M2 hJ) (fun c => absurd rfl c)
theorem lw_c8 {i : Int} (hk : kc ≤ xL_law.rm.cells ∧ ks ≤ xL_law.rm.slots) (hL : g.2.2.2.2 301 ≤ 3072) (hi : 0 ≤ i ∧ i + 6 ≤ ((g.2.2.2.2 301 : Nat) : Int)) (h : zJn M) (K : ∀ M2, zJ M2 → zV g xL_law P 1123 [zr 1000300, zr 0, zr 58, zi i] [] 75 M2 kc ks) : zV g xL_law P 412 [zr 1000300, zr 0, zr 58, zi i] [] 75 M kc ks := by
  refine zV_aload_n (pc := 412) (i := 1) dL_law_412 rfl rfl ?_
  refine zV_arg (pc := 413) hL hi (by decide) dL_law_413 dL_law_414 dL_law_415 dL_law_416 dL_law_417 ?_
  refine zV_arg (pc := 418) hL hi (by decide) dL_law_418 dL_law_419 dL_law_420 dL_law_421 dL_law_422 ?_
  refine zV_ivs (pc := 423) (ci := 9) dL_law_423 klL_49 mX9_often ⟨by decide, rfl⟩ rfl hk (s_often h zsc_in zsc_in) (zOb_of rfl) rfl rfl (Nat.le_of_ble_eq_true rfl) ?_
  rintro w N1 M1 ⟨rfl, v, rfl, h2⟩
  refine zV_aload_n (pc := 426) (i := 2) dL_law_426 rfl rfl ?_
  refine zV_arg (pc := 427) hL hi (by decide) dL_law_427 dL_law_428 dL_law_429 dL_law_430 dL_law_431 ?_
  refine zV_arg (pc := 432) hL hi (by decide) dL_law_432 dL_law_433 dL_law_434 dL_law_435 dL_law_436 ?_
  refine zV_ivs (pc := 437) (ci := 10) dL_law_437 klL_52 mX10_often ⟨by decide, rfl⟩ rfl hk h2 (zOb_of rfl) rfl rfl (Nat.le_of_ble_eq_true rfl) ?_
  rintro w N2 M2 ⟨rfl, rfl, hJ⟩
  exact zV_icmp_eqW (pc := 440) (tgt := 1123) dL_law_440 (by decide) (fun _ => K M2 hJ) (fun c => absurd rfl c)
theorem lw_c9 {i : Int} (hk : kc ≤ xL_law.rm.cells ∧ ks ≤ xL_law.rm.slots) (hL : g.2.2.2.2 301 ≤ 3072) (hi : 0 ≤ i ∧ i + 6 ≤ ((g.2.2.2.2 301 : Nat) : Int)) (h : zJn M) (K : ∀ M2, zJ M2 → zV g xL_law P 1123 [zr 1000300, zr 0, zr 58, zi i] [] 75 M2 kc ks) : zV g xL_law P 445 [zr 1000300, zr 0, zr 58, zi i] [] 75 M kc ks := by
  refine zV_aload_n (pc := 445) (i := 1) dL_law_445 rfl rfl ?_
  refine zV_arg (pc := 446) hL hi (by decide) dL_law_446 dL_law_447 dL_law_448 dL_law_449 dL_law_450 ?_
  refine zV_ivs (pc := 451) (ci := 9) dL_law_451 klL_53 mX9_year ⟨by decide, rfl⟩ rfl hk (s_year h zsc_in) (zOb_of rfl) rfl rfl (Nat.le_of_ble_eq_true rfl) ?_
  rintro w N1 M1 ⟨rfl, v, rfl, h2⟩
  refine zV_aload_n (pc := 454) (i := 2) dL_law_454 rfl rfl ?_
  refine zV_arg (pc := 455) hL hi (by decide) dL_law_455 dL_law_456 dL_law_457 dL_law_458 dL_law_459 ?_
  refine zV_ivs (pc := 460) (ci := 10) dL_law_460 klL_56 mX10_year ⟨by decide, rfl⟩ rfl hk h2 (zOb_of rfl) rfl rfl (Nat.le_of_ble_eq_true rfl) ?_
  rintro w N2 M2 ⟨rfl, rfl, hJ⟩
  exact zV_icmp_eqW (pc := 463) (tgt := 1123) dL_law_463 (by decide) (fun _ => K M2 hJ) (fun c => absurd rfl c)
theorem lw_c10 {i : Int} (hk : kc ≤ xL_law.rm.cells ∧ ks ≤ xL_law.rm.slots) (hL : g.2.2.2.2 301 ≤ 3072) (hi : 0 ≤ i ∧ i + 6 ≤ ((g.2.2.2.2 301 : Nat) : Int)) (h : zJn M) (K : ∀ M2, zJ M2 → zV g xL_law P 1123 [zr 1000300, zr 0, zr 58, zi i] [] 75 M2 kc ks) : zV g xL_law P 468 [zr 1000300, zr 0, zr 58, zi i] [] 75 M kc ks := by
  refine zV_aload_n (pc := 468) (i := 1) dL_law_468 rfl rfl ?_
  refine zV_arg (pc := 469) hL hi (by decide) dL_law_469 dL_law_470 dL_law_471 dL_law_472 dL_law_473 ?_
  refine zV_ivs (pc := 474) (ci := 9) dL_law_474 klL_57 mX9_meet ⟨by decide, rfl⟩ rfl hk (s_meet h zsc_in) (zOb_of rfl) rfl rfl (Nat.le_of_ble_eq_true rfl) ?_
  rintro w N1 M1 ⟨rfl, v, rfl, h2⟩
  refine zV_aload_n (pc := 477) (i := 2) dL_law_477 rfl rfl ?_
  refine zV_arg (pc := 478) hL hi (by decide) dL_law_478 dL_law_479 dL_law_480 dL_law_481 dL_law_482 ?_
  refine zV_ivs (pc := 483) (ci := 10) dL_law_483 klL_61 mX10_meet ⟨by decide, rfl⟩ rfl hk h2 (zOb_of rfl) rfl rfl (Nat.le_of_ble_eq_true rfl) ?_
  rintro w N2 M2 ⟨rfl, rfl, hJ⟩
  refine zV_lcmpS (pc := 486) dL_law_486 ?_
  exact zV_if_eqW (pc := 487) (tgt := 1123) dL_law_487 (by decide) (fun _ => K M2 hJ) (fun c => absurd rfl c)
theorem lw_c11 {i : Int} (hk : kc ≤ xL_law.rm.cells ∧ ks ≤ xL_law.rm.slots) (hL : g.2.2.2.2 301 ≤ 3072) (hi : 0 ≤ i ∧ i + 6 ≤ ((g.2.2.2.2 301 : Nat) : Int)) (h : zJn M) (K : ∀ M2, zJ M2 → zV g xL_law P 1123 [zr 1000300, zr 0, zr 58, zi i] [] 75 M2 kc ks) : zV g xL_law P 492 [zr 1000300, zr 0, zr 58, zi i] [] 75 M kc ks := by
  refine zV_aload_n (pc := 492) (i := 1) dL_law_492 rfl rfl ?_
  refine zV_arg (pc := 493) hL hi (by decide) dL_law_493 dL_law_494 dL_law_495 dL_law_496 dL_law_497 ?_
  refine zV_ivs (pc := 498) (ci := 9) dL_law_498 klL_62 mX9_every ⟨by decide, rfl⟩ rfl hk (s_every h zsc_in) (zOb_of rfl) rfl rfl (Nat.le_of_ble_eq_true rfl) ?_
  rintro w N1 M1 ⟨rfl, v, rfl, h2⟩
  refine zV_aload_n (pc := 501) (i := 2) dL_law_501 rfl rfl ?_
  refine zV_arg (pc := 502) hL hi (by decide) dL_law_502 dL_law_503 dL_law_504 dL_law_505 dL_law_506 ?_
  refine zV_ivs (pc := 507) (ci := 10) dL_law_507 klL_65 mX10_every ⟨by decide, rfl⟩ rfl hk h2 (zOb_of rfl) rfl rfl (Nat.le_of_ble_eq_true rfl) ?_
  rintro w N2 M2 ⟨rfl, rfl, hJ⟩
  refine zV_lcmpS (pc := 510) dL_law_510 ?_
  exact zV_if_eqW (pc := 511) (tgt := 1123) dL_law_511 (by decide) (fun _ => K M2 hJ) (fun c => absurd rfl c)
theorem lw_c12 {i : Int} (hk : kc ≤ xL_law.rm.cells ∧ ks ≤ xL_law.rm.slots) (hL : g.2.2.2.2 301 ≤ 3072) (hi : 0 ≤ i ∧ i + 6 ≤ ((g.2.2.2.2 301 : Nat) : Int)) (h : zJn M) (K : ∀ M2, zJ M2 → zV g xL_law P 1123 [zr 1000300, zr 0, zr 58, zi i] [] 75 M2 kc ks) : zV g xL_law P 516 [zr 1000300, zr 0, zr 58, zi i] [] 75 M kc ks := by
  refine zV_aload_n (pc := 516) (i := 1) dL_law_516 rfl rfl ?_
  refine zV_arg (pc := 517) hL hi (by decide) dL_law_517 dL_law_518 dL_law_519 dL_law_520 dL_law_521 ?_
  refine zV_ivs (pc := 522) (ci := 9) dL_law_522 klL_66 mX9_why ⟨by decide, rfl⟩ rfl hk (s_why h zsc_in) (zOb_of rfl) rfl rfl (Nat.le_of_ble_eq_true rfl) ?_
  rintro w N1 M1 ⟨rfl, v, rfl, h2⟩
  refine zV_aload_n (pc := 525) (i := 2) dL_law_525 rfl rfl ?_
  refine zV_arg (pc := 526) hL hi (by decide) dL_law_526 dL_law_527 dL_law_528 dL_law_529 dL_law_530 ?_
  refine zV_ivs (pc := 531) (ci := 10) dL_law_531 klL_69 mX10_why ⟨by decide, rfl⟩ rfl hk h2 (zOb_of rfl) rfl rfl (Nat.le_of_ble_eq_true rfl) ?_
  rintro w N2 M2 ⟨rfl, rfl, hJ⟩
  exact zV_icmp_eqW (pc := 534) (tgt := 1123) dL_law_534 (by decide) (fun _ => K M2 hJ) (fun c => absurd rfl c)
theorem lw_c13 {i : Int} (hk : kc ≤ xL_law.rm.cells ∧ ks ≤ xL_law.rm.slots) (hL : g.2.2.2.2 301 ≤ 3072) (hi : 0 ≤ i ∧ i + 6 ≤ ((g.2.2.2.2 301 : Nat) : Int)) (h : zJn M) (K : ∀ M2, zJ M2 → zV g xL_law P 1123 [zr 1000300, zr 0, zr 58, zi i] [] 75 M2 kc ks) : zV g xL_law P 539 [zr 1000300, zr 0, zr 58, zi i] [] 75 M kc ks := by
  refine zV_aload_n (pc := 539) (i := 1) dL_law_539 rfl rfl ?_
  refine zV_arg (pc := 540) hL hi (by decide) dL_law_540 dL_law_541 dL_law_542 dL_law_543 dL_law_544 ?_
  refine zV_ivs (pc := 545) (ci := 9) dL_law_545 klL_70 mX9_full ⟨by decide, rfl⟩ rfl hk (s_full h zsc_in) (zOb_of rfl) rfl rfl (Nat.le_of_ble_eq_true rfl) ?_
  rintro w N1 M1 ⟨rfl, v, rfl, h2⟩
  refine zV_aload_n (pc := 548) (i := 2) dL_law_548 rfl rfl ?_
  refine zV_arg (pc := 549) hL hi (by decide) dL_law_549 dL_law_550 dL_law_551 dL_law_552 dL_law_553 ?_
  refine zV_ivs (pc := 554) (ci := 10) dL_law_554 klL_73 mX10_full ⟨by decide, rfl⟩ rfl hk h2 (zOb_of rfl) rfl rfl (Nat.le_of_ble_eq_true rfl) ?_
  rintro w N2 M2 ⟨rfl, rfl, hJ⟩
  refine zV_lcmpS (pc := 557) dL_law_557 ?_
  exact zV_if_eqW (pc := 558) (tgt := 1123) dL_law_558 (by decide) (fun _ => K M2 hJ) (fun c => absurd rfl c)
theorem lw_c14 {i : Int} (hk : kc ≤ xL_law.rm.cells ∧ ks ≤ xL_law.rm.slots) (hL : g.2.2.2.2 301 ≤ 3072) (hi : 0 ≤ i ∧ i + 6 ≤ ((g.2.2.2.2 301 : Nat) : Int)) (h : zJn M) (K : ∀ M2, zJ M2 → zV g xL_law P 1123 [zr 1000300, zr 0, zr 58, zi i] [] 75 M2 kc ks) : zV g xL_law P 563 [zr 1000300, zr 0, zr 58, zi i] [] 75 M kc ks := by
  refine zV_aload_n (pc := 563) (i := 1) dL_law_563 rfl rfl ?_
  refine zV_arg (pc := 564) hL hi (by decide) dL_law_564 dL_law_565 dL_law_566 dL_law_567 dL_law_568 ?_
  refine zV_ivs (pc := 569) (ci := 9) dL_law_569 klL_74 mX9_shift ⟨by decide, rfl⟩ rfl hk (s_shift h zsc_in) (zOb_of rfl) rfl rfl (Nat.le_of_ble_eq_true rfl) ?_
  rintro w N1 M1 ⟨rfl, v, rfl, h2⟩
  refine zV_aload_n (pc := 572) (i := 2) dL_law_572 rfl rfl ?_
  refine zV_arg (pc := 573) hL hi (by decide) dL_law_573 dL_law_574 dL_law_575 dL_law_576 dL_law_577 ?_
  refine zV_ivs (pc := 578) (ci := 10) dL_law_578 klL_77 mX10_shift ⟨by decide, rfl⟩ rfl hk h2 (zOb_of rfl) rfl rfl (Nat.le_of_ble_eq_true rfl) ?_
  rintro w N2 M2 ⟨rfl, rfl, hJ⟩
  exact zV_icmp_eqW (pc := 581) (tgt := 1123) dL_law_581 (by decide) (fun _ => K M2 hJ) (fun c => absurd rfl c)
theorem lw_c15 {i : Int} (hk : kc ≤ xL_law.rm.cells ∧ ks ≤ xL_law.rm.slots) (hL : g.2.2.2.2 301 ≤ 3072) (hi : 0 ≤ i ∧ i + 6 ≤ ((g.2.2.2.2 301 : Nat) : Int)) (h : zJn M) (K : ∀ M2, zJ M2 → zV g xL_law P 1123 [zr 1000300, zr 0, zr 58, zi i] [] 75 M2 kc ks) : zV g xL_law P 586 [zr 1000300, zr 0, zr 58, zi i] [] 75 M kc ks := by
  refine zV_aload_n (pc := 586) (i := 1) dL_law_586 rfl rfl ?_
  refine zV_arg (pc := 587) hL hi (by decide) dL_law_587 dL_law_588 dL_law_589 dL_law_590 dL_law_591 ?_
  refine zV_arg (pc := 592) hL hi (by decide) dL_law_592 dL_law_593 dL_law_594 dL_law_595 dL_law_596 ?_
  refine zV_ivs (pc := 597) (ci := 9) dL_law_597 klL_78 mX9_join ⟨by decide, rfl⟩ rfl hk (s_join h zsc_in zsc_in) (zOb_of rfl) rfl rfl (Nat.le_of_ble_eq_true rfl) ?_
  rintro w N1 M1 ⟨rfl, v, rfl, h2⟩
  refine zV_aload_n (pc := 600) (i := 2) dL_law_600 rfl rfl ?_
  refine zV_arg (pc := 601) hL hi (by decide) dL_law_601 dL_law_602 dL_law_603 dL_law_604 dL_law_605 ?_
  refine zV_arg (pc := 606) hL hi (by decide) dL_law_606 dL_law_607 dL_law_608 dL_law_609 dL_law_610 ?_
  refine zV_ivs (pc := 611) (ci := 10) dL_law_611 klL_81 mX10_join ⟨by decide, rfl⟩ rfl hk h2 (zOb_of rfl) rfl rfl (Nat.le_of_ble_eq_true rfl) ?_
  rintro w N2 M2 ⟨rfl, rfl, hJ⟩
  exact zV_icmp_eqW (pc := 614) (tgt := 1123) dL_law_614 (by decide) (fun _ => K M2 hJ) (fun c => absurd rfl c)
theorem lw_c16 {i : Int} (hk : kc ≤ xL_law.rm.cells ∧ ks ≤ xL_law.rm.slots) (hL : g.2.2.2.2 301 ≤ 3072) (hi : 0 ≤ i ∧ i + 6 ≤ ((g.2.2.2.2 301 : Nat) : Int)) (h : zJn M) (K : ∀ M2, zJ M2 → zV g xL_law P 1123 [zr 1000300, zr 0, zr 58, zi i] [] 75 M2 kc ks) : zV g xL_law P 619 [zr 1000300, zr 0, zr 58, zi i] [] 75 M kc ks := by
  refine zV_aload_n (pc := 619) (i := 1) dL_law_619 rfl rfl ?_
  refine zV_arg (pc := 620) hL hi (by decide) dL_law_620 dL_law_621 dL_law_622 dL_law_623 dL_law_624 ?_
  refine zV_arg (pc := 625) hL hi (by decide) dL_law_625 dL_law_626 dL_law_627 dL_law_628 dL_law_629 ?_
  refine zV_ivs (pc := 630) (ci := 9) dL_law_630 klL_82 mX9_goodShift ⟨by decide, rfl⟩ rfl hk (s_good h zsc_in zsc_in) (zOb_of rfl) rfl rfl (Nat.le_of_ble_eq_true rfl) ?_
  rintro w N1 M1 ⟨rfl, v, rfl, h2⟩
  refine zV_aload_n (pc := 633) (i := 2) dL_law_633 rfl rfl ?_
  refine zV_arg (pc := 634) hL hi (by decide) dL_law_634 dL_law_635 dL_law_636 dL_law_637 dL_law_638 ?_
  refine zV_arg (pc := 639) hL hi (by decide) dL_law_639 dL_law_640 dL_law_641 dL_law_642 dL_law_643 ?_
  refine zV_ivs (pc := 644) (ci := 10) dL_law_644 klL_85 mX10_goodShift ⟨by decide, rfl⟩ rfl hk h2 (zOb_of rfl) rfl rfl (Nat.le_of_ble_eq_true rfl) ?_
  rintro w N2 M2 ⟨rfl, rfl, hJ⟩
  exact zV_icmp_eqW (pc := 647) (tgt := 1123) dL_law_647 (by decide) (fun _ => K M2 hJ) (fun c => absurd rfl c)
theorem lw_c17 {i : Int} (hk : kc ≤ xL_law.rm.cells ∧ ks ≤ xL_law.rm.slots) (hL : g.2.2.2.2 301 ≤ 3072) (hi : 0 ≤ i ∧ i + 6 ≤ ((g.2.2.2.2 301 : Nat) : Int)) (h : zJn M) (K : ∀ M2, zJ M2 → zV g xL_law P 1123 [zr 1000300, zr 0, zr 58, zi i] [] 75 M2 kc ks) : zV g xL_law P 652 [zr 1000300, zr 0, zr 58, zi i] [] 75 M kc ks := by
  refine zV_aload_n (pc := 652) (i := 1) dL_law_652 rfl rfl ?_
  refine zV_arg (pc := 653) hL hi (by decide) dL_law_653 dL_law_654 dL_law_655 dL_law_656 dL_law_657 ?_
  refine zV_arg (pc := 658) hL hi (by decide) dL_law_658 dL_law_659 dL_law_660 dL_law_661 dL_law_662 ?_
  refine zV_arg (pc := 663) hL hi (by decide) dL_law_663 dL_law_664 dL_law_665 dL_law_666 dL_law_667 ?_
  refine zV_ivs (pc := 668) (ci := 9) dL_law_668 klL_86 mX9_diary ⟨by decide, rfl⟩ rfl hk (s_diary h zsc_in zsc_in zsc_in) (zOb_of rfl) rfl rfl (Nat.le_of_ble_eq_true rfl) ?_
  rintro w N1 M1 ⟨rfl, v, rfl, h2⟩
  refine zV_aload_n (pc := 671) (i := 2) dL_law_671 rfl rfl ?_
  refine zV_arg (pc := 672) hL hi (by decide) dL_law_672 dL_law_673 dL_law_674 dL_law_675 dL_law_676 ?_
  refine zV_arg (pc := 677) hL hi (by decide) dL_law_677 dL_law_678 dL_law_679 dL_law_680 dL_law_681 ?_
  refine zV_arg (pc := 682) hL hi (by decide) dL_law_682 dL_law_683 dL_law_684 dL_law_685 dL_law_686 ?_
  refine zV_ivs (pc := 687) (ci := 10) dL_law_687 klL_89 mX10_diary ⟨by decide, rfl⟩ rfl hk h2 (zOb_of rfl) rfl rfl (Nat.le_of_ble_eq_true rfl) ?_
  rintro w N2 M2 ⟨rfl, rfl, hJ⟩
  exact zV_icmp_eqW (pc := 690) (tgt := 1123) dL_law_690 (by decide) (fun _ => K M2 hJ) (fun c => absurd rfl c)
theorem lw_c18 {i : Int} (hk : kc ≤ xL_law.rm.cells ∧ ks ≤ xL_law.rm.slots) (hL : g.2.2.2.2 301 ≤ 3072) (hi : 0 ≤ i ∧ i + 6 ≤ ((g.2.2.2.2 301 : Nat) : Int)) (h : zJn M) (K : ∀ M2, zJ M2 → zV g xL_law P 1123 [zr 1000300, zr 0, zr 58, zi i] [] 75 M2 kc ks) : zV g xL_law P 695 [zr 1000300, zr 0, zr 58, zi i] [] 75 M kc ks := by
  refine zV_aload_n (pc := 695) (i := 1) dL_law_695 rfl rfl ?_
  refine zV_arg (pc := 696) hL hi (by decide) dL_law_696 dL_law_697 dL_law_698 dL_law_699 dL_law_700 ?_
  refine zV_arg (pc := 701) hL hi (by decide) dL_law_701 dL_law_702 dL_law_703 dL_law_704 dL_law_705 ?_
  refine zV_ivs (pc := 706) (ci := 9) dL_law_706 klL_90 mX9_rounds ⟨by decide, rfl⟩ rfl hk (s_rounds h zsc_in zsc_in) (zOb_of rfl) rfl rfl (Nat.le_of_ble_eq_true rfl) ?_
  rintro w N1 M1 ⟨rfl, v, rfl, h2⟩
  refine zV_aload_n (pc := 709) (i := 2) dL_law_709 rfl rfl ?_
  refine zV_arg (pc := 710) hL hi (by decide) dL_law_710 dL_law_711 dL_law_712 dL_law_713 dL_law_714 ?_
  refine zV_arg (pc := 715) hL hi (by decide) dL_law_715 dL_law_716 dL_law_717 dL_law_718 dL_law_719 ?_
  refine zV_ivs (pc := 720) (ci := 10) dL_law_720 klL_94 mX10_rounds ⟨by decide, rfl⟩ rfl hk h2 (zOb_of rfl) rfl rfl (Nat.le_of_ble_eq_true rfl) ?_
  rintro w N2 M2 ⟨rfl, rfl, hJ⟩
  refine zV_lcmpS (pc := 723) dL_law_723 ?_
  exact zV_if_eqW (pc := 724) (tgt := 1123) dL_law_724 (by decide) (fun _ => K M2 hJ) (fun c => absurd rfl c)
theorem lw_c19 {i : Int} (hk : kc ≤ xL_law.rm.cells ∧ ks ≤ xL_law.rm.slots) (hL : g.2.2.2.2 301 ≤ 3072) (hi : 0 ≤ i ∧ i + 6 ≤ ((g.2.2.2.2 301 : Nat) : Int)) (h : zJn M) (K : ∀ M2, zJ M2 → zV g xL_law P 1123 [zr 1000300, zr 0, zr 58, zi i] [] 75 M2 kc ks) : zV g xL_law P 729 [zr 1000300, zr 0, zr 58, zi i] [] 75 M kc ks := by
  refine zV_aload_n (pc := 729) (i := 1) dL_law_729 rfl rfl ?_
  refine zV_arg (pc := 730) hL hi (by decide) dL_law_730 dL_law_731 dL_law_732 dL_law_733 dL_law_734 ?_
  refine zV_arg (pc := 735) hL hi (by decide) dL_law_735 dL_law_736 dL_law_737 dL_law_738 dL_law_739 ?_
  refine zV_arg (pc := 740) hL hi (by decide) dL_law_740 dL_law_741 dL_law_742 dL_law_743 dL_law_744 ?_
  refine zV_ivs (pc := 745) (ci := 9) dL_law_745 klL_95 mX9_film ⟨by decide, rfl⟩ rfl hk (s_film h zsc_in zsc_in zsc_in) (zOb_of rfl) rfl rfl (Nat.le_of_ble_eq_true rfl) ?_
  rintro w N1 M1 ⟨rfl, v, rfl, h2⟩
  refine zV_aload_n (pc := 748) (i := 2) dL_law_748 rfl rfl ?_
  refine zV_arg (pc := 749) hL hi (by decide) dL_law_749 dL_law_750 dL_law_751 dL_law_752 dL_law_753 ?_
  refine zV_arg (pc := 754) hL hi (by decide) dL_law_754 dL_law_755 dL_law_756 dL_law_757 dL_law_758 ?_
  refine zV_arg (pc := 759) hL hi (by decide) dL_law_759 dL_law_760 dL_law_761 dL_law_762 dL_law_763 ?_
  refine zV_ivs (pc := 764) (ci := 10) dL_law_764 klL_98 mX10_film ⟨by decide, rfl⟩ rfl hk h2 (zOb_of rfl) rfl rfl (Nat.le_of_ble_eq_true rfl) ?_
  rintro w N2 M2 ⟨rfl, rfl, hJ⟩
  exact zV_icmp_eqW (pc := 767) (tgt := 1123) dL_law_767 (by decide) (fun _ => K M2 hJ) (fun c => absurd rfl c)
theorem lw_c20 {i : Int} (hk : kc ≤ xL_law.rm.cells ∧ ks ≤ xL_law.rm.slots) (hL : g.2.2.2.2 301 ≤ 3072) (hi : 0 ≤ i ∧ i + 6 ≤ ((g.2.2.2.2 301 : Nat) : Int)) (h : zJn M) (K : ∀ M2, zJ M2 → zV g xL_law P 1123 [zr 1000300, zr 0, zr 58, zi i] [] 75 M2 kc ks) : zV g xL_law P 772 [zr 1000300, zr 0, zr 58, zi i] [] 75 M kc ks := by
  refine zV_aload_n (pc := 772) (i := 1) dL_law_772 rfl rfl ?_
  refine zV_arg (pc := 773) hL hi (by decide) dL_law_773 dL_law_774 dL_law_775 dL_law_776 dL_law_777 ?_
  refine zV_ivs (pc := 778) (ci := 9) dL_law_778 klL_99 mX9_drawn ⟨by decide, rfl⟩ rfl hk (s_drawn h zsc_in) (zOb_of rfl) rfl rfl (Nat.le_of_ble_eq_true rfl) ?_
  rintro w N1 M1 ⟨rfl, v, rfl, h2⟩
  refine zV_aload_n (pc := 781) (i := 2) dL_law_781 rfl rfl ?_
  refine zV_arg (pc := 782) hL hi (by decide) dL_law_782 dL_law_783 dL_law_784 dL_law_785 dL_law_786 ?_
  refine zV_ivs (pc := 787) (ci := 10) dL_law_787 klL_102 mX10_drawn ⟨by decide, rfl⟩ rfl hk h2 (zOb_of rfl) rfl rfl (Nat.le_of_ble_eq_true rfl) ?_
  rintro w N2 M2 ⟨rfl, rfl, hJ⟩
  exact zV_icmp_eqW (pc := 790) (tgt := 1123) dL_law_790 (by decide) (fun _ => K M2 hJ) (fun c => absurd rfl c)
theorem lw_c21 {i : Int} (hk : kc ≤ xL_law.rm.cells ∧ ks ≤ xL_law.rm.slots) (hL : g.2.2.2.2 301 ≤ 3072) (hi : 0 ≤ i ∧ i + 6 ≤ ((g.2.2.2.2 301 : Nat) : Int)) (h : zJn M) (K : ∀ M2, zJ M2 → zV g xL_law P 1123 [zr 1000300, zr 0, zr 58, zi i] [] 75 M2 kc ks) : zV g xL_law P 795 [zr 1000300, zr 0, zr 58, zi i] [] 75 M kc ks := by
  refine zV_aload_n (pc := 795) (i := 1) dL_law_795 rfl rfl ?_
  refine zV_arg (pc := 796) hL hi (by decide) dL_law_796 dL_law_797 dL_law_798 dL_law_799 dL_law_800 ?_
  refine zV_arg (pc := 801) hL hi (by decide) dL_law_801 dL_law_802 dL_law_803 dL_law_804 dL_law_805 ?_
  refine zV_arg (pc := 806) hL hi (by decide) dL_law_806 dL_law_807 dL_law_808 dL_law_809 dL_law_810 ?_
  refine zV_ivs (pc := 811) (ci := 9) dL_law_811 klL_103 mX9_chance ⟨by decide, rfl⟩ rfl hk (s_chance h zsc_in zsc_in zsc_in) (zOb_of rfl) rfl rfl (Nat.le_of_ble_eq_true rfl) ?_
  rintro w N1 M1 ⟨rfl, v, rfl, h2⟩
  refine zV_aload_n (pc := 814) (i := 2) dL_law_814 rfl rfl ?_
  refine zV_arg (pc := 815) hL hi (by decide) dL_law_815 dL_law_816 dL_law_817 dL_law_818 dL_law_819 ?_
  refine zV_arg (pc := 820) hL hi (by decide) dL_law_820 dL_law_821 dL_law_822 dL_law_823 dL_law_824 ?_
  refine zV_arg (pc := 825) hL hi (by decide) dL_law_825 dL_law_826 dL_law_827 dL_law_828 dL_law_829 ?_
  refine zV_ivs (pc := 830) (ci := 10) dL_law_830 klL_107 mX10_chance ⟨by decide, rfl⟩ rfl hk h2 (zOb_of rfl) rfl rfl (Nat.le_of_ble_eq_true rfl) ?_
  rintro w N2 M2 ⟨rfl, rfl, hJ⟩
  refine zV_lcmpS (pc := 833) dL_law_833 ?_
  exact zV_if_eqW (pc := 834) (tgt := 1123) dL_law_834 (by decide) (fun _ => K M2 hJ) (fun c => absurd rfl c)
theorem lw_c22 {i : Int} (hk : kc ≤ xL_law.rm.cells ∧ ks ≤ xL_law.rm.slots) (hL : g.2.2.2.2 301 ≤ 3072) (hi : 0 ≤ i ∧ i + 6 ≤ ((g.2.2.2.2 301 : Nat) : Int)) (h : zJn M) (K : ∀ M2, zJ M2 → zV g xL_law P 1123 [zr 1000300, zr 0, zr 58, zi i] [] 75 M2 kc ks) : zV g xL_law P 839 [zr 1000300, zr 0, zr 58, zi i] [] 75 M kc ks := by
  refine zV_aload_n (pc := 839) (i := 1) dL_law_839 rfl rfl ?_
  refine zV_ivs (pc := 840) (ci := 9) dL_law_840 klL_108 mX9_image ⟨by decide, rfl⟩ rfl hk (s_image h) (zOb_of rfl) rfl rfl (Nat.le_of_ble_eq_true rfl) ?_
  rintro w N1 M1 ⟨rfl, v, rfl, h2⟩
  refine zV_aload_n (pc := 843) (i := 2) dL_law_843 rfl rfl ?_
  refine zV_ivs (pc := 844) (ci := 10) dL_law_844 klL_111 mX10_image ⟨by decide, rfl⟩ rfl hk h2 (zOb_of rfl) rfl rfl (Nat.le_of_ble_eq_true rfl) ?_
  rintro w N2 M2 ⟨rfl, rfl, hJ⟩
  exact zV_icmp_eqW (pc := 847) (tgt := 1123) dL_law_847 (by decide) (fun _ => K M2 hJ) (fun c => absurd rfl c)
theorem lw_c23 {i : Int} (hk : kc ≤ xL_law.rm.cells ∧ ks ≤ xL_law.rm.slots) (hL : g.2.2.2.2 301 ≤ 3072) (hi : 0 ≤ i ∧ i + 6 ≤ ((g.2.2.2.2 301 : Nat) : Int)) (h : zJn M) (K : ∀ M2, zJ M2 → zV g xL_law P 1123 [zr 1000300, zr 0, zr 58, zi i] [] 75 M2 kc ks) : zV g xL_law P 852 [zr 1000300, zr 0, zr 58, zi i] [] 75 M kc ks := by
  refine zV_aload_n (pc := 852) (i := 1) dL_law_852 rfl rfl ?_
  refine zV_ivs (pc := 853) (ci := 9) dL_law_853 klL_112 mX9_back ⟨by decide, rfl⟩ rfl hk (s_back h) (zOb_of rfl) rfl rfl (Nat.le_of_ble_eq_true rfl) ?_
  rintro w N1 M1 ⟨rfl, v, rfl, h2⟩
  refine zV_aload_n (pc := 856) (i := 2) dL_law_856 rfl rfl ?_
  refine zV_ivs (pc := 857) (ci := 10) dL_law_857 klL_115 mX10_back ⟨by decide, rfl⟩ rfl hk h2 (zOb_of rfl) rfl rfl (Nat.le_of_ble_eq_true rfl) ?_
  rintro w N2 M2 ⟨rfl, rfl, hJ⟩
  exact zV_icmp_eqW (pc := 860) (tgt := 1123) dL_law_860 (by decide) (fun _ => K M2 hJ) (fun c => absurd rfl c)
theorem lw_c24 {i : Int} (hk : kc ≤ xL_law.rm.cells ∧ ks ≤ xL_law.rm.slots) (hL : g.2.2.2.2 301 ≤ 3072) (hi : 0 ≤ i ∧ i + 6 ≤ ((g.2.2.2.2 301 : Nat) : Int)) (h : zJn M) (K : ∀ M2, zJ M2 → zV g xL_law P 1123 [zr 1000300, zr 0, zr 58, zi i] [] 75 M2 kc ks) : zV g xL_law P 865 [zr 1000300, zr 0, zr 58, zi i] [] 75 M kc ks := by
  refine zV_aload_n (pc := 865) (i := 1) dL_law_865 rfl rfl ?_
  refine zV_arg (pc := 866) hL hi (by decide) dL_law_866 dL_law_867 dL_law_868 dL_law_869 dL_law_870 ?_
  refine zV_ivs (pc := 871) (ci := 9) dL_law_871 klL_116 mX9_count ⟨by decide, rfl⟩ rfl hk (s_count h zsc_in) (zOb_of rfl) rfl rfl (Nat.le_of_ble_eq_true rfl) ?_
  rintro w N1 M1 ⟨rfl, v, rfl, h2⟩
  refine zV_aload_n (pc := 874) (i := 2) dL_law_874 rfl rfl ?_
  refine zV_arg (pc := 875) hL hi (by decide) dL_law_875 dL_law_876 dL_law_877 dL_law_878 dL_law_879 ?_
  refine zV_ivs (pc := 880) (ci := 10) dL_law_880 klL_119 mX10_count ⟨by decide, rfl⟩ rfl hk h2 (zOb_of rfl) rfl rfl (Nat.le_of_ble_eq_true rfl) ?_
  rintro w N2 M2 ⟨rfl, rfl, hJ⟩
  exact zV_icmp_eqW (pc := 883) (tgt := 1123) dL_law_883 (by decide) (fun _ => K M2 hJ) (fun c => absurd rfl c)
theorem lw_c25 {i : Int} (hk : kc ≤ xL_law.rm.cells ∧ ks ≤ xL_law.rm.slots) (hL : g.2.2.2.2 301 ≤ 3072) (hi : 0 ≤ i ∧ i + 6 ≤ ((g.2.2.2.2 301 : Nat) : Int)) (h : zJn M) (K : ∀ M2, zJ M2 → zV g xL_law P 1123 [zr 1000300, zr 0, zr 58, zi i] [] 75 M2 kc ks) : zV g xL_law P 888 [zr 1000300, zr 0, zr 58, zi i] [] 75 M kc ks := by
  refine zV_aload_n (pc := 888) (i := 1) dL_law_888 rfl rfl ?_
  refine zV_arg (pc := 889) hL hi (by decide) dL_law_889 dL_law_890 dL_law_891 dL_law_892 dL_law_893 ?_
  refine zV_arg (pc := 894) hL hi (by decide) dL_law_894 dL_law_895 dL_law_896 dL_law_897 dL_law_898 ?_
  refine zV_arg (pc := 899) hL hi (by decide) dL_law_899 dL_law_900 dL_law_901 dL_law_902 dL_law_903 ?_
  refine zV_ivs (pc := 904) (ci := 9) dL_law_904 klL_120 mX9_sheet ⟨by decide, rfl⟩ rfl hk (s_sheet h zsc_in zsc_in zsc_in) (zOb_of rfl) rfl rfl (Nat.le_of_ble_eq_true rfl) ?_
  rintro w N1 M1 ⟨rfl, v, rfl, h2⟩
  refine zV_aload_n (pc := 907) (i := 2) dL_law_907 rfl rfl ?_
  refine zV_arg (pc := 908) hL hi (by decide) dL_law_908 dL_law_909 dL_law_910 dL_law_911 dL_law_912 ?_
  refine zV_arg (pc := 913) hL hi (by decide) dL_law_913 dL_law_914 dL_law_915 dL_law_916 dL_law_917 ?_
  refine zV_arg (pc := 918) hL hi (by decide) dL_law_918 dL_law_919 dL_law_920 dL_law_921 dL_law_922 ?_
  refine zV_ivs (pc := 923) (ci := 10) dL_law_923 klL_123 mX10_sheet ⟨by decide, rfl⟩ rfl hk h2 (zOb_of rfl) rfl rfl (Nat.le_of_ble_eq_true rfl) ?_
  rintro w N2 M2 ⟨rfl, rfl, hJ⟩
  exact zV_icmp_eqW (pc := 926) (tgt := 1123) dL_law_926 (by decide) (fun _ => K M2 hJ) (fun c => absurd rfl c)
theorem lw_c26 {i : Int} (hk : kc ≤ xL_law.rm.cells ∧ ks ≤ xL_law.rm.slots) (hL : g.2.2.2.2 301 ≤ 3072) (hi : 0 ≤ i ∧ i + 6 ≤ ((g.2.2.2.2 301 : Nat) : Int)) (h : zJn M) (K : ∀ M2, zJ M2 → zV g xL_law P 1123 [zr 1000300, zr 0, zr 58, zi i] [] 75 M2 kc ks) : zV g xL_law P 931 [zr 1000300, zr 0, zr 58, zi i] [] 75 M kc ks := by
  refine zV_aload_n (pc := 931) (i := 1) dL_law_931 rfl rfl ?_
  refine zV_arg (pc := 932) hL hi (by decide) dL_law_932 dL_law_933 dL_law_934 dL_law_935 dL_law_936 ?_
  refine zV_arg (pc := 937) hL hi (by decide) dL_law_937 dL_law_938 dL_law_939 dL_law_940 dL_law_941 ?_
  refine zV_arg (pc := 942) hL hi (by decide) dL_law_942 dL_law_943 dL_law_944 dL_law_945 dL_law_946 ?_
  refine zV_ivs (pc := 947) (ci := 9) dL_law_947 klL_124 mX9_cell ⟨by decide, rfl⟩ rfl hk (s_cell h zsc_in zsc_in zsc_in) (zOb_of rfl) rfl rfl (Nat.le_of_ble_eq_true rfl) ?_
  rintro w N1 M1 ⟨rfl, v, rfl, h2⟩
  refine zV_aload_n (pc := 950) (i := 2) dL_law_950 rfl rfl ?_
  refine zV_arg (pc := 951) hL hi (by decide) dL_law_951 dL_law_952 dL_law_953 dL_law_954 dL_law_955 ?_
  refine zV_arg (pc := 956) hL hi (by decide) dL_law_956 dL_law_957 dL_law_958 dL_law_959 dL_law_960 ?_
  refine zV_arg (pc := 961) hL hi (by decide) dL_law_961 dL_law_962 dL_law_963 dL_law_964 dL_law_965 ?_
  refine zV_ivs (pc := 966) (ci := 10) dL_law_966 klL_127 mX10_cell ⟨by decide, rfl⟩ rfl hk h2 (zOb_of rfl) rfl rfl (Nat.le_of_ble_eq_true rfl) ?_
  rintro w N2 M2 ⟨rfl, rfl, hJ⟩
  exact zV_icmp_eqW (pc := 969) (tgt := 1123) dL_law_969 (by decide) (fun _ => K M2 hJ) (fun c => absurd rfl c)
theorem lw_c27 {i : Int} (hk : kc ≤ xL_law.rm.cells ∧ ks ≤ xL_law.rm.slots) (hL : g.2.2.2.2 301 ≤ 3072) (hi : 0 ≤ i ∧ i + 6 ≤ ((g.2.2.2.2 301 : Nat) : Int)) (h : zJn M) (K : ∀ M2, zJ M2 → zV g xL_law P 1123 [zr 1000300, zr 0, zr 58, zi i] [] 75 M2 kc ks) : zV g xL_law P 974 [zr 1000300, zr 0, zr 58, zi i] [] 75 M kc ks := by
  refine zV_aload_n (pc := 974) (i := 1) dL_law_974 rfl rfl ?_
  refine zV_arg (pc := 975) hL hi (by decide) dL_law_975 dL_law_976 dL_law_977 dL_law_978 dL_law_979 ?_
  refine zV_arg (pc := 980) hL hi (by decide) dL_law_980 dL_law_981 dL_law_982 dL_law_983 dL_law_984 ?_
  refine zV_arg (pc := 985) hL hi (by decide) dL_law_985 dL_law_986 dL_law_987 dL_law_988 dL_law_989 ?_
  refine zV_arg (pc := 990) hL hi (by decide) dL_law_990 dL_law_991 dL_law_992 dL_law_993 dL_law_994 ?_
  refine zV_arg (pc := 995) hL hi (by decide) dL_law_995 dL_law_996 dL_law_997 dL_law_998 dL_law_999 ?_
  refine zV_ivs (pc := 1000) (ci := 9) dL_law_1000 klL_128 mX9_copy ⟨by decide, rfl⟩ rfl hk (s_copy h zsc_in zsc_in zsc_in zsc_in zsc_in) (zOb_of rfl) rfl rfl (Nat.le_of_ble_eq_true rfl) ?_
  rintro w N1 M1 ⟨rfl, v, rfl, h2⟩
  refine zV_aload_n (pc := 1003) (i := 2) dL_law_1003 rfl rfl ?_
  refine zV_arg (pc := 1004) hL hi (by decide) dL_law_1004 dL_law_1005 dL_law_1006 dL_law_1007 dL_law_1008 ?_
  refine zV_arg (pc := 1009) hL hi (by decide) dL_law_1009 dL_law_1010 dL_law_1011 dL_law_1012 dL_law_1013 ?_
  refine zV_arg (pc := 1014) hL hi (by decide) dL_law_1014 dL_law_1015 dL_law_1016 dL_law_1017 dL_law_1018 ?_
  refine zV_arg (pc := 1019) hL hi (by decide) dL_law_1019 dL_law_1020 dL_law_1021 dL_law_1022 dL_law_1023 ?_
  refine zV_arg (pc := 1024) hL hi (by decide) dL_law_1024 dL_law_1025 dL_law_1026 dL_law_1027 dL_law_1028 ?_
  refine zV_ivs (pc := 1029) (ci := 10) dL_law_1029 klL_132 mX10_copy ⟨by decide, rfl⟩ rfl hk h2 (zOb_of rfl) rfl rfl (Nat.le_of_ble_eq_true rfl) ?_
  rintro w N2 M2 ⟨rfl, rfl, hJ⟩
  exact zV_icmp_eqW (pc := 1032) (tgt := 1123) dL_law_1032 (by decide) (fun _ => K M2 hJ) (fun c => absurd rfl c)
theorem lw_c28 {i : Int} (hk : kc ≤ xL_law.rm.cells ∧ ks ≤ xL_law.rm.slots) (hL : g.2.2.2.2 301 ≤ 3072) (hi : 0 ≤ i ∧ i + 6 ≤ ((g.2.2.2.2 301 : Nat) : Int)) (h : zJn M) (K : ∀ M2, zJ M2 → zV g xL_law P 1123 [zr 1000300, zr 0, zr 58, zi i] [] 75 M2 kc ks) : zV g xL_law P 1037 [zr 1000300, zr 0, zr 58, zi i] [] 75 M kc ks := by
  refine zV_aload_n (pc := 1037) (i := 1) dL_law_1037 rfl rfl ?_
  refine zV_arg (pc := 1038) hL hi (by decide) dL_law_1038 dL_law_1039 dL_law_1040 dL_law_1041 dL_law_1042 ?_
  refine zV_arg (pc := 1043) hL hi (by decide) dL_law_1043 dL_law_1044 dL_law_1045 dL_law_1046 dL_law_1047 ?_
  refine zV_arg (pc := 1048) hL hi (by decide) dL_law_1048 dL_law_1049 dL_law_1050 dL_law_1051 dL_law_1052 ?_
  refine zV_arg (pc := 1053) hL hi (by decide) dL_law_1053 dL_law_1054 dL_law_1055 dL_law_1056 dL_law_1057 ?_
  refine zV_ivs (pc := 1058) (ci := 9) dL_law_1058 klL_133 mX9_things ⟨by decide, rfl⟩ rfl hk (s_things h zsc_in zsc_in zsc_in zsc_in) (zOb_of rfl) rfl rfl (Nat.le_of_ble_eq_true rfl) ?_
  rintro w N1 M1 ⟨rfl, v, rfl, h2⟩
  refine zV_aload_n (pc := 1061) (i := 2) dL_law_1061 rfl rfl ?_
  refine zV_arg (pc := 1062) hL hi (by decide) dL_law_1062 dL_law_1063 dL_law_1064 dL_law_1065 dL_law_1066 ?_
  refine zV_arg (pc := 1067) hL hi (by decide) dL_law_1067 dL_law_1068 dL_law_1069 dL_law_1070 dL_law_1071 ?_
  refine zV_arg (pc := 1072) hL hi (by decide) dL_law_1072 dL_law_1073 dL_law_1074 dL_law_1075 dL_law_1076 ?_
  refine zV_arg (pc := 1077) hL hi (by decide) dL_law_1077 dL_law_1078 dL_law_1079 dL_law_1080 dL_law_1081 ?_
  refine zV_ivs (pc := 1082) (ci := 10) dL_law_1082 klL_137 mX10_things ⟨by decide, rfl⟩ rfl hk h2 (zOb_of rfl) rfl rfl (Nat.le_of_ble_eq_true rfl) ?_
  rintro w N2 M2 ⟨rfl, rfl, hJ⟩
  exact zV_icmp_eqW (pc := 1085) (tgt := 1123) dL_law_1085 (by decide) (fun _ => K M2 hJ) (fun c => absurd rfl c)
theorem lw_c29 {i : Int} (hk : kc ≤ xL_law.rm.cells ∧ ks ≤ xL_law.rm.slots) (hL : g.2.2.2.2 301 ≤ 3072) (hi : 0 ≤ i ∧ i + 6 ≤ ((g.2.2.2.2 301 : Nat) : Int)) (h : zJn M) (K : ∀ M2, zJ M2 → zV g xL_law P 1123 [zr 1000300, zr 0, zr 58, zi i] [] 75 M2 kc ks) : zV g xL_law P 1090 [zr 1000300, zr 0, zr 58, zi i] [] 75 M kc ks := by
  refine zV_aload_n (pc := 1090) (i := 1) dL_law_1090 rfl rfl ?_
  refine zV_arg (pc := 1091) hL hi (by decide) dL_law_1091 dL_law_1092 dL_law_1093 dL_law_1094 dL_law_1095 ?_
  refine zV_arg (pc := 1096) hL hi (by decide) dL_law_1096 dL_law_1097 dL_law_1098 dL_law_1099 dL_law_1100 ?_
  refine zV_ivs (pc := 1101) (ci := 9) dL_law_1101 klL_138 mX9_taken ⟨by decide, rfl⟩ rfl hk (s_taken h zsc_in zsc_in) (zOb_of rfl) rfl rfl (Nat.le_of_ble_eq_true rfl) ?_
  rintro w N1 M1 ⟨rfl, v, rfl, h2⟩
  refine zV_aload_n (pc := 1104) (i := 2) dL_law_1104 rfl rfl ?_
  refine zV_arg (pc := 1105) hL hi (by decide) dL_law_1105 dL_law_1106 dL_law_1107 dL_law_1108 dL_law_1109 ?_
  refine zV_arg (pc := 1110) hL hi (by decide) dL_law_1110 dL_law_1111 dL_law_1112 dL_law_1113 dL_law_1114 ?_
  refine zV_ivs (pc := 1115) (ci := 10) dL_law_1115 klL_141 mX10_taken ⟨by decide, rfl⟩ rfl hk h2 (zOb_of rfl) rfl rfl (Nat.le_of_ble_eq_true rfl) ?_
  rintro w N2 M2 ⟨rfl, rfl, hJ⟩
  exact zV_icmp_eqW (pc := 1118) (tgt := 1123) dL_law_1118 (by decide) (fun _ => K M2 hJ) (fun c => absurd rfl c)
end
