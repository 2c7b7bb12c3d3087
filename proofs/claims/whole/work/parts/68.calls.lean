/-! the law: its calls, its loop -/
theorem lg_vv (v : Int64) : lg_cmp v v = 0 := by
  unfold lg_cmp
  rw [if_neg (by simp), if_pos rfl]
section LW
variable {l : Launch} {X : CX} {G : GG} {T : List Sh} {σ : Sg} {L : List (Option Value)} {st : List Value} {pc : Nat} {bc : ByteArray} {own : String} {nL D b Ls : Nat} {sc : Nat → Int32}
theorem r_slen (B : Bd l X G bc own nL D) (hX : va_X b Ls sc (xs X) (xs X).heap) (hbl : b < (xs X).heap.size) (hbA : ¬ AA G b) (d : decode bc pc = .ok (.arraylength, 1)) (kk : V X G T σ L (.int (nI Ls) :: st) (pc + 1)) : V X G T σ L (.ref b :: st) pc := fun H locs ls hP hS hl => va_slen B.1 B.2.1 hX hbl hbA hS d (kk H locs ls hP hS hl)
theorem r_sld (B : Bd l X G bc own nL D) (hX : va_X b Ls sc (xs X) (xs X).heap) (hbl : b < (xs X).heap.size) (hbA : ¬ AA G b) {x : Int32} {j : Nat} (hx : x = nI j) (hj : j < Ls) (hL : Ls < 2 ^ 31) (d : decode bc pc = .ok (.iaload, 1)) (kk : V X G T σ L (.int (sc j) :: st) (pc + 1)) : V X G T σ L (.int x :: .ref b :: st) pc := fun H locs ls hP hS hl => by
  subst hx
  refine va_sld B.1 B.2.1 hX hbl hbA hS (vp_in_nI hj hL) d ?_
  rw [nI_clamp (by omega)]
  exact kk H locs ls hP hS hl
end LW
set_option maxHeartbeats 4000000 in
set_option maxRecDepth 20000 in
theorem L_step {l : Launch} {X : CX} {G : GG} {b Ls : Nat} {sc : Nat → Int32} (B : Bd l X G code RL 4 13) (hX : va_X b Ls sc (xs X) (xs X).heap) (hbl : b < (xs X).heap.size) (hbA : ¬ AA G b) (hL : Ls ≤ 3072) {i : Nat} {σ : Sg} (I : Inv i σ) (hi : i ≤ 512) (hr : 6 * i + 6 ≤ Ls) (K : ∀ υ, wI (i + 1) υ → V X G shT υ [some (.ref b), some (.ref (ad G 0)), some (.ref (ad G 65)), some (.int (nI (6 * i)))] [] 1356) : V X G shT σ [some (.ref b), some (.ref (ad G 0)), some (.ref (ad G 65)), some (.int (nI (6 * i)))] [] 212 := by
  refine r_aload_n (pc := 212) B dL_law_212 rfl ?_
  refine r_aload_n (pc := 213) B dL_law_213 rfl ?_
  refine r_iload_n (pc := 214) B dL_law_214 rfl ?_
  refine r_iconst (pc := 215) (x := 1) B dL_law_215 (by decide) ?_
  refine r_iadd (pc := 216) B dL_law_216 ?_
  refine r_sld (pc := 217) (j := 6 * i + 1) B hX hbl hbA (nI_add _ 1) (by omega) (by omega) dL_law_217 ?_
  refine r_aload_n (pc := 218) B dL_law_218 rfl ?_
  refine r_iload_n (pc := 219) B dL_law_219 rfl ?_
  refine r_iconst (pc := 220) (x := 2) B dL_law_220 (by decide) ?_
  refine r_iadd (pc := 221) B dL_law_221 ?_
  refine r_sld (pc := 222) (j := 6 * i + 2) B hX hbl hbA (nI_add _ 2) (by omega) (by omega) dL_law_222 ?_
  refine r_aload_n (pc := 223) B dL_law_223 rfl ?_
  refine r_iload_n (pc := 224) B dL_law_224 rfl ?_
  refine r_iconst (pc := 225) (x := 3) B dL_law_225 (by decide) ?_
  refine r_iadd (pc := 226) B dL_law_226 ?_
  refine r_sld (pc := 227) (j := 6 * i + 3) B hX hbl hbA (nI_add _ 3) (by omega) (by omega) dL_law_227 ?_
  refine r_cV (pc := 228) (As := [.int (sc (6 * i + 1)), .int (sc (6 * i + 2)), .int (sc (6 * i + 3))]) (C := yX7_step.cls) (rest := []) B KL_13 (p_step l G I hi (sc (6 * i + 1)) (sc (6 * i + 2)) (sc (6 * i + 3))) (by decide) rfl (kb := 0) rfl rfl (Nat.le_of_ble_eq_true rfl) dL_law_228 (fun r τ hq => ?_)
  obtain ⟨v, rfl, c2⟩ := hq
  show V X G shT τ [some (.ref b), some (.ref (ad G 0)), some (.ref (ad G 65)), some (.int (nI (6 * i)))] [.int v] 231
  refine r_aload_n (pc := 231) B dL_law_231 rfl ?_
  refine r_aload_n (pc := 232) B dL_law_232 rfl ?_
  refine r_iload_n (pc := 233) B dL_law_233 rfl ?_
  refine r_iconst (pc := 234) (x := 1) B dL_law_234 (by decide) ?_
  refine r_iadd (pc := 235) B dL_law_235 ?_
  refine r_sld (pc := 236) (j := 6 * i + 1) B hX hbl hbA (nI_add _ 1) (by omega) (by omega) dL_law_236 ?_
  refine r_aload_n (pc := 237) B dL_law_237 rfl ?_
  refine r_iload_n (pc := 238) B dL_law_238 rfl ?_
  refine r_iconst (pc := 239) (x := 2) B dL_law_239 (by decide) ?_
  refine r_iadd (pc := 240) B dL_law_240 ?_
  refine r_sld (pc := 241) (j := 6 * i + 2) B hX hbl hbA (nI_add _ 2) (by omega) (by omega) dL_law_241 ?_
  refine r_aload_n (pc := 242) B dL_law_242 rfl ?_
  refine r_iload_n (pc := 243) B dL_law_243 rfl ?_
  refine r_iconst (pc := 244) (x := 3) B dL_law_244 (by decide) ?_
  refine r_iadd (pc := 245) B dL_law_245 ?_
  refine r_sld (pc := 246) (j := 6 * i + 3) B hX hbl hbA (nI_add _ 3) (by omega) (by omega) dL_law_246 ?_
  refine r_cV (pc := 247) (As := [.int (sc (6 * i + 1)), .int (sc (6 * i + 2)), .int (sc (6 * i + 3))]) (C := yX8_step.cls) (rest := [.int v]) B KL_17 c2 (by decide) rfl (kb := 65) rfl rfl (Nat.le_of_ble_eq_true rfl) dL_law_247 (fun r2 υ hq2 => ?_)
  obtain ⟨rfl, hI⟩ := hq2
  show V X G shT υ [some (.ref b), some (.ref (ad G 0)), some (.ref (ad G 65)), some (.int (nI (6 * i)))] [.int v, .int v] 250
  exact r_icmp_eq (pc := 250) B 1356 dL_law_250 (by decide) (fun _ => K υ hI) (fun h => absurd rfl h)
set_option maxHeartbeats 4000000 in
set_option maxRecDepth 20000 in
theorem L_stepOf {l : Launch} {X : CX} {G : GG} {b Ls : Nat} {sc : Nat → Int32} (B : Bd l X G code RL 4 13) (hX : va_X b Ls sc (xs X) (xs X).heap) (hbl : b < (xs X).heap.size) (hbA : ¬ AA G b) (hL : Ls ≤ 3072) {i : Nat} {σ : Sg} (I : Inv i σ) (hi : i ≤ 512) (hr : 6 * i + 6 ≤ Ls) (K : ∀ υ, wI (i + 1) υ → V X G shT υ [some (.ref b), some (.ref (ad G 0)), some (.ref (ad G 65)), some (.int (nI (6 * i)))] [] 1356) : V X G shT σ [some (.ref b), some (.ref (ad G 0)), some (.ref (ad G 65)), some (.int (nI (6 * i)))] [] 255 := by
  refine r_aload_n (pc := 255) B dL_law_255 rfl ?_
  refine r_aload_n (pc := 256) B dL_law_256 rfl ?_
  refine r_iload_n (pc := 257) B dL_law_257 rfl ?_
  refine r_iconst (pc := 258) (x := 1) B dL_law_258 (by decide) ?_
  refine r_iadd (pc := 259) B dL_law_259 ?_
  refine r_sld (pc := 260) (j := 6 * i + 1) B hX hbl hbA (nI_add _ 1) (by omega) (by omega) dL_law_260 ?_
  refine r_aload_n (pc := 261) B dL_law_261 rfl ?_
  refine r_iload_n (pc := 262) B dL_law_262 rfl ?_
  refine r_iconst (pc := 263) (x := 2) B dL_law_263 (by decide) ?_
  refine r_iadd (pc := 264) B dL_law_264 ?_
  refine r_sld (pc := 265) (j := 6 * i + 2) B hX hbl hbA (nI_add _ 2) (by omega) (by omega) dL_law_265 ?_
  refine r_cV (pc := 266) (As := [.int (sc (6 * i + 1)), .int (sc (6 * i + 2))]) (C := yX7_stepOf.cls) (rest := []) B KL_18 (p_stepOf l G I hi (sc (6 * i + 1)) (sc (6 * i + 2))) (by decide) rfl (kb := 0) rfl rfl (Nat.le_of_ble_eq_true rfl) dL_law_266 (fun r τ hq => ?_)
  obtain ⟨v, rfl, c2⟩ := hq
  show V X G shT τ [some (.ref b), some (.ref (ad G 0)), some (.ref (ad G 65)), some (.int (nI (6 * i)))] [.int v] 269
  refine r_aload_n (pc := 269) B dL_law_269 rfl ?_
  refine r_aload_n (pc := 270) B dL_law_270 rfl ?_
  refine r_iload_n (pc := 271) B dL_law_271 rfl ?_
  refine r_iconst (pc := 272) (x := 1) B dL_law_272 (by decide) ?_
  refine r_iadd (pc := 273) B dL_law_273 ?_
  refine r_sld (pc := 274) (j := 6 * i + 1) B hX hbl hbA (nI_add _ 1) (by omega) (by omega) dL_law_274 ?_
  refine r_aload_n (pc := 275) B dL_law_275 rfl ?_
  refine r_iload_n (pc := 276) B dL_law_276 rfl ?_
  refine r_iconst (pc := 277) (x := 2) B dL_law_277 (by decide) ?_
  refine r_iadd (pc := 278) B dL_law_278 ?_
  refine r_sld (pc := 279) (j := 6 * i + 2) B hX hbl hbA (nI_add _ 2) (by omega) (by omega) dL_law_279 ?_
  refine r_cV (pc := 280) (As := [.int (sc (6 * i + 1)), .int (sc (6 * i + 2))]) (C := yX8_stepOf.cls) (rest := [.int v]) B KL_22 c2 (by decide) rfl (kb := 65) rfl rfl (Nat.le_of_ble_eq_true rfl) dL_law_280 (fun r2 υ hq2 => ?_)
  obtain ⟨rfl, hI⟩ := hq2
  show V X G shT υ [some (.ref b), some (.ref (ad G 0)), some (.ref (ad G 65)), some (.int (nI (6 * i)))] [.int v, .int v] 283
  exact r_icmp_eq (pc := 283) B 1356 dL_law_283 (by decide) (fun _ => K υ hI) (fun h => absurd rfl h)
set_option maxHeartbeats 4000000 in
set_option maxRecDepth 20000 in
theorem L_weather {l : Launch} {X : CX} {G : GG} {b Ls : Nat} {sc : Nat → Int32} (B : Bd l X G code RL 4 13) (hX : va_X b Ls sc (xs X) (xs X).heap) (hbl : b < (xs X).heap.size) (hbA : ¬ AA G b) (hL : Ls ≤ 3072) {i : Nat} {σ : Sg} (I : Inv i σ) (hi : i ≤ 512) (hr : 6 * i + 6 ≤ Ls) (K : ∀ υ, wI (i + 1) υ → V X G shT υ [some (.ref b), some (.ref (ad G 0)), some (.ref (ad G 65)), some (.int (nI (6 * i)))] [] 1356) : V X G shT σ [some (.ref b), some (.ref (ad G 0)), some (.ref (ad G 65)), some (.int (nI (6 * i)))] [] 288 := by
  refine r_aload_n (pc := 288) B dL_law_288 rfl ?_
  refine r_aload_n (pc := 289) B dL_law_289 rfl ?_
  refine r_iload_n (pc := 290) B dL_law_290 rfl ?_
  refine r_iconst (pc := 291) (x := 1) B dL_law_291 (by decide) ?_
  refine r_iadd (pc := 292) B dL_law_292 ?_
  refine r_sld (pc := 293) (j := 6 * i + 1) B hX hbl hbA (nI_add _ 1) (by omega) (by omega) dL_law_293 ?_
  refine r_aload_n (pc := 294) B dL_law_294 rfl ?_
  refine r_iload_n (pc := 295) B dL_law_295 rfl ?_
  refine r_iconst (pc := 296) (x := 2) B dL_law_296 (by decide) ?_
  refine r_iadd (pc := 297) B dL_law_297 ?_
  refine r_sld (pc := 298) (j := 6 * i + 2) B hX hbl hbA (nI_add _ 2) (by omega) (by omega) dL_law_298 ?_
  refine r_cV (pc := 299) (As := [.int (sc (6 * i + 1)), .int (sc (6 * i + 2))]) (C := yX7_weather.cls) (rest := []) B KL_23 (p_weather l G I hi (sc (6 * i + 1)) (sc (6 * i + 2))) (by decide) rfl (kb := 0) rfl rfl (Nat.le_of_ble_eq_true rfl) dL_law_299 (fun r τ hq => ?_)
  obtain ⟨v, rfl, c2⟩ := hq
  show V X G shT τ [some (.ref b), some (.ref (ad G 0)), some (.ref (ad G 65)), some (.int (nI (6 * i)))] [.int v] 302
  refine r_aload_n (pc := 302) B dL_law_302 rfl ?_
  refine r_aload_n (pc := 303) B dL_law_303 rfl ?_
  refine r_iload_n (pc := 304) B dL_law_304 rfl ?_
  refine r_iconst (pc := 305) (x := 1) B dL_law_305 (by decide) ?_
  refine r_iadd (pc := 306) B dL_law_306 ?_
  refine r_sld (pc := 307) (j := 6 * i + 1) B hX hbl hbA (nI_add _ 1) (by omega) (by omega) dL_law_307 ?_
  refine r_aload_n (pc := 308) B dL_law_308 rfl ?_
  refine r_iload_n (pc := 309) B dL_law_309 rfl ?_
  refine r_iconst (pc := 310) (x := 2) B dL_law_310 (by decide) ?_
  refine r_iadd (pc := 311) B dL_law_311 ?_
  refine r_sld (pc := 312) (j := 6 * i + 2) B hX hbl hbA (nI_add _ 2) (by omega) (by omega) dL_law_312 ?_
  refine r_cV (pc := 313) (As := [.int (sc (6 * i + 1)), .int (sc (6 * i + 2))]) (C := yX8_weather.cls) (rest := [.int v]) B KL_26 c2 (by decide) rfl (kb := 65) rfl rfl (Nat.le_of_ble_eq_true rfl) dL_law_313 (fun r2 υ hq2 => ?_)
  obtain ⟨rfl, hI⟩ := hq2
  show V X G shT υ [some (.ref b), some (.ref (ad G 0)), some (.ref (ad G 65)), some (.int (nI (6 * i)))] [.int v, .int v] 316
  exact r_icmp_eq (pc := 316) B 1356 dL_law_316 (by decide) (fun _ => K υ hI) (fun h => absurd rfl h)
set_option maxHeartbeats 4000000 in
set_option maxRecDepth 20000 in
theorem L_umbrella {l : Launch} {X : CX} {G : GG} {b Ls : Nat} {sc : Nat → Int32} (B : Bd l X G code RL 4 13) (hX : va_X b Ls sc (xs X) (xs X).heap) (hbl : b < (xs X).heap.size) (hbA : ¬ AA G b) (hL : Ls ≤ 3072) {i : Nat} {σ : Sg} (I : Inv i σ) (hi : i ≤ 512) (hr : 6 * i + 6 ≤ Ls) (K : ∀ υ, wI (i + 1) υ → V X G shT υ [some (.ref b), some (.ref (ad G 0)), some (.ref (ad G 65)), some (.int (nI (6 * i)))] [] 1356) : V X G shT σ [some (.ref b), some (.ref (ad G 0)), some (.ref (ad G 65)), some (.int (nI (6 * i)))] [] 321 := by
  refine r_aload_n (pc := 321) B dL_law_321 rfl ?_
  refine r_aload_n (pc := 322) B dL_law_322 rfl ?_
  refine r_iload_n (pc := 323) B dL_law_323 rfl ?_
  refine r_iconst (pc := 324) (x := 1) B dL_law_324 (by decide) ?_
  refine r_iadd (pc := 325) B dL_law_325 ?_
  refine r_sld (pc := 326) (j := 6 * i + 1) B hX hbl hbA (nI_add _ 1) (by omega) (by omega) dL_law_326 ?_
  refine r_cV (pc := 327) (As := [.int (sc (6 * i + 1))]) (C := yX7_umbrella.cls) (rest := []) B KL_27 (p_umbrella l G I hi (sc (6 * i + 1))) (by decide) rfl (kb := 0) rfl rfl (Nat.le_of_ble_eq_true rfl) dL_law_327 (fun r τ hq => ?_)
  obtain ⟨v, rfl, c2⟩ := hq
  show V X G shT τ [some (.ref b), some (.ref (ad G 0)), some (.ref (ad G 65)), some (.int (nI (6 * i)))] [.int v] 330
  refine r_aload_n (pc := 330) B dL_law_330 rfl ?_
  refine r_aload_n (pc := 331) B dL_law_331 rfl ?_
  refine r_iload_n (pc := 332) B dL_law_332 rfl ?_
  refine r_iconst (pc := 333) (x := 1) B dL_law_333 (by decide) ?_
  refine r_iadd (pc := 334) B dL_law_334 ?_
  refine r_sld (pc := 335) (j := 6 * i + 1) B hX hbl hbA (nI_add _ 1) (by omega) (by omega) dL_law_335 ?_
  refine r_cV (pc := 336) (As := [.int (sc (6 * i + 1))]) (C := yX8_umbrella.cls) (rest := [.int v]) B KL_31 c2 (by decide) rfl (kb := 65) rfl rfl (Nat.le_of_ble_eq_true rfl) dL_law_336 (fun r2 υ hq2 => ?_)
  obtain ⟨rfl, hI⟩ := hq2
  show V X G shT υ [some (.ref b), some (.ref (ad G 0)), some (.ref (ad G 65)), some (.int (nI (6 * i)))] [.int v, .int v] 339
  exact r_icmp_eq (pc := 339) B 1356 dL_law_339 (by decide) (fun _ => K υ hI) (fun h => absurd rfl h)
set_option maxHeartbeats 4000000 in
set_option maxRecDepth 20000 in
theorem L_of {l : Launch} {X : CX} {G : GG} {b Ls : Nat} {sc : Nat → Int32} (B : Bd l X G code RL 4 13) (hX : va_X b Ls sc (xs X) (xs X).heap) (hbl : b < (xs X).heap.size) (hbA : ¬ AA G b) (hL : Ls ≤ 3072) {i : Nat} {σ : Sg} (I : Inv i σ) (hi : i ≤ 512) (hr : 6 * i + 6 ≤ Ls) (K : ∀ υ, wI (i + 1) υ → V X G shT υ [some (.ref b), some (.ref (ad G 0)), some (.ref (ad G 65)), some (.int (nI (6 * i)))] [] 1356) : V X G shT σ [some (.ref b), some (.ref (ad G 0)), some (.ref (ad G 65)), some (.int (nI (6 * i)))] [] 344 := by
  refine r_aload_n (pc := 344) B dL_law_344 rfl ?_
  refine r_aload_n (pc := 345) B dL_law_345 rfl ?_
  refine r_iload_n (pc := 346) B dL_law_346 rfl ?_
  refine r_iconst (pc := 347) (x := 1) B dL_law_347 (by decide) ?_
  refine r_iadd (pc := 348) B dL_law_348 ?_
  refine r_sld (pc := 349) (j := 6 * i + 1) B hX hbl hbA (nI_add _ 1) (by omega) (by omega) dL_law_349 ?_
  refine r_aload_n (pc := 350) B dL_law_350 rfl ?_
  refine r_iload_n (pc := 351) B dL_law_351 rfl ?_
  refine r_iconst (pc := 352) (x := 2) B dL_law_352 (by decide) ?_
  refine r_iadd (pc := 353) B dL_law_353 ?_
  refine r_sld (pc := 354) (j := 6 * i + 2) B hX hbl hbA (nI_add _ 2) (by omega) (by omega) dL_law_354 ?_
  refine r_cV (pc := 355) (As := [.int (sc (6 * i + 1)), .int (sc (6 * i + 2))]) (C := yX7_of.cls) (rest := []) B KL_32 (p_of l G I hi (sc (6 * i + 1)) (sc (6 * i + 2))) (by decide) rfl (kb := 0) rfl rfl (Nat.le_of_ble_eq_true rfl) dL_law_355 (fun r τ hq => ?_)
  obtain ⟨v, rfl, c2⟩ := hq
  show V X G shT τ [some (.ref b), some (.ref (ad G 0)), some (.ref (ad G 65)), some (.int (nI (6 * i)))] [.int v] 358
  refine r_aload_n (pc := 358) B dL_law_358 rfl ?_
  refine r_aload_n (pc := 359) B dL_law_359 rfl ?_
  refine r_iload_n (pc := 360) B dL_law_360 rfl ?_
  refine r_iconst (pc := 361) (x := 1) B dL_law_361 (by decide) ?_
  refine r_iadd (pc := 362) B dL_law_362 ?_
  refine r_sld (pc := 363) (j := 6 * i + 1) B hX hbl hbA (nI_add _ 1) (by omega) (by omega) dL_law_363 ?_
  refine r_aload_n (pc := 364) B dL_law_364 rfl ?_
  refine r_iload_n (pc := 365) B dL_law_365 rfl ?_
  refine r_iconst (pc := 366) (x := 2) B dL_law_366 (by decide) ?_
  refine r_iadd (pc := 367) B dL_law_367 ?_
  refine r_sld (pc := 368) (j := 6 * i + 2) B hX hbl hbA (nI_add _ 2) (by omega) (by omega) dL_law_368 ?_
  refine r_cV (pc := 369) (As := [.int (sc (6 * i + 1)), .int (sc (6 * i + 2))]) (C := yX8_of.cls) (rest := [.int v]) B KL_35 c2 (by decide) rfl (kb := 65) rfl rfl (Nat.le_of_ble_eq_true rfl) dL_law_369 (fun r2 υ hq2 => ?_)
  obtain ⟨rfl, hI⟩ := hq2
  show V X G shT υ [some (.ref b), some (.ref (ad G 0)), some (.ref (ad G 65)), some (.int (nI (6 * i)))] [.int v, .int v] 372
  exact r_icmp_eq (pc := 372) B 1356 dL_law_372 (by decide) (fun _ => K υ hI) (fun h => absurd rfl h)
set_option maxHeartbeats 4000000 in
set_option maxRecDepth 20000 in
theorem L_change {l : Launch} {X : CX} {G : GG} {b Ls : Nat} {sc : Nat → Int32} (B : Bd l X G code RL 4 13) (hX : va_X b Ls sc (xs X) (xs X).heap) (hbl : b < (xs X).heap.size) (hbA : ¬ AA G b) (hL : Ls ≤ 3072) {i : Nat} {σ : Sg} (I : Inv i σ) (hi : i ≤ 512) (hr : 6 * i + 6 ≤ Ls) (K : ∀ υ, wI (i + 1) υ → V X G shT υ [some (.ref b), some (.ref (ad G 0)), some (.ref (ad G 65)), some (.int (nI (6 * i)))] [] 1356) : V X G shT σ [some (.ref b), some (.ref (ad G 0)), some (.ref (ad G 65)), some (.int (nI (6 * i)))] [] 377 := by
  refine r_aload_n (pc := 377) B dL_law_377 rfl ?_
  refine r_aload_n (pc := 378) B dL_law_378 rfl ?_
  refine r_iload_n (pc := 379) B dL_law_379 rfl ?_
  refine r_iconst (pc := 380) (x := 1) B dL_law_380 (by decide) ?_
  refine r_iadd (pc := 381) B dL_law_381 ?_
  refine r_sld (pc := 382) (j := 6 * i + 1) B hX hbl hbA (nI_add _ 1) (by omega) (by omega) dL_law_382 ?_
  refine r_aload_n (pc := 383) B dL_law_383 rfl ?_
  refine r_iload_n (pc := 384) B dL_law_384 rfl ?_
  refine r_iconst (pc := 385) (x := 2) B dL_law_385 (by decide) ?_
  refine r_iadd (pc := 386) B dL_law_386 ?_
  refine r_sld (pc := 387) (j := 6 * i + 2) B hX hbl hbA (nI_add _ 2) (by omega) (by omega) dL_law_387 ?_
  refine r_aload_n (pc := 388) B dL_law_388 rfl ?_
  refine r_iload_n (pc := 389) B dL_law_389 rfl ?_
  refine r_iconst (pc := 390) (x := 3) B dL_law_390 (by decide) ?_
  refine r_iadd (pc := 391) B dL_law_391 ?_
  refine r_sld (pc := 392) (j := 6 * i + 3) B hX hbl hbA (nI_add _ 3) (by omega) (by omega) dL_law_392 ?_
  refine r_cV (pc := 393) (As := [.int (sc (6 * i + 1)), .int (sc (6 * i + 2)), .int (sc (6 * i + 3))]) (C := yX7_change.cls) (rest := []) B KL_36 (p_change l G I hi (sc (6 * i + 1)) (sc (6 * i + 2)) (sc (6 * i + 3))) (by decide) rfl (kb := 0) rfl rfl (Nat.le_of_ble_eq_true rfl) dL_law_393 (fun r τ hq => ?_)
  obtain ⟨v, rfl, c2⟩ := hq
  show V X G shT τ [some (.ref b), some (.ref (ad G 0)), some (.ref (ad G 65)), some (.int (nI (6 * i)))] [.int v] 396
  refine r_aload_n (pc := 396) B dL_law_396 rfl ?_
  refine r_aload_n (pc := 397) B dL_law_397 rfl ?_
  refine r_iload_n (pc := 398) B dL_law_398 rfl ?_
  refine r_iconst (pc := 399) (x := 1) B dL_law_399 (by decide) ?_
  refine r_iadd (pc := 400) B dL_law_400 ?_
  refine r_sld (pc := 401) (j := 6 * i + 1) B hX hbl hbA (nI_add _ 1) (by omega) (by omega) dL_law_401 ?_
  refine r_aload_n (pc := 402) B dL_law_402 rfl ?_
  refine r_iload_n (pc := 403) B dL_law_403 rfl ?_
  refine r_iconst (pc := 404) (x := 2) B dL_law_404 (by decide) ?_
  refine r_iadd (pc := 405) B dL_law_405 ?_
  refine r_sld (pc := 406) (j := 6 * i + 2) B hX hbl hbA (nI_add _ 2) (by omega) (by omega) dL_law_406 ?_
  refine r_aload_n (pc := 407) B dL_law_407 rfl ?_
  refine r_iload_n (pc := 408) B dL_law_408 rfl ?_
  refine r_iconst (pc := 409) (x := 3) B dL_law_409 (by decide) ?_
  refine r_iadd (pc := 410) B dL_law_410 ?_
  refine r_sld (pc := 411) (j := 6 * i + 3) B hX hbl hbA (nI_add _ 3) (by omega) (by omega) dL_law_411 ?_
  refine r_cV (pc := 412) (As := [.int (sc (6 * i + 1)), .int (sc (6 * i + 2)), .int (sc (6 * i + 3))]) (C := yX8_change.cls) (rest := [.int v]) B KL_39 c2 (by decide) rfl (kb := 65) rfl rfl (Nat.le_of_ble_eq_true rfl) dL_law_412 (fun r2 υ hq2 => ?_)
  obtain ⟨rfl, hI⟩ := hq2
  show V X G shT υ [some (.ref b), some (.ref (ad G 0)), some (.ref (ad G 65)), some (.int (nI (6 * i)))] [.int v, .int v] 415
  exact r_icmp_eq (pc := 415) B 1356 dL_law_415 (by decide) (fun _ => K υ hI) (fun h => absurd rfl h)
set_option maxHeartbeats 4000000 in
set_option maxRecDepth 20000 in
theorem L_bears {l : Launch} {X : CX} {G : GG} {b Ls : Nat} {sc : Nat → Int32} (B : Bd l X G code RL 4 13) (hX : va_X b Ls sc (xs X) (xs X).heap) (hbl : b < (xs X).heap.size) (hbA : ¬ AA G b) (hL : Ls ≤ 3072) {i : Nat} {σ : Sg} (I : Inv i σ) (hi : i ≤ 512) (hr : 6 * i + 6 ≤ Ls) (K : ∀ υ, wI (i + 1) υ → V X G shT υ [some (.ref b), some (.ref (ad G 0)), some (.ref (ad G 65)), some (.int (nI (6 * i)))] [] 1356) : V X G shT σ [some (.ref b), some (.ref (ad G 0)), some (.ref (ad G 65)), some (.int (nI (6 * i)))] [] 420 := by
  refine r_aload_n (pc := 420) B dL_law_420 rfl ?_
  refine r_aload_n (pc := 421) B dL_law_421 rfl ?_
  refine r_iload_n (pc := 422) B dL_law_422 rfl ?_
  refine r_iconst (pc := 423) (x := 1) B dL_law_423 (by decide) ?_
  refine r_iadd (pc := 424) B dL_law_424 ?_
  refine r_sld (pc := 425) (j := 6 * i + 1) B hX hbl hbA (nI_add _ 1) (by omega) (by omega) dL_law_425 ?_
  refine r_aload_n (pc := 426) B dL_law_426 rfl ?_
  refine r_iload_n (pc := 427) B dL_law_427 rfl ?_
  refine r_iconst (pc := 428) (x := 2) B dL_law_428 (by decide) ?_
  refine r_iadd (pc := 429) B dL_law_429 ?_
  refine r_sld (pc := 430) (j := 6 * i + 2) B hX hbl hbA (nI_add _ 2) (by omega) (by omega) dL_law_430 ?_
  refine r_aload_n (pc := 431) B dL_law_431 rfl ?_
  refine r_iload_n (pc := 432) B dL_law_432 rfl ?_
  refine r_iconst (pc := 433) (x := 3) B dL_law_433 (by decide) ?_
  refine r_iadd (pc := 434) B dL_law_434 ?_
  refine r_sld (pc := 435) (j := 6 * i + 3) B hX hbl hbA (nI_add _ 3) (by omega) (by omega) dL_law_435 ?_
  refine r_cV (pc := 436) (As := [.int (sc (6 * i + 1)), .int (sc (6 * i + 2)), .int (sc (6 * i + 3))]) (C := yX7_bears.cls) (rest := []) B KL_40 (p_bears l G I hi (sc (6 * i + 1)) (sc (6 * i + 2)) (sc (6 * i + 3))) (by decide) rfl (kb := 0) rfl rfl (Nat.le_of_ble_eq_true rfl) dL_law_436 (fun r τ hq => ?_)
  obtain ⟨v, rfl, c2⟩ := hq
  show V X G shT τ [some (.ref b), some (.ref (ad G 0)), some (.ref (ad G 65)), some (.int (nI (6 * i)))] [.int v] 439
  refine r_aload_n (pc := 439) B dL_law_439 rfl ?_
  refine r_aload_n (pc := 440) B dL_law_440 rfl ?_
  refine r_iload_n (pc := 441) B dL_law_441 rfl ?_
  refine r_iconst (pc := 442) (x := 1) B dL_law_442 (by decide) ?_
  refine r_iadd (pc := 443) B dL_law_443 ?_
  refine r_sld (pc := 444) (j := 6 * i + 1) B hX hbl hbA (nI_add _ 1) (by omega) (by omega) dL_law_444 ?_
  refine r_aload_n (pc := 445) B dL_law_445 rfl ?_
  refine r_iload_n (pc := 446) B dL_law_446 rfl ?_
  refine r_iconst (pc := 447) (x := 2) B dL_law_447 (by decide) ?_
  refine r_iadd (pc := 448) B dL_law_448 ?_
  refine r_sld (pc := 449) (j := 6 * i + 2) B hX hbl hbA (nI_add _ 2) (by omega) (by omega) dL_law_449 ?_
  refine r_aload_n (pc := 450) B dL_law_450 rfl ?_
  refine r_iload_n (pc := 451) B dL_law_451 rfl ?_
  refine r_iconst (pc := 452) (x := 3) B dL_law_452 (by decide) ?_
  refine r_iadd (pc := 453) B dL_law_453 ?_
  refine r_sld (pc := 454) (j := 6 * i + 3) B hX hbl hbA (nI_add _ 3) (by omega) (by omega) dL_law_454 ?_
  refine r_cV (pc := 455) (As := [.int (sc (6 * i + 1)), .int (sc (6 * i + 2)), .int (sc (6 * i + 3))]) (C := yX8_bears.cls) (rest := [.int v]) B KL_43 c2 (by decide) rfl (kb := 65) rfl rfl (Nat.le_of_ble_eq_true rfl) dL_law_455 (fun r2 υ hq2 => ?_)
  obtain ⟨rfl, hI⟩ := hq2
  show V X G shT υ [some (.ref b), some (.ref (ad G 0)), some (.ref (ad G 65)), some (.int (nI (6 * i)))] [.int v, .int v] 458
  exact r_icmp_eq (pc := 458) B 1356 dL_law_458 (by decide) (fun _ => K υ hI) (fun h => absurd rfl h)
set_option maxHeartbeats 4000000 in
set_option maxRecDepth 20000 in
theorem L_go {l : Launch} {X : CX} {G : GG} {b Ls : Nat} {sc : Nat → Int32} (B : Bd l X G code RL 4 13) (hX : va_X b Ls sc (xs X) (xs X).heap) (hbl : b < (xs X).heap.size) (hbA : ¬ AA G b) (hL : Ls ≤ 3072) {i : Nat} {σ : Sg} (I : Inv i σ) (hi : i ≤ 512) (hr : 6 * i + 6 ≤ Ls) (K : ∀ υ, wI (i + 1) υ → V X G shT υ [some (.ref b), some (.ref (ad G 0)), some (.ref (ad G 65)), some (.int (nI (6 * i)))] [] 1356) : V X G shT σ [some (.ref b), some (.ref (ad G 0)), some (.ref (ad G 65)), some (.int (nI (6 * i)))] [] 463 := by
  refine r_aload_n (pc := 463) B dL_law_463 rfl ?_
  refine r_aload_n (pc := 464) B dL_law_464 rfl ?_
  refine r_iload_n (pc := 465) B dL_law_465 rfl ?_
  refine r_iconst (pc := 466) (x := 1) B dL_law_466 (by decide) ?_
  refine r_iadd (pc := 467) B dL_law_467 ?_
  refine r_sld (pc := 468) (j := 6 * i + 1) B hX hbl hbA (nI_add _ 1) (by omega) (by omega) dL_law_468 ?_
  refine r_cV (pc := 469) (As := [.int (sc (6 * i + 1))]) (C := yX7_go.cls) (rest := []) B KL_44 (p_go l G I hi (sc (6 * i + 1))) (by decide) rfl (kb := 0) rfl rfl (Nat.le_of_ble_eq_true rfl) dL_law_469 (fun r τ hq => ?_)
  obtain ⟨v, rfl, c2⟩ := hq
  show V X G shT τ [some (.ref b), some (.ref (ad G 0)), some (.ref (ad G 65)), some (.int (nI (6 * i)))] [.int v] 472
  refine r_aload_n (pc := 472) B dL_law_472 rfl ?_
  refine r_aload_n (pc := 473) B dL_law_473 rfl ?_
  refine r_iload_n (pc := 474) B dL_law_474 rfl ?_
  refine r_iconst (pc := 475) (x := 1) B dL_law_475 (by decide) ?_
  refine r_iadd (pc := 476) B dL_law_476 ?_
  refine r_sld (pc := 477) (j := 6 * i + 1) B hX hbl hbA (nI_add _ 1) (by omega) (by omega) dL_law_477 ?_
  refine r_cV (pc := 478) (As := [.int (sc (6 * i + 1))]) (C := yX8_go.cls) (rest := [.int v]) B KL_47 c2 (by decide) rfl (kb := 65) rfl rfl (Nat.le_of_ble_eq_true rfl) dL_law_478 (fun r2 υ hq2 => ?_)
  obtain ⟨rfl, hI⟩ := hq2
  show V X G shT υ [some (.ref b), some (.ref (ad G 0)), some (.ref (ad G 65)), some (.int (nI (6 * i)))] [.int v, .int v] 481
  exact r_icmp_eq (pc := 481) B 1356 dL_law_481 (by decide) (fun _ => K υ hI) (fun h => absurd rfl h)
set_option maxHeartbeats 4000000 in
set_option maxRecDepth 20000 in
theorem L_now {l : Launch} {X : CX} {G : GG} {b Ls : Nat} {sc : Nat → Int32} (B : Bd l X G code RL 4 13) (hX : va_X b Ls sc (xs X) (xs X).heap) (hbl : b < (xs X).heap.size) (hbA : ¬ AA G b) (hL : Ls ≤ 3072) {i : Nat} {σ : Sg} (I : Inv i σ) (hi : i ≤ 512) (hr : 6 * i + 6 ≤ Ls) (K : ∀ υ, wI (i + 1) υ → V X G shT υ [some (.ref b), some (.ref (ad G 0)), some (.ref (ad G 65)), some (.int (nI (6 * i)))] [] 1356) : V X G shT σ [some (.ref b), some (.ref (ad G 0)), some (.ref (ad G 65)), some (.int (nI (6 * i)))] [] 486 := by
  refine r_aload_n (pc := 486) B dL_law_486 rfl ?_
  refine r_aload_n (pc := 487) B dL_law_487 rfl ?_
  refine r_iload_n (pc := 488) B dL_law_488 rfl ?_
  refine r_iconst (pc := 489) (x := 1) B dL_law_489 (by decide) ?_
  refine r_iadd (pc := 490) B dL_law_490 ?_
  refine r_sld (pc := 491) (j := 6 * i + 1) B hX hbl hbA (nI_add _ 1) (by omega) (by omega) dL_law_491 ?_
  refine r_cV (pc := 492) (As := [.int (sc (6 * i + 1))]) (C := yX7_now.cls) (rest := []) B KL_48 (p_now l G I hi (sc (6 * i + 1))) (by decide) rfl (kb := 0) rfl rfl (Nat.le_of_ble_eq_true rfl) dL_law_492 (fun r τ hq => ?_)
  obtain ⟨v, rfl, c2⟩ := hq
  show V X G shT τ [some (.ref b), some (.ref (ad G 0)), some (.ref (ad G 65)), some (.int (nI (6 * i)))] [.int v] 495
  refine r_aload_n (pc := 495) B dL_law_495 rfl ?_
  refine r_aload_n (pc := 496) B dL_law_496 rfl ?_
  refine r_iload_n (pc := 497) B dL_law_497 rfl ?_
  refine r_iconst (pc := 498) (x := 1) B dL_law_498 (by decide) ?_
  refine r_iadd (pc := 499) B dL_law_499 ?_
  refine r_sld (pc := 500) (j := 6 * i + 1) B hX hbl hbA (nI_add _ 1) (by omega) (by omega) dL_law_500 ?_
  refine r_cV (pc := 501) (As := [.int (sc (6 * i + 1))]) (C := yX8_now.cls) (rest := [.int v]) B KL_51 c2 (by decide) rfl (kb := 65) rfl rfl (Nat.le_of_ble_eq_true rfl) dL_law_501 (fun r2 υ hq2 => ?_)
  obtain ⟨rfl, hI⟩ := hq2
  show V X G shT υ [some (.ref b), some (.ref (ad G 0)), some (.ref (ad G 65)), some (.int (nI (6 * i)))] [.int v, .int v] 504
  exact r_icmp_eq (pc := 504) B 1356 dL_law_504 (by decide) (fun _ => K υ hI) (fun h => absurd rfl h)
set_option maxHeartbeats 4000000 in
set_option maxRecDepth 20000 in
theorem L_ahead {l : Launch} {X : CX} {G : GG} {b Ls : Nat} {sc : Nat → Int32} (B : Bd l X G code RL 4 13) (hX : va_X b Ls sc (xs X) (xs X).heap) (hbl : b < (xs X).heap.size) (hbA : ¬ AA G b) (hL : Ls ≤ 3072) {i : Nat} {σ : Sg} (I : Inv i σ) (hi : i ≤ 512) (hr : 6 * i + 6 ≤ Ls) (K : ∀ υ, wI (i + 1) υ → V X G shT υ [some (.ref b), some (.ref (ad G 0)), some (.ref (ad G 65)), some (.int (nI (6 * i)))] [] 1356) : V X G shT σ [some (.ref b), some (.ref (ad G 0)), some (.ref (ad G 65)), some (.int (nI (6 * i)))] [] 509 := by
  refine r_aload_n (pc := 509) B dL_law_509 rfl ?_
  refine r_aload_n (pc := 510) B dL_law_510 rfl ?_
  refine r_iload_n (pc := 511) B dL_law_511 rfl ?_
  refine r_iconst (pc := 512) (x := 1) B dL_law_512 (by decide) ?_
  refine r_iadd (pc := 513) B dL_law_513 ?_
  refine r_sld (pc := 514) (j := 6 * i + 1) B hX hbl hbA (nI_add _ 1) (by omega) (by omega) dL_law_514 ?_
  refine r_aload_n (pc := 515) B dL_law_515 rfl ?_
  refine r_iload_n (pc := 516) B dL_law_516 rfl ?_
  refine r_iconst (pc := 517) (x := 2) B dL_law_517 (by decide) ?_
  refine r_iadd (pc := 518) B dL_law_518 ?_
  refine r_sld (pc := 519) (j := 6 * i + 2) B hX hbl hbA (nI_add _ 2) (by omega) (by omega) dL_law_519 ?_
  refine r_aload_n (pc := 520) B dL_law_520 rfl ?_
  refine r_iload_n (pc := 521) B dL_law_521 rfl ?_
  refine r_iconst (pc := 522) (x := 3) B dL_law_522 (by decide) ?_
  refine r_iadd (pc := 523) B dL_law_523 ?_
  refine r_sld (pc := 524) (j := 6 * i + 3) B hX hbl hbA (nI_add _ 3) (by omega) (by omega) dL_law_524 ?_
  refine r_cV (pc := 525) (As := [.int (sc (6 * i + 1)), .int (sc (6 * i + 2)), .int (sc (6 * i + 3))]) (C := yX7_ahead.cls) (rest := []) B KL_52 (p_ahead l G I hi (sc (6 * i + 1)) (sc (6 * i + 2)) (sc (6 * i + 3))) (by decide) rfl (kb := 0) rfl rfl (Nat.le_of_ble_eq_true rfl) dL_law_525 (fun r τ hq => ?_)
  obtain ⟨v, rfl, c2⟩ := hq
  show V X G shT τ [some (.ref b), some (.ref (ad G 0)), some (.ref (ad G 65)), some (.int (nI (6 * i)))] [.int v] 528
  refine r_aload_n (pc := 528) B dL_law_528 rfl ?_
  refine r_aload_n (pc := 529) B dL_law_529 rfl ?_
  refine r_iload_n (pc := 530) B dL_law_530 rfl ?_
  refine r_iconst (pc := 531) (x := 1) B dL_law_531 (by decide) ?_
  refine r_iadd (pc := 532) B dL_law_532 ?_
  refine r_sld (pc := 533) (j := 6 * i + 1) B hX hbl hbA (nI_add _ 1) (by omega) (by omega) dL_law_533 ?_
  refine r_aload_n (pc := 534) B dL_law_534 rfl ?_
  refine r_iload_n (pc := 535) B dL_law_535 rfl ?_
  refine r_iconst (pc := 536) (x := 2) B dL_law_536 (by decide) ?_
  refine r_iadd (pc := 537) B dL_law_537 ?_
  refine r_sld (pc := 538) (j := 6 * i + 2) B hX hbl hbA (nI_add _ 2) (by omega) (by omega) dL_law_538 ?_
  refine r_aload_n (pc := 539) B dL_law_539 rfl ?_
  refine r_iload_n (pc := 540) B dL_law_540 rfl ?_
  refine r_iconst (pc := 541) (x := 3) B dL_law_541 (by decide) ?_
  refine r_iadd (pc := 542) B dL_law_542 ?_
  refine r_sld (pc := 543) (j := 6 * i + 3) B hX hbl hbA (nI_add _ 3) (by omega) (by omega) dL_law_543 ?_
  refine r_cV (pc := 544) (As := [.int (sc (6 * i + 1)), .int (sc (6 * i + 2)), .int (sc (6 * i + 3))]) (C := yX8_ahead.cls) (rest := [.int v]) B KL_55 c2 (by decide) rfl (kb := 65) rfl rfl (Nat.le_of_ble_eq_true rfl) dL_law_544 (fun r2 υ hq2 => ?_)
  obtain ⟨rfl, hI⟩ := hq2
  show V X G shT υ [some (.ref b), some (.ref (ad G 0)), some (.ref (ad G 65)), some (.int (nI (6 * i)))] [.int v, .int v] 547
  exact r_icmp_eq (pc := 547) B 1356 dL_law_547 (by decide) (fun _ => K υ hI) (fun h => absurd rfl h)
set_option maxHeartbeats 4000000 in
set_option maxRecDepth 20000 in
theorem L_home {l : Launch} {X : CX} {G : GG} {b Ls : Nat} {sc : Nat → Int32} (B : Bd l X G code RL 4 13) (hX : va_X b Ls sc (xs X) (xs X).heap) (hbl : b < (xs X).heap.size) (hbA : ¬ AA G b) (hL : Ls ≤ 3072) {i : Nat} {σ : Sg} (I : Inv i σ) (hi : i ≤ 512) (hr : 6 * i + 6 ≤ Ls) (K : ∀ υ, wI (i + 1) υ → V X G shT υ [some (.ref b), some (.ref (ad G 0)), some (.ref (ad G 65)), some (.int (nI (6 * i)))] [] 1356) : V X G shT σ [some (.ref b), some (.ref (ad G 0)), some (.ref (ad G 65)), some (.int (nI (6 * i)))] [] 552 := by
  refine r_aload_n (pc := 552) B dL_law_552 rfl ?_
  refine r_aload_n (pc := 553) B dL_law_553 rfl ?_
  refine r_iload_n (pc := 554) B dL_law_554 rfl ?_
  refine r_iconst (pc := 555) (x := 1) B dL_law_555 (by decide) ?_
  refine r_iadd (pc := 556) B dL_law_556 ?_
  refine r_sld (pc := 557) (j := 6 * i + 1) B hX hbl hbA (nI_add _ 1) (by omega) (by omega) dL_law_557 ?_
  refine r_cV (pc := 558) (As := [.int (sc (6 * i + 1))]) (C := yX7_home.cls) (rest := []) B KL_56 (p_home l G I hi (sc (6 * i + 1))) (by decide) rfl (kb := 0) rfl rfl (Nat.le_of_ble_eq_true rfl) dL_law_558 (fun r τ hq => ?_)
  obtain ⟨v, rfl, c2⟩ := hq
  show V X G shT τ [some (.ref b), some (.ref (ad G 0)), some (.ref (ad G 65)), some (.int (nI (6 * i)))] [.int v] 561
  refine r_aload_n (pc := 561) B dL_law_561 rfl ?_
  refine r_aload_n (pc := 562) B dL_law_562 rfl ?_
  refine r_iload_n (pc := 563) B dL_law_563 rfl ?_
  refine r_iconst (pc := 564) (x := 1) B dL_law_564 (by decide) ?_
  refine r_iadd (pc := 565) B dL_law_565 ?_
  refine r_sld (pc := 566) (j := 6 * i + 1) B hX hbl hbA (nI_add _ 1) (by omega) (by omega) dL_law_566 ?_
  refine r_cV (pc := 567) (As := [.int (sc (6 * i + 1))]) (C := yX8_home.cls) (rest := [.int v]) B KL_59 c2 (by decide) rfl (kb := 65) rfl rfl (Nat.le_of_ble_eq_true rfl) dL_law_567 (fun r2 υ hq2 => ?_)
  obtain ⟨rfl, hI⟩ := hq2
  show V X G shT υ [some (.ref b), some (.ref (ad G 0)), some (.ref (ad G 65)), some (.int (nI (6 * i)))] [.int v, .int v] 570
  exact r_icmp_eq (pc := 570) B 1356 dL_law_570 (by decide) (fun _ => K υ hI) (fun h => absurd rfl h)
set_option maxHeartbeats 4000000 in
set_option maxRecDepth 20000 in
theorem L_homeWith {l : Launch} {X : CX} {G : GG} {b Ls : Nat} {sc : Nat → Int32} (B : Bd l X G code RL 4 13) (hX : va_X b Ls sc (xs X) (xs X).heap) (hbl : b < (xs X).heap.size) (hbA : ¬ AA G b) (hL : Ls ≤ 3072) {i : Nat} {σ : Sg} (I : Inv i σ) (hi : i ≤ 512) (hr : 6 * i + 6 ≤ Ls) (K : ∀ υ, wI (i + 1) υ → V X G shT υ [some (.ref b), some (.ref (ad G 0)), some (.ref (ad G 65)), some (.int (nI (6 * i)))] [] 1356) : V X G shT σ [some (.ref b), some (.ref (ad G 0)), some (.ref (ad G 65)), some (.int (nI (6 * i)))] [] 575 := by
  refine r_aload_n (pc := 575) B dL_law_575 rfl ?_
  refine r_aload_n (pc := 576) B dL_law_576 rfl ?_
  refine r_iload_n (pc := 577) B dL_law_577 rfl ?_
  refine r_iconst (pc := 578) (x := 1) B dL_law_578 (by decide) ?_
  refine r_iadd (pc := 579) B dL_law_579 ?_
  refine r_sld (pc := 580) (j := 6 * i + 1) B hX hbl hbA (nI_add _ 1) (by omega) (by omega) dL_law_580 ?_
  refine r_aload_n (pc := 581) B dL_law_581 rfl ?_
  refine r_iload_n (pc := 582) B dL_law_582 rfl ?_
  refine r_iconst (pc := 583) (x := 2) B dL_law_583 (by decide) ?_
  refine r_iadd (pc := 584) B dL_law_584 ?_
  refine r_sld (pc := 585) (j := 6 * i + 2) B hX hbl hbA (nI_add _ 2) (by omega) (by omega) dL_law_585 ?_
  refine r_cV (pc := 586) (As := [.int (sc (6 * i + 1)), .int (sc (6 * i + 2))]) (C := yX7_homeWith.cls) (rest := []) B KL_60 (p_homeWith l G I hi (sc (6 * i + 1)) (sc (6 * i + 2))) (by decide) rfl (kb := 0) rfl rfl (Nat.le_of_ble_eq_true rfl) dL_law_586 (fun r τ hq => ?_)
  obtain ⟨v, rfl, c2⟩ := hq
  show V X G shT τ [some (.ref b), some (.ref (ad G 0)), some (.ref (ad G 65)), some (.int (nI (6 * i)))] [.int v] 589
  refine r_aload_n (pc := 589) B dL_law_589 rfl ?_
  refine r_aload_n (pc := 590) B dL_law_590 rfl ?_
  refine r_iload_n (pc := 591) B dL_law_591 rfl ?_
  refine r_iconst (pc := 592) (x := 1) B dL_law_592 (by decide) ?_
  refine r_iadd (pc := 593) B dL_law_593 ?_
  refine r_sld (pc := 594) (j := 6 * i + 1) B hX hbl hbA (nI_add _ 1) (by omega) (by omega) dL_law_594 ?_
  refine r_aload_n (pc := 595) B dL_law_595 rfl ?_
  refine r_iload_n (pc := 596) B dL_law_596 rfl ?_
  refine r_iconst (pc := 597) (x := 2) B dL_law_597 (by decide) ?_
  refine r_iadd (pc := 598) B dL_law_598 ?_
  refine r_sld (pc := 599) (j := 6 * i + 2) B hX hbl hbA (nI_add _ 2) (by omega) (by omega) dL_law_599 ?_
  refine r_cV (pc := 600) (As := [.int (sc (6 * i + 1)), .int (sc (6 * i + 2))]) (C := yX8_homeWith.cls) (rest := [.int v]) B KL_63 c2 (by decide) rfl (kb := 65) rfl rfl (Nat.le_of_ble_eq_true rfl) dL_law_600 (fun r2 υ hq2 => ?_)
  obtain ⟨rfl, hI⟩ := hq2
  show V X G shT υ [some (.ref b), some (.ref (ad G 0)), some (.ref (ad G 65)), some (.int (nI (6 * i)))] [.int v, .int v] 603
  exact r_icmp_eq (pc := 603) B 1356 dL_law_603 (by decide) (fun _ => K υ hI) (fun h => absurd rfl h)
set_option maxHeartbeats 4000000 in
set_option maxRecDepth 20000 in
theorem L_whup {l : Launch} {X : CX} {G : GG} {b Ls : Nat} {sc : Nat → Int32} (B : Bd l X G code RL 4 13) (hX : va_X b Ls sc (xs X) (xs X).heap) (hbl : b < (xs X).heap.size) (hbA : ¬ AA G b) (hL : Ls ≤ 3072) {i : Nat} {σ : Sg} (I : Inv i σ) (hi : i ≤ 512) (hr : 6 * i + 6 ≤ Ls) (K : ∀ υ, wI (i + 1) υ → V X G shT υ [some (.ref b), some (.ref (ad G 0)), some (.ref (ad G 65)), some (.int (nI (6 * i)))] [] 1356) : V X G shT σ [some (.ref b), some (.ref (ad G 0)), some (.ref (ad G 65)), some (.int (nI (6 * i)))] [] 608 := by
  refine r_aload_n (pc := 608) B dL_law_608 rfl ?_
  refine r_aload_n (pc := 609) B dL_law_609 rfl ?_
  refine r_iload_n (pc := 610) B dL_law_610 rfl ?_
  refine r_iconst (pc := 611) (x := 1) B dL_law_611 (by decide) ?_
  refine r_iadd (pc := 612) B dL_law_612 ?_
  refine r_sld (pc := 613) (j := 6 * i + 1) B hX hbl hbA (nI_add _ 1) (by omega) (by omega) dL_law_613 ?_
  refine r_cV (pc := 614) (As := [.int (sc (6 * i + 1))]) (C := yX7_whup.cls) (rest := []) B KL_64 (p_whup l G I hi (sc (6 * i + 1))) (by decide) rfl (kb := 0) rfl rfl (Nat.le_of_ble_eq_true rfl) dL_law_614 (fun r τ hq => ?_)
  obtain ⟨v, rfl, c2⟩ := hq
  show V X G shT τ [some (.ref b), some (.ref (ad G 0)), some (.ref (ad G 65)), some (.int (nI (6 * i)))] [.int v] 617
  refine r_aload_n (pc := 617) B dL_law_617 rfl ?_
  refine r_aload_n (pc := 618) B dL_law_618 rfl ?_
  refine r_iload_n (pc := 619) B dL_law_619 rfl ?_
  refine r_iconst (pc := 620) (x := 1) B dL_law_620 (by decide) ?_
  refine r_iadd (pc := 621) B dL_law_621 ?_
  refine r_sld (pc := 622) (j := 6 * i + 1) B hX hbl hbA (nI_add _ 1) (by omega) (by omega) dL_law_622 ?_
  refine r_cV (pc := 623) (As := [.int (sc (6 * i + 1))]) (C := yX8_whup.cls) (rest := [.int v]) B KL_67 c2 (by decide) rfl (kb := 65) rfl rfl (Nat.le_of_ble_eq_true rfl) dL_law_623 (fun r2 υ hq2 => ?_)
  obtain ⟨rfl, hI⟩ := hq2
  show V X G shT υ [some (.ref b), some (.ref (ad G 0)), some (.ref (ad G 65)), some (.int (nI (6 * i)))] [.int v, .int v] 626
  exact r_icmp_eq (pc := 626) B 1356 dL_law_626 (by decide) (fun _ => K υ hI) (fun h => absurd rfl h)
set_option maxHeartbeats 4000000 in
set_option maxRecDepth 20000 in
theorem L_first {l : Launch} {X : CX} {G : GG} {b Ls : Nat} {sc : Nat → Int32} (B : Bd l X G code RL 4 13) (hX : va_X b Ls sc (xs X) (xs X).heap) (hbl : b < (xs X).heap.size) (hbA : ¬ AA G b) (hL : Ls ≤ 3072) {i : Nat} {σ : Sg} (I : Inv i σ) (hi : i ≤ 512) (hr : 6 * i + 6 ≤ Ls) (K : ∀ υ, wI (i + 1) υ → V X G shT υ [some (.ref b), some (.ref (ad G 0)), some (.ref (ad G 65)), some (.int (nI (6 * i)))] [] 1356) : V X G shT σ [some (.ref b), some (.ref (ad G 0)), some (.ref (ad G 65)), some (.int (nI (6 * i)))] [] 631 := by
  refine r_aload_n (pc := 631) B dL_law_631 rfl ?_
  refine r_cV (pc := 632) (As := []) (C := yX7_first.cls) (rest := []) B KL_68 (p_first l G I hi) (by decide) rfl (kb := 0) rfl rfl (Nat.le_of_ble_eq_true rfl) dL_law_632 (fun r τ hq => ?_)
  obtain ⟨v, rfl, c2⟩ := hq
  show V X G shT τ [some (.ref b), some (.ref (ad G 0)), some (.ref (ad G 65)), some (.int (nI (6 * i)))] [.int v] 635
  refine r_aload_n (pc := 635) B dL_law_635 rfl ?_
  refine r_cV (pc := 636) (As := []) (C := yX8_first.cls) (rest := [.int v]) B KL_72 c2 (by decide) rfl (kb := 65) rfl rfl (Nat.le_of_ble_eq_true rfl) dL_law_636 (fun r2 υ hq2 => ?_)
  obtain ⟨rfl, hI⟩ := hq2
  show V X G shT υ [some (.ref b), some (.ref (ad G 0)), some (.ref (ad G 65)), some (.int (nI (6 * i)))] [.int v, .int v] 639
  exact r_icmp_eq (pc := 639) B 1356 dL_law_639 (by decide) (fun _ => K υ hI) (fun h => absurd rfl h)
set_option maxHeartbeats 4000000 in
set_option maxRecDepth 20000 in
theorem L_habitFor {l : Launch} {X : CX} {G : GG} {b Ls : Nat} {sc : Nat → Int32} (B : Bd l X G code RL 4 13) (hX : va_X b Ls sc (xs X) (xs X).heap) (hbl : b < (xs X).heap.size) (hbA : ¬ AA G b) (hL : Ls ≤ 3072) {i : Nat} {σ : Sg} (I : Inv i σ) (hi : i ≤ 512) (hr : 6 * i + 6 ≤ Ls) (K : ∀ υ, wI (i + 1) υ → V X G shT υ [some (.ref b), some (.ref (ad G 0)), some (.ref (ad G 65)), some (.int (nI (6 * i)))] [] 1356) : V X G shT σ [some (.ref b), some (.ref (ad G 0)), some (.ref (ad G 65)), some (.int (nI (6 * i)))] [] 644 := by
  refine r_aload_n (pc := 644) B dL_law_644 rfl ?_
  refine r_aload_n (pc := 645) B dL_law_645 rfl ?_
  refine r_iload_n (pc := 646) B dL_law_646 rfl ?_
  refine r_iconst (pc := 647) (x := 1) B dL_law_647 (by decide) ?_
  refine r_iadd (pc := 648) B dL_law_648 ?_
  refine r_sld (pc := 649) (j := 6 * i + 1) B hX hbl hbA (nI_add _ 1) (by omega) (by omega) dL_law_649 ?_
  refine r_cV (pc := 650) (As := [.int (sc (6 * i + 1))]) (C := yX7_habitFor.cls) (rest := []) B KL_73 (p_habitFor l G I hi (sc (6 * i + 1))) (by decide) rfl (kb := 0) rfl rfl (Nat.le_of_ble_eq_true rfl) dL_law_650 (fun r τ hq => ?_)
  obtain ⟨v, rfl, c2⟩ := hq
  show V X G shT τ [some (.ref b), some (.ref (ad G 0)), some (.ref (ad G 65)), some (.int (nI (6 * i)))] [.int v] 653
  refine r_aload_n (pc := 653) B dL_law_653 rfl ?_
  refine r_aload_n (pc := 654) B dL_law_654 rfl ?_
  refine r_iload_n (pc := 655) B dL_law_655 rfl ?_
  refine r_iconst (pc := 656) (x := 1) B dL_law_656 (by decide) ?_
  refine r_iadd (pc := 657) B dL_law_657 ?_
  refine r_sld (pc := 658) (j := 6 * i + 1) B hX hbl hbA (nI_add _ 1) (by omega) (by omega) dL_law_658 ?_
  refine r_cV (pc := 659) (As := [.int (sc (6 * i + 1))]) (C := yX8_habitFor.cls) (rest := [.int v]) B KL_76 c2 (by decide) rfl (kb := 65) rfl rfl (Nat.le_of_ble_eq_true rfl) dL_law_659 (fun r2 υ hq2 => ?_)
  obtain ⟨rfl, hI⟩ := hq2
  show V X G shT υ [some (.ref b), some (.ref (ad G 0)), some (.ref (ad G 65)), some (.int (nI (6 * i)))] [.int v, .int v] 662
  exact r_icmp_eq (pc := 662) B 1356 dL_law_662 (by decide) (fun _ => K υ hI) (fun h => absurd rfl h)
set_option maxHeartbeats 4000000 in
set_option maxRecDepth 20000 in
theorem L_heldFor {l : Launch} {X : CX} {G : GG} {b Ls : Nat} {sc : Nat → Int32} (B : Bd l X G code RL 4 13) (hX : va_X b Ls sc (xs X) (xs X).heap) (hbl : b < (xs X).heap.size) (hbA : ¬ AA G b) (hL : Ls ≤ 3072) {i : Nat} {σ : Sg} (I : Inv i σ) (hi : i ≤ 512) (hr : 6 * i + 6 ≤ Ls) (K : ∀ υ, wI (i + 1) υ → V X G shT υ [some (.ref b), some (.ref (ad G 0)), some (.ref (ad G 65)), some (.int (nI (6 * i)))] [] 1356) : V X G shT σ [some (.ref b), some (.ref (ad G 0)), some (.ref (ad G 65)), some (.int (nI (6 * i)))] [] 667 := by
  refine r_aload_n (pc := 667) B dL_law_667 rfl ?_
  refine r_aload_n (pc := 668) B dL_law_668 rfl ?_
  refine r_iload_n (pc := 669) B dL_law_669 rfl ?_
  refine r_iconst (pc := 670) (x := 1) B dL_law_670 (by decide) ?_
  refine r_iadd (pc := 671) B dL_law_671 ?_
  refine r_sld (pc := 672) (j := 6 * i + 1) B hX hbl hbA (nI_add _ 1) (by omega) (by omega) dL_law_672 ?_
  refine r_cV (pc := 673) (As := [.int (sc (6 * i + 1))]) (C := yX7_heldFor.cls) (rest := []) B KL_77 (p_heldFor l G I hi (sc (6 * i + 1))) (by decide) rfl (kb := 0) rfl rfl (Nat.le_of_ble_eq_true rfl) dL_law_673 (fun r τ hq => ?_)
  obtain ⟨v, rfl, c2⟩ := hq
  show V X G shT τ [some (.ref b), some (.ref (ad G 0)), some (.ref (ad G 65)), some (.int (nI (6 * i)))] [.int v] 676
  refine r_aload_n (pc := 676) B dL_law_676 rfl ?_
  refine r_aload_n (pc := 677) B dL_law_677 rfl ?_
  refine r_iload_n (pc := 678) B dL_law_678 rfl ?_
  refine r_iconst (pc := 679) (x := 1) B dL_law_679 (by decide) ?_
  refine r_iadd (pc := 680) B dL_law_680 ?_
  refine r_sld (pc := 681) (j := 6 * i + 1) B hX hbl hbA (nI_add _ 1) (by omega) (by omega) dL_law_681 ?_
  refine r_cV (pc := 682) (As := [.int (sc (6 * i + 1))]) (C := yX8_heldFor.cls) (rest := [.int v]) B KL_80 c2 (by decide) rfl (kb := 65) rfl rfl (Nat.le_of_ble_eq_true rfl) dL_law_682 (fun r2 υ hq2 => ?_)
  obtain ⟨rfl, hI⟩ := hq2
  show V X G shT υ [some (.ref b), some (.ref (ad G 0)), some (.ref (ad G 65)), some (.int (nI (6 * i)))] [.int v, .int v] 685
  exact r_icmp_eq (pc := 685) B 1356 dL_law_685 (by decide) (fun _ => K υ hI) (fun h => absurd rfl h)
set_option maxHeartbeats 4000000 in
set_option maxRecDepth 20000 in
theorem L_kindFor {l : Launch} {X : CX} {G : GG} {b Ls : Nat} {sc : Nat → Int32} (B : Bd l X G code RL 4 13) (hX : va_X b Ls sc (xs X) (xs X).heap) (hbl : b < (xs X).heap.size) (hbA : ¬ AA G b) (hL : Ls ≤ 3072) {i : Nat} {σ : Sg} (I : Inv i σ) (hi : i ≤ 512) (hr : 6 * i + 6 ≤ Ls) (K : ∀ υ, wI (i + 1) υ → V X G shT υ [some (.ref b), some (.ref (ad G 0)), some (.ref (ad G 65)), some (.int (nI (6 * i)))] [] 1356) : V X G shT σ [some (.ref b), some (.ref (ad G 0)), some (.ref (ad G 65)), some (.int (nI (6 * i)))] [] 690 := by
  refine r_aload_n (pc := 690) B dL_law_690 rfl ?_
  refine r_aload_n (pc := 691) B dL_law_691 rfl ?_
  refine r_iload_n (pc := 692) B dL_law_692 rfl ?_
  refine r_iconst (pc := 693) (x := 1) B dL_law_693 (by decide) ?_
  refine r_iadd (pc := 694) B dL_law_694 ?_
  refine r_sld (pc := 695) (j := 6 * i + 1) B hX hbl hbA (nI_add _ 1) (by omega) (by omega) dL_law_695 ?_
  refine r_cV (pc := 696) (As := [.int (sc (6 * i + 1))]) (C := yX7_kindFor.cls) (rest := []) B KL_81 (p_kindFor l G I hi (sc (6 * i + 1))) (by decide) rfl (kb := 0) rfl rfl (Nat.le_of_ble_eq_true rfl) dL_law_696 (fun r τ hq => ?_)
  obtain ⟨v, rfl, c2⟩ := hq
  show V X G shT τ [some (.ref b), some (.ref (ad G 0)), some (.ref (ad G 65)), some (.int (nI (6 * i)))] [.int v] 699
  refine r_aload_n (pc := 699) B dL_law_699 rfl ?_
  refine r_aload_n (pc := 700) B dL_law_700 rfl ?_
  refine r_iload_n (pc := 701) B dL_law_701 rfl ?_
  refine r_iconst (pc := 702) (x := 1) B dL_law_702 (by decide) ?_
  refine r_iadd (pc := 703) B dL_law_703 ?_
  refine r_sld (pc := 704) (j := 6 * i + 1) B hX hbl hbA (nI_add _ 1) (by omega) (by omega) dL_law_704 ?_
  refine r_cV (pc := 705) (As := [.int (sc (6 * i + 1))]) (C := yX8_kindFor.cls) (rest := [.int v]) B KL_84 c2 (by decide) rfl (kb := 65) rfl rfl (Nat.le_of_ble_eq_true rfl) dL_law_705 (fun r2 υ hq2 => ?_)
  obtain ⟨rfl, hI⟩ := hq2
  show V X G shT υ [some (.ref b), some (.ref (ad G 0)), some (.ref (ad G 65)), some (.int (nI (6 * i)))] [.int v, .int v] 708
  exact r_icmp_eq (pc := 708) B 1356 dL_law_708 (by decide) (fun _ => K υ hI) (fun h => absurd rfl h)
set_option maxHeartbeats 4000000 in
set_option maxRecDepth 20000 in
theorem L_roofFor {l : Launch} {X : CX} {G : GG} {b Ls : Nat} {sc : Nat → Int32} (B : Bd l X G code RL 4 13) (hX : va_X b Ls sc (xs X) (xs X).heap) (hbl : b < (xs X).heap.size) (hbA : ¬ AA G b) (hL : Ls ≤ 3072) {i : Nat} {σ : Sg} (I : Inv i σ) (hi : i ≤ 512) (hr : 6 * i + 6 ≤ Ls) (K : ∀ υ, wI (i + 1) υ → V X G shT υ [some (.ref b), some (.ref (ad G 0)), some (.ref (ad G 65)), some (.int (nI (6 * i)))] [] 1356) : V X G shT σ [some (.ref b), some (.ref (ad G 0)), some (.ref (ad G 65)), some (.int (nI (6 * i)))] [] 713 := by
  refine r_aload_n (pc := 713) B dL_law_713 rfl ?_
  refine r_aload_n (pc := 714) B dL_law_714 rfl ?_
  refine r_iload_n (pc := 715) B dL_law_715 rfl ?_
  refine r_iconst (pc := 716) (x := 1) B dL_law_716 (by decide) ?_
  refine r_iadd (pc := 717) B dL_law_717 ?_
  refine r_sld (pc := 718) (j := 6 * i + 1) B hX hbl hbA (nI_add _ 1) (by omega) (by omega) dL_law_718 ?_
  refine r_cV (pc := 719) (As := [.int (sc (6 * i + 1))]) (C := yX7_roofFor.cls) (rest := []) B KL_85 (p_roofFor l G I hi (sc (6 * i + 1))) (by decide) rfl (kb := 0) rfl rfl (Nat.le_of_ble_eq_true rfl) dL_law_719 (fun r τ hq => ?_)
  obtain ⟨v, rfl, c2⟩ := hq
  show V X G shT τ [some (.ref b), some (.ref (ad G 0)), some (.ref (ad G 65)), some (.int (nI (6 * i)))] [.int v] 722
  refine r_aload_n (pc := 722) B dL_law_722 rfl ?_
  refine r_aload_n (pc := 723) B dL_law_723 rfl ?_
  refine r_iload_n (pc := 724) B dL_law_724 rfl ?_
  refine r_iconst (pc := 725) (x := 1) B dL_law_725 (by decide) ?_
  refine r_iadd (pc := 726) B dL_law_726 ?_
  refine r_sld (pc := 727) (j := 6 * i + 1) B hX hbl hbA (nI_add _ 1) (by omega) (by omega) dL_law_727 ?_
  refine r_cV (pc := 728) (As := [.int (sc (6 * i + 1))]) (C := yX8_roofFor.cls) (rest := [.int v]) B KL_88 c2 (by decide) rfl (kb := 65) rfl rfl (Nat.le_of_ble_eq_true rfl) dL_law_728 (fun r2 υ hq2 => ?_)
  obtain ⟨rfl, hI⟩ := hq2
  show V X G shT υ [some (.ref b), some (.ref (ad G 0)), some (.ref (ad G 65)), some (.int (nI (6 * i)))] [.int v, .int v] 731
  exact r_icmp_eq (pc := 731) B 1356 dL_law_731 (by decide) (fun _ => K υ hI) (fun h => absurd rfl h)
set_option maxHeartbeats 4000000 in
set_option maxRecDepth 20000 in
theorem L_waitFor {l : Launch} {X : CX} {G : GG} {b Ls : Nat} {sc : Nat → Int32} (B : Bd l X G code RL 4 13) (hX : va_X b Ls sc (xs X) (xs X).heap) (hbl : b < (xs X).heap.size) (hbA : ¬ AA G b) (hL : Ls ≤ 3072) {i : Nat} {σ : Sg} (I : Inv i σ) (hi : i ≤ 512) (hr : 6 * i + 6 ≤ Ls) (K : ∀ υ, wI (i + 1) υ → V X G shT υ [some (.ref b), some (.ref (ad G 0)), some (.ref (ad G 65)), some (.int (nI (6 * i)))] [] 1356) : V X G shT σ [some (.ref b), some (.ref (ad G 0)), some (.ref (ad G 65)), some (.int (nI (6 * i)))] [] 736 := by
  refine r_aload_n (pc := 736) B dL_law_736 rfl ?_
  refine r_aload_n (pc := 737) B dL_law_737 rfl ?_
  refine r_iload_n (pc := 738) B dL_law_738 rfl ?_
  refine r_iconst (pc := 739) (x := 1) B dL_law_739 (by decide) ?_
  refine r_iadd (pc := 740) B dL_law_740 ?_
  refine r_sld (pc := 741) (j := 6 * i + 1) B hX hbl hbA (nI_add _ 1) (by omega) (by omega) dL_law_741 ?_
  refine r_cV (pc := 742) (As := [.int (sc (6 * i + 1))]) (C := yX7_waitFor.cls) (rest := []) B KL_89 (p_waitFor l G I hi (sc (6 * i + 1))) (by decide) rfl (kb := 0) rfl rfl (Nat.le_of_ble_eq_true rfl) dL_law_742 (fun r τ hq => ?_)
  obtain ⟨v, rfl, c2⟩ := hq
  show V X G shT τ [some (.ref b), some (.ref (ad G 0)), some (.ref (ad G 65)), some (.int (nI (6 * i)))] [.int v] 745
  refine r_aload_n (pc := 745) B dL_law_745 rfl ?_
  refine r_aload_n (pc := 746) B dL_law_746 rfl ?_
  refine r_iload_n (pc := 747) B dL_law_747 rfl ?_
  refine r_iconst (pc := 748) (x := 1) B dL_law_748 (by decide) ?_
  refine r_iadd (pc := 749) B dL_law_749 ?_
  refine r_sld (pc := 750) (j := 6 * i + 1) B hX hbl hbA (nI_add _ 1) (by omega) (by omega) dL_law_750 ?_
  refine r_cV (pc := 751) (As := [.int (sc (6 * i + 1))]) (C := yX8_waitFor.cls) (rest := [.int v]) B KL_92 c2 (by decide) rfl (kb := 65) rfl rfl (Nat.le_of_ble_eq_true rfl) dL_law_751 (fun r2 υ hq2 => ?_)
  obtain ⟨rfl, hI⟩ := hq2
  show V X G shT υ [some (.ref b), some (.ref (ad G 0)), some (.ref (ad G 65)), some (.int (nI (6 * i)))] [.int v, .int v] 754
  exact r_icmp_eq (pc := 754) B 1356 dL_law_754 (by decide) (fun _ => K υ hI) (fun h => absurd rfl h)
set_option maxHeartbeats 4000000 in
set_option maxRecDepth 20000 in
theorem L_gustFor {l : Launch} {X : CX} {G : GG} {b Ls : Nat} {sc : Nat → Int32} (B : Bd l X G code RL 4 13) (hX : va_X b Ls sc (xs X) (xs X).heap) (hbl : b < (xs X).heap.size) (hbA : ¬ AA G b) (hL : Ls ≤ 3072) {i : Nat} {σ : Sg} (I : Inv i σ) (hi : i ≤ 512) (hr : 6 * i + 6 ≤ Ls) (K : ∀ υ, wI (i + 1) υ → V X G shT υ [some (.ref b), some (.ref (ad G 0)), some (.ref (ad G 65)), some (.int (nI (6 * i)))] [] 1356) : V X G shT σ [some (.ref b), some (.ref (ad G 0)), some (.ref (ad G 65)), some (.int (nI (6 * i)))] [] 759 := by
  refine r_aload_n (pc := 759) B dL_law_759 rfl ?_
  refine r_aload_n (pc := 760) B dL_law_760 rfl ?_
  refine r_iload_n (pc := 761) B dL_law_761 rfl ?_
  refine r_iconst (pc := 762) (x := 1) B dL_law_762 (by decide) ?_
  refine r_iadd (pc := 763) B dL_law_763 ?_
  refine r_sld (pc := 764) (j := 6 * i + 1) B hX hbl hbA (nI_add _ 1) (by omega) (by omega) dL_law_764 ?_
  refine r_cV (pc := 765) (As := [.int (sc (6 * i + 1))]) (C := yX7_gustFor.cls) (rest := []) B KL_93 (p_gustFor l G I hi (sc (6 * i + 1))) (by decide) rfl (kb := 0) rfl rfl (Nat.le_of_ble_eq_true rfl) dL_law_765 (fun r τ hq => ?_)
  obtain ⟨v, rfl, c2⟩ := hq
  show V X G shT τ [some (.ref b), some (.ref (ad G 0)), some (.ref (ad G 65)), some (.int (nI (6 * i)))] [.int v] 768
  refine r_aload_n (pc := 768) B dL_law_768 rfl ?_
  refine r_aload_n (pc := 769) B dL_law_769 rfl ?_
  refine r_iload_n (pc := 770) B dL_law_770 rfl ?_
  refine r_iconst (pc := 771) (x := 1) B dL_law_771 (by decide) ?_
  refine r_iadd (pc := 772) B dL_law_772 ?_
  refine r_sld (pc := 773) (j := 6 * i + 1) B hX hbl hbA (nI_add _ 1) (by omega) (by omega) dL_law_773 ?_
  refine r_cV (pc := 774) (As := [.int (sc (6 * i + 1))]) (C := yX8_gustFor.cls) (rest := [.int v]) B KL_96 c2 (by decide) rfl (kb := 65) rfl rfl (Nat.le_of_ble_eq_true rfl) dL_law_774 (fun r2 υ hq2 => ?_)
  obtain ⟨rfl, hI⟩ := hq2
  show V X G shT υ [some (.ref b), some (.ref (ad G 0)), some (.ref (ad G 65)), some (.int (nI (6 * i)))] [.int v, .int v] 777
  exact r_icmp_eq (pc := 777) B 1356 dL_law_777 (by decide) (fun _ => K υ hI) (fun h => absurd rfl h)
set_option maxHeartbeats 4000000 in
set_option maxRecDepth 20000 in
theorem L_ribsFor {l : Launch} {X : CX} {G : GG} {b Ls : Nat} {sc : Nat → Int32} (B : Bd l X G code RL 4 13) (hX : va_X b Ls sc (xs X) (xs X).heap) (hbl : b < (xs X).heap.size) (hbA : ¬ AA G b) (hL : Ls ≤ 3072) {i : Nat} {σ : Sg} (I : Inv i σ) (hi : i ≤ 512) (hr : 6 * i + 6 ≤ Ls) (K : ∀ υ, wI (i + 1) υ → V X G shT υ [some (.ref b), some (.ref (ad G 0)), some (.ref (ad G 65)), some (.int (nI (6 * i)))] [] 1356) : V X G shT σ [some (.ref b), some (.ref (ad G 0)), some (.ref (ad G 65)), some (.int (nI (6 * i)))] [] 782 := by
  refine r_aload_n (pc := 782) B dL_law_782 rfl ?_
  refine r_aload_n (pc := 783) B dL_law_783 rfl ?_
  refine r_iload_n (pc := 784) B dL_law_784 rfl ?_
  refine r_iconst (pc := 785) (x := 1) B dL_law_785 (by decide) ?_
  refine r_iadd (pc := 786) B dL_law_786 ?_
  refine r_sld (pc := 787) (j := 6 * i + 1) B hX hbl hbA (nI_add _ 1) (by omega) (by omega) dL_law_787 ?_
  refine r_cV (pc := 788) (As := [.int (sc (6 * i + 1))]) (C := yX7_ribsFor.cls) (rest := []) B KL_97 (p_ribsFor l G I hi (sc (6 * i + 1))) (by decide) rfl (kb := 0) rfl rfl (Nat.le_of_ble_eq_true rfl) dL_law_788 (fun r τ hq => ?_)
  obtain ⟨v, rfl, c2⟩ := hq
  show V X G shT τ [some (.ref b), some (.ref (ad G 0)), some (.ref (ad G 65)), some (.int (nI (6 * i)))] [.int v] 791
  refine r_aload_n (pc := 791) B dL_law_791 rfl ?_
  refine r_aload_n (pc := 792) B dL_law_792 rfl ?_
  refine r_iload_n (pc := 793) B dL_law_793 rfl ?_
  refine r_iconst (pc := 794) (x := 1) B dL_law_794 (by decide) ?_
  refine r_iadd (pc := 795) B dL_law_795 ?_
  refine r_sld (pc := 796) (j := 6 * i + 1) B hX hbl hbA (nI_add _ 1) (by omega) (by omega) dL_law_796 ?_
  refine r_cV (pc := 797) (As := [.int (sc (6 * i + 1))]) (C := yX8_ribsFor.cls) (rest := [.int v]) B KL_100 c2 (by decide) rfl (kb := 65) rfl rfl (Nat.le_of_ble_eq_true rfl) dL_law_797 (fun r2 υ hq2 => ?_)
  obtain ⟨rfl, hI⟩ := hq2
  show V X G shT υ [some (.ref b), some (.ref (ad G 0)), some (.ref (ad G 65)), some (.int (nI (6 * i)))] [.int v, .int v] 800
  exact r_icmp_eq (pc := 800) B 1356 dL_law_800 (by decide) (fun _ => K υ hI) (fun h => absurd rfl h)
set_option maxHeartbeats 4000000 in
set_option maxRecDepth 20000 in
theorem L_fits {l : Launch} {X : CX} {G : GG} {b Ls : Nat} {sc : Nat → Int32} (B : Bd l X G code RL 4 13) (hX : va_X b Ls sc (xs X) (xs X).heap) (hbl : b < (xs X).heap.size) (hbA : ¬ AA G b) (hL : Ls ≤ 3072) {i : Nat} {σ : Sg} (I : Inv i σ) (hi : i ≤ 512) (hr : 6 * i + 6 ≤ Ls) (K : ∀ υ, wI (i + 1) υ → V X G shT υ [some (.ref b), some (.ref (ad G 0)), some (.ref (ad G 65)), some (.int (nI (6 * i)))] [] 1356) : V X G shT σ [some (.ref b), some (.ref (ad G 0)), some (.ref (ad G 65)), some (.int (nI (6 * i)))] [] 805 := by
  refine r_aload_n (pc := 805) B dL_law_805 rfl ?_
  refine r_aload_n (pc := 806) B dL_law_806 rfl ?_
  refine r_iload_n (pc := 807) B dL_law_807 rfl ?_
  refine r_iconst (pc := 808) (x := 1) B dL_law_808 (by decide) ?_
  refine r_iadd (pc := 809) B dL_law_809 ?_
  refine r_sld (pc := 810) (j := 6 * i + 1) B hX hbl hbA (nI_add _ 1) (by omega) (by omega) dL_law_810 ?_
  refine r_aload_n (pc := 811) B dL_law_811 rfl ?_
  refine r_iload_n (pc := 812) B dL_law_812 rfl ?_
  refine r_iconst (pc := 813) (x := 2) B dL_law_813 (by decide) ?_
  refine r_iadd (pc := 814) B dL_law_814 ?_
  refine r_sld (pc := 815) (j := 6 * i + 2) B hX hbl hbA (nI_add _ 2) (by omega) (by omega) dL_law_815 ?_
  refine r_cV (pc := 816) (As := [.int (sc (6 * i + 1)), .int (sc (6 * i + 2))]) (C := yX7_fits.cls) (rest := []) B KL_101 (p_fits l G I hi (sc (6 * i + 1)) (sc (6 * i + 2))) (by decide) rfl (kb := 0) rfl rfl (Nat.le_of_ble_eq_true rfl) dL_law_816 (fun r τ hq => ?_)
  obtain ⟨v, rfl, c2⟩ := hq
  show V X G shT τ [some (.ref b), some (.ref (ad G 0)), some (.ref (ad G 65)), some (.int (nI (6 * i)))] [.int v] 819
  refine r_aload_n (pc := 819) B dL_law_819 rfl ?_
  refine r_aload_n (pc := 820) B dL_law_820 rfl ?_
  refine r_iload_n (pc := 821) B dL_law_821 rfl ?_
  refine r_iconst (pc := 822) (x := 1) B dL_law_822 (by decide) ?_
  refine r_iadd (pc := 823) B dL_law_823 ?_
  refine r_sld (pc := 824) (j := 6 * i + 1) B hX hbl hbA (nI_add _ 1) (by omega) (by omega) dL_law_824 ?_
  refine r_aload_n (pc := 825) B dL_law_825 rfl ?_
  refine r_iload_n (pc := 826) B dL_law_826 rfl ?_
  refine r_iconst (pc := 827) (x := 2) B dL_law_827 (by decide) ?_
  refine r_iadd (pc := 828) B dL_law_828 ?_
  refine r_sld (pc := 829) (j := 6 * i + 2) B hX hbl hbA (nI_add _ 2) (by omega) (by omega) dL_law_829 ?_
  refine r_cV (pc := 830) (As := [.int (sc (6 * i + 1)), .int (sc (6 * i + 2))]) (C := yX8_fits.cls) (rest := [.int v]) B KL_104 c2 (by decide) rfl (kb := 65) rfl rfl (Nat.le_of_ble_eq_true rfl) dL_law_830 (fun r2 υ hq2 => ?_)
  obtain ⟨rfl, hI⟩ := hq2
  show V X G shT υ [some (.ref b), some (.ref (ad G 0)), some (.ref (ad G 65)), some (.int (nI (6 * i)))] [.int v, .int v] 833
  exact r_icmp_eq (pc := 833) B 1356 dL_law_833 (by decide) (fun _ => K υ hI) (fun h => absurd rfl h)
set_option maxHeartbeats 4000000 in
set_option maxRecDepth 20000 in
theorem L_kinds {l : Launch} {X : CX} {G : GG} {b Ls : Nat} {sc : Nat → Int32} (B : Bd l X G code RL 4 13) (hX : va_X b Ls sc (xs X) (xs X).heap) (hbl : b < (xs X).heap.size) (hbA : ¬ AA G b) (hL : Ls ≤ 3072) {i : Nat} {σ : Sg} (I : Inv i σ) (hi : i ≤ 512) (hr : 6 * i + 6 ≤ Ls) (K : ∀ υ, wI (i + 1) υ → V X G shT υ [some (.ref b), some (.ref (ad G 0)), some (.ref (ad G 65)), some (.int (nI (6 * i)))] [] 1356) : V X G shT σ [some (.ref b), some (.ref (ad G 0)), some (.ref (ad G 65)), some (.int (nI (6 * i)))] [] 838 := by
  refine r_aload_n (pc := 838) B dL_law_838 rfl ?_
  refine r_aload_n (pc := 839) B dL_law_839 rfl ?_
  refine r_iload_n (pc := 840) B dL_law_840 rfl ?_
  refine r_iconst (pc := 841) (x := 1) B dL_law_841 (by decide) ?_
  refine r_iadd (pc := 842) B dL_law_842 ?_
  refine r_sld (pc := 843) (j := 6 * i + 1) B hX hbl hbA (nI_add _ 1) (by omega) (by omega) dL_law_843 ?_
  refine r_aload_n (pc := 844) B dL_law_844 rfl ?_
  refine r_iload_n (pc := 845) B dL_law_845 rfl ?_
  refine r_iconst (pc := 846) (x := 2) B dL_law_846 (by decide) ?_
  refine r_iadd (pc := 847) B dL_law_847 ?_
  refine r_sld (pc := 848) (j := 6 * i + 2) B hX hbl hbA (nI_add _ 2) (by omega) (by omega) dL_law_848 ?_
  refine r_cV (pc := 849) (As := [.int (sc (6 * i + 1)), .int (sc (6 * i + 2))]) (C := yX7_kinds.cls) (rest := []) B KL_105 (p_kinds l G I hi (sc (6 * i + 1)) (sc (6 * i + 2))) (by decide) rfl (kb := 0) rfl rfl (Nat.le_of_ble_eq_true rfl) dL_law_849 (fun r τ hq => ?_)
  obtain ⟨v, rfl, c2⟩ := hq
  show V X G shT τ [some (.ref b), some (.ref (ad G 0)), some (.ref (ad G 65)), some (.int (nI (6 * i)))] [.int v] 852
  refine r_aload_n (pc := 852) B dL_law_852 rfl ?_
  refine r_aload_n (pc := 853) B dL_law_853 rfl ?_
  refine r_iload_n (pc := 854) B dL_law_854 rfl ?_
  refine r_iconst (pc := 855) (x := 1) B dL_law_855 (by decide) ?_
  refine r_iadd (pc := 856) B dL_law_856 ?_
  refine r_sld (pc := 857) (j := 6 * i + 1) B hX hbl hbA (nI_add _ 1) (by omega) (by omega) dL_law_857 ?_
  refine r_aload_n (pc := 858) B dL_law_858 rfl ?_
  refine r_iload_n (pc := 859) B dL_law_859 rfl ?_
  refine r_iconst (pc := 860) (x := 2) B dL_law_860 (by decide) ?_
  refine r_iadd (pc := 861) B dL_law_861 ?_
  refine r_sld (pc := 862) (j := 6 * i + 2) B hX hbl hbA (nI_add _ 2) (by omega) (by omega) dL_law_862 ?_
  refine r_cV (pc := 863) (As := [.int (sc (6 * i + 1)), .int (sc (6 * i + 2))]) (C := yX8_kinds.cls) (rest := [.int v]) B KL_108 c2 (by decide) rfl (kb := 65) rfl rfl (Nat.le_of_ble_eq_true rfl) dL_law_863 (fun r2 υ hq2 => ?_)
  obtain ⟨rfl, hI⟩ := hq2
  show V X G shT υ [some (.ref b), some (.ref (ad G 0)), some (.ref (ad G 65)), some (.int (nI (6 * i)))] [.int v, .int v] 866
  exact r_icmp_eq (pc := 866) B 1356 dL_law_866 (by decide) (fun _ => K υ hI) (fun h => absurd rfl h)
set_option maxHeartbeats 4000000 in
set_option maxRecDepth 20000 in
theorem L_gusts {l : Launch} {X : CX} {G : GG} {b Ls : Nat} {sc : Nat → Int32} (B : Bd l X G code RL 4 13) (hX : va_X b Ls sc (xs X) (xs X).heap) (hbl : b < (xs X).heap.size) (hbA : ¬ AA G b) (hL : Ls ≤ 3072) {i : Nat} {σ : Sg} (I : Inv i σ) (hi : i ≤ 512) (hr : 6 * i + 6 ≤ Ls) (K : ∀ υ, wI (i + 1) υ → V X G shT υ [some (.ref b), some (.ref (ad G 0)), some (.ref (ad G 65)), some (.int (nI (6 * i)))] [] 1356) : V X G shT σ [some (.ref b), some (.ref (ad G 0)), some (.ref (ad G 65)), some (.int (nI (6 * i)))] [] 871 := by
  refine r_aload_n (pc := 871) B dL_law_871 rfl ?_
  refine r_aload_n (pc := 872) B dL_law_872 rfl ?_
  refine r_iload_n (pc := 873) B dL_law_873 rfl ?_
  refine r_iconst (pc := 874) (x := 1) B dL_law_874 (by decide) ?_
  refine r_iadd (pc := 875) B dL_law_875 ?_
  refine r_sld (pc := 876) (j := 6 * i + 1) B hX hbl hbA (nI_add _ 1) (by omega) (by omega) dL_law_876 ?_
  refine r_cV (pc := 877) (As := [.int (sc (6 * i + 1))]) (C := yX7_gusts.cls) (rest := []) B KL_109 (p_gusts l G I hi (sc (6 * i + 1))) (by decide) rfl (kb := 0) rfl rfl (Nat.le_of_ble_eq_true rfl) dL_law_877 (fun r τ hq => ?_)
  obtain ⟨v, rfl, c2⟩ := hq
  show V X G shT τ [some (.ref b), some (.ref (ad G 0)), some (.ref (ad G 65)), some (.int (nI (6 * i)))] [.int v] 880
  refine r_aload_n (pc := 880) B dL_law_880 rfl ?_
  refine r_aload_n (pc := 881) B dL_law_881 rfl ?_
  refine r_iload_n (pc := 882) B dL_law_882 rfl ?_
  refine r_iconst (pc := 883) (x := 1) B dL_law_883 (by decide) ?_
  refine r_iadd (pc := 884) B dL_law_884 ?_
  refine r_sld (pc := 885) (j := 6 * i + 1) B hX hbl hbA (nI_add _ 1) (by omega) (by omega) dL_law_885 ?_
  refine r_cV (pc := 886) (As := [.int (sc (6 * i + 1))]) (C := yX8_gusts.cls) (rest := [.int v]) B KL_112 c2 (by decide) rfl (kb := 65) rfl rfl (Nat.le_of_ble_eq_true rfl) dL_law_886 (fun r2 υ hq2 => ?_)
  obtain ⟨rfl, hI⟩ := hq2
  show V X G shT υ [some (.ref b), some (.ref (ad G 0)), some (.ref (ad G 65)), some (.int (nI (6 * i)))] [.int v, .int v] 889
  exact r_icmp_eq (pc := 889) B 1356 dL_law_889 (by decide) (fun _ => K υ hI) (fun h => absurd rfl h)
set_option maxHeartbeats 4000000 in
set_option maxRecDepth 20000 in
theorem L_odds {l : Launch} {X : CX} {G : GG} {b Ls : Nat} {sc : Nat → Int32} (B : Bd l X G code RL 4 13) (hX : va_X b Ls sc (xs X) (xs X).heap) (hbl : b < (xs X).heap.size) (hbA : ¬ AA G b) (hL : Ls ≤ 3072) {i : Nat} {σ : Sg} (I : Inv i σ) (hi : i ≤ 512) (hr : 6 * i + 6 ≤ Ls) (K : ∀ υ, wI (i + 1) υ → V X G shT υ [some (.ref b), some (.ref (ad G 0)), some (.ref (ad G 65)), some (.int (nI (6 * i)))] [] 1356) : V X G shT σ [some (.ref b), some (.ref (ad G 0)), some (.ref (ad G 65)), some (.int (nI (6 * i)))] [] 894 := by
  refine r_aload_n (pc := 894) B dL_law_894 rfl ?_
  refine r_aload_n (pc := 895) B dL_law_895 rfl ?_
  refine r_iload_n (pc := 896) B dL_law_896 rfl ?_
  refine r_iconst (pc := 897) (x := 1) B dL_law_897 (by decide) ?_
  refine r_iadd (pc := 898) B dL_law_898 ?_
  refine r_sld (pc := 899) (j := 6 * i + 1) B hX hbl hbA (nI_add _ 1) (by omega) (by omega) dL_law_899 ?_
  refine r_aload_n (pc := 900) B dL_law_900 rfl ?_
  refine r_iload_n (pc := 901) B dL_law_901 rfl ?_
  refine r_iconst (pc := 902) (x := 2) B dL_law_902 (by decide) ?_
  refine r_iadd (pc := 903) B dL_law_903 ?_
  refine r_sld (pc := 904) (j := 6 * i + 2) B hX hbl hbA (nI_add _ 2) (by omega) (by omega) dL_law_904 ?_
  refine r_cV (pc := 905) (As := [.int (sc (6 * i + 1)), .int (sc (6 * i + 2))]) (C := yX7_odds.cls) (rest := []) B KL_113 (p_odds l G I hi (sc (6 * i + 1)) (sc (6 * i + 2))) (by decide) rfl (kb := 0) rfl rfl (Nat.le_of_ble_eq_true rfl) dL_law_905 (fun r τ hq => ?_)
  obtain ⟨v, rfl, c2⟩ := hq
  show V X G shT τ [some (.ref b), some (.ref (ad G 0)), some (.ref (ad G 65)), some (.int (nI (6 * i)))] [.long v] 908
  refine r_aload_n (pc := 908) B dL_law_908 rfl ?_
  refine r_aload_n (pc := 909) B dL_law_909 rfl ?_
  refine r_iload_n (pc := 910) B dL_law_910 rfl ?_
  refine r_iconst (pc := 911) (x := 1) B dL_law_911 (by decide) ?_
  refine r_iadd (pc := 912) B dL_law_912 ?_
  refine r_sld (pc := 913) (j := 6 * i + 1) B hX hbl hbA (nI_add _ 1) (by omega) (by omega) dL_law_913 ?_
  refine r_aload_n (pc := 914) B dL_law_914 rfl ?_
  refine r_iload_n (pc := 915) B dL_law_915 rfl ?_
  refine r_iconst (pc := 916) (x := 2) B dL_law_916 (by decide) ?_
  refine r_iadd (pc := 917) B dL_law_917 ?_
  refine r_sld (pc := 918) (j := 6 * i + 2) B hX hbl hbA (nI_add _ 2) (by omega) (by omega) dL_law_918 ?_
  refine r_cV (pc := 919) (As := [.int (sc (6 * i + 1)), .int (sc (6 * i + 2))]) (C := yX8_odds.cls) (rest := [.long v]) B KL_117 c2 (by decide) rfl (kb := 65) rfl rfl (Nat.le_of_ble_eq_true rfl) dL_law_919 (fun r2 υ hq2 => ?_)
  obtain ⟨rfl, hI⟩ := hq2
  show V X G shT υ [some (.ref b), some (.ref (ad G 0)), some (.ref (ad G 65)), some (.int (nI (6 * i)))] [.long v, .long v] 922
  refine r_lcmp (pc := 922) B dL_law_922 ?_
  rw [lg_vv]
  exact r_if_eq (pc := 923) B 1356 dL_law_923 (by decide) (fun _ => K υ hI) (fun h => absurd rfl h)
set_option maxHeartbeats 4000000 in
set_option maxRecDepth 20000 in
theorem L_seed {l : Launch} {X : CX} {G : GG} {b Ls : Nat} {sc : Nat → Int32} (B : Bd l X G code RL 4 13) (hX : va_X b Ls sc (xs X) (xs X).heap) (hbl : b < (xs X).heap.size) (hbA : ¬ AA G b) (hL : Ls ≤ 3072) {i : Nat} {σ : Sg} (I : Inv i σ) (hi : i ≤ 512) (hr : 6 * i + 6 ≤ Ls) (K : ∀ υ, wI (i + 1) υ → V X G shT υ [some (.ref b), some (.ref (ad G 0)), some (.ref (ad G 65)), some (.int (nI (6 * i)))] [] 1356) : V X G shT σ [some (.ref b), some (.ref (ad G 0)), some (.ref (ad G 65)), some (.int (nI (6 * i)))] [] 928 := by
  refine r_aload_n (pc := 928) B dL_law_928 rfl ?_
  refine r_aload_n (pc := 929) B dL_law_929 rfl ?_
  refine r_iload_n (pc := 930) B dL_law_930 rfl ?_
  refine r_iconst (pc := 931) (x := 1) B dL_law_931 (by decide) ?_
  refine r_iadd (pc := 932) B dL_law_932 ?_
  refine r_sld (pc := 933) (j := 6 * i + 1) B hX hbl hbA (nI_add _ 1) (by omega) (by omega) dL_law_933 ?_
  refine r_cV (pc := 934) (As := [.int (sc (6 * i + 1))]) (C := yX7_seed.cls) (rest := []) B KL_118 (p_seed l G I hi (sc (6 * i + 1))) (by decide) rfl (kb := 0) rfl rfl (Nat.le_of_ble_eq_true rfl) dL_law_934 (fun r τ hq => ?_)
  obtain ⟨v, rfl, c2⟩ := hq
  show V X G shT τ [some (.ref b), some (.ref (ad G 0)), some (.ref (ad G 65)), some (.int (nI (6 * i)))] [.int v] 937
  refine r_aload_n (pc := 937) B dL_law_937 rfl ?_
  refine r_aload_n (pc := 938) B dL_law_938 rfl ?_
  refine r_iload_n (pc := 939) B dL_law_939 rfl ?_
  refine r_iconst (pc := 940) (x := 1) B dL_law_940 (by decide) ?_
  refine r_iadd (pc := 941) B dL_law_941 ?_
  refine r_sld (pc := 942) (j := 6 * i + 1) B hX hbl hbA (nI_add _ 1) (by omega) (by omega) dL_law_942 ?_
  refine r_cV (pc := 943) (As := [.int (sc (6 * i + 1))]) (C := yX8_seed.cls) (rest := [.int v]) B KL_121 c2 (by decide) rfl (kb := 65) rfl rfl (Nat.le_of_ble_eq_true rfl) dL_law_943 (fun r2 υ hq2 => ?_)
  obtain ⟨rfl, hI⟩ := hq2
  show V X G shT υ [some (.ref b), some (.ref (ad G 0)), some (.ref (ad G 65)), some (.int (nI (6 * i)))] [.int v, .int v] 946
  exact r_icmp_eq (pc := 946) B 1356 dL_law_946 (by decide) (fun _ => K υ hI) (fun h => absurd rfl h)
set_option maxHeartbeats 4000000 in
set_option maxRecDepth 20000 in
theorem L_feed {l : Launch} {X : CX} {G : GG} {b Ls : Nat} {sc : Nat → Int32} (B : Bd l X G code RL 4 13) (hX : va_X b Ls sc (xs X) (xs X).heap) (hbl : b < (xs X).heap.size) (hbA : ¬ AA G b) (hL : Ls ≤ 3072) {i : Nat} {σ : Sg} (I : Inv i σ) (hi : i ≤ 512) (hr : 6 * i + 6 ≤ Ls) (K : ∀ υ, wI (i + 1) υ → V X G shT υ [some (.ref b), some (.ref (ad G 0)), some (.ref (ad G 65)), some (.int (nI (6 * i)))] [] 1356) : V X G shT σ [some (.ref b), some (.ref (ad G 0)), some (.ref (ad G 65)), some (.int (nI (6 * i)))] [] 951 := by
  refine r_aload_n (pc := 951) B dL_law_951 rfl ?_
  refine r_aload_n (pc := 952) B dL_law_952 rfl ?_
  refine r_iload_n (pc := 953) B dL_law_953 rfl ?_
  refine r_iconst (pc := 954) (x := 1) B dL_law_954 (by decide) ?_
  refine r_iadd (pc := 955) B dL_law_955 ?_
  refine r_sld (pc := 956) (j := 6 * i + 1) B hX hbl hbA (nI_add _ 1) (by omega) (by omega) dL_law_956 ?_
  refine r_aload_n (pc := 957) B dL_law_957 rfl ?_
  refine r_iload_n (pc := 958) B dL_law_958 rfl ?_
  refine r_iconst (pc := 959) (x := 2) B dL_law_959 (by decide) ?_
  refine r_iadd (pc := 960) B dL_law_960 ?_
  refine r_sld (pc := 961) (j := 6 * i + 2) B hX hbl hbA (nI_add _ 2) (by omega) (by omega) dL_law_961 ?_
  refine r_cV (pc := 962) (As := [.int (sc (6 * i + 1)), .int (sc (6 * i + 2))]) (C := yX7_feed.cls) (rest := []) B KL_122 (p_feed l G I hi (sc (6 * i + 1)) (sc (6 * i + 2))) (by decide) rfl (kb := 0) rfl rfl (Nat.le_of_ble_eq_true rfl) dL_law_962 (fun r τ hq => ?_)
  obtain ⟨v, rfl, c2⟩ := hq
  show V X G shT τ [some (.ref b), some (.ref (ad G 0)), some (.ref (ad G 65)), some (.int (nI (6 * i)))] [.int v] 965
  refine r_aload_n (pc := 965) B dL_law_965 rfl ?_
  refine r_aload_n (pc := 966) B dL_law_966 rfl ?_
  refine r_iload_n (pc := 967) B dL_law_967 rfl ?_
  refine r_iconst (pc := 968) (x := 1) B dL_law_968 (by decide) ?_
  refine r_iadd (pc := 969) B dL_law_969 ?_
  refine r_sld (pc := 970) (j := 6 * i + 1) B hX hbl hbA (nI_add _ 1) (by omega) (by omega) dL_law_970 ?_
  refine r_aload_n (pc := 971) B dL_law_971 rfl ?_
  refine r_iload_n (pc := 972) B dL_law_972 rfl ?_
  refine r_iconst (pc := 973) (x := 2) B dL_law_973 (by decide) ?_
  refine r_iadd (pc := 974) B dL_law_974 ?_
  refine r_sld (pc := 975) (j := 6 * i + 2) B hX hbl hbA (nI_add _ 2) (by omega) (by omega) dL_law_975 ?_
  refine r_cV (pc := 976) (As := [.int (sc (6 * i + 1)), .int (sc (6 * i + 2))]) (C := yX8_feed.cls) (rest := [.int v]) B KL_125 c2 (by decide) rfl (kb := 65) rfl rfl (Nat.le_of_ble_eq_true rfl) dL_law_976 (fun r2 υ hq2 => ?_)
  obtain ⟨rfl, hI⟩ := hq2
  show V X G shT υ [some (.ref b), some (.ref (ad G 0)), some (.ref (ad G 65)), some (.int (nI (6 * i)))] [.int v, .int v] 979
  exact r_icmp_eq (pc := 979) B 1356 dL_law_979 (by decide) (fun _ => K υ hI) (fun h => absurd rfl h)
set_option maxHeartbeats 4000000 in
set_option maxRecDepth 20000 in
theorem L_wipe {l : Launch} {X : CX} {G : GG} {b Ls : Nat} {sc : Nat → Int32} (B : Bd l X G code RL 4 13) (hX : va_X b Ls sc (xs X) (xs X).heap) (hbl : b < (xs X).heap.size) (hbA : ¬ AA G b) (hL : Ls ≤ 3072) {i : Nat} {σ : Sg} (I : Inv i σ) (hi : i ≤ 512) (hr : 6 * i + 6 ≤ Ls) (K : ∀ υ, wI (i + 1) υ → V X G shT υ [some (.ref b), some (.ref (ad G 0)), some (.ref (ad G 65)), some (.int (nI (6 * i)))] [] 1356) : V X G shT σ [some (.ref b), some (.ref (ad G 0)), some (.ref (ad G 65)), some (.int (nI (6 * i)))] [] 984 := by
  refine r_aload_n (pc := 984) B dL_law_984 rfl ?_
  refine r_cV (pc := 985) (As := []) (C := yX7_wipe.cls) (rest := []) B KL_126 (p_wipe l G I hi) (by decide) rfl (kb := 0) rfl rfl (Nat.le_of_ble_eq_true rfl) dL_law_985 (fun r τ hq => ?_)
  obtain ⟨v, rfl, c2⟩ := hq
  show V X G shT τ [some (.ref b), some (.ref (ad G 0)), some (.ref (ad G 65)), some (.int (nI (6 * i)))] [.int v] 988
  refine r_aload_n (pc := 988) B dL_law_988 rfl ?_
  refine r_cV (pc := 989) (As := []) (C := yX8_wipe.cls) (rest := [.int v]) B KL_129 c2 (by decide) rfl (kb := 65) rfl rfl (Nat.le_of_ble_eq_true rfl) dL_law_989 (fun r2 υ hq2 => ?_)
  obtain ⟨rfl, hI⟩ := hq2
  show V X G shT υ [some (.ref b), some (.ref (ad G 0)), some (.ref (ad G 65)), some (.int (nI (6 * i)))] [.int v, .int v] 992
  exact r_icmp_eq (pc := 992) B 1356 dL_law_992 (by decide) (fun _ => K υ hI) (fun h => absurd rfl h)
set_option maxHeartbeats 4000000 in
set_option maxRecDepth 20000 in
theorem L_text {l : Launch} {X : CX} {G : GG} {b Ls : Nat} {sc : Nat → Int32} (B : Bd l X G code RL 4 13) (hX : va_X b Ls sc (xs X) (xs X).heap) (hbl : b < (xs X).heap.size) (hbA : ¬ AA G b) (hL : Ls ≤ 3072) {i : Nat} {σ : Sg} (I : Inv i σ) (hi : i ≤ 512) (hr : 6 * i + 6 ≤ Ls) (K : ∀ υ, wI (i + 1) υ → V X G shT υ [some (.ref b), some (.ref (ad G 0)), some (.ref (ad G 65)), some (.int (nI (6 * i)))] [] 1356) : V X G shT σ [some (.ref b), some (.ref (ad G 0)), some (.ref (ad G 65)), some (.int (nI (6 * i)))] [] 997 := by
  refine r_aload_n (pc := 997) B dL_law_997 rfl ?_
  refine r_cV (pc := 998) (As := []) (C := yX7_text.cls) (rest := []) B KL_130 (p_text l G I hi) (by decide) rfl (kb := 0) rfl rfl (Nat.le_of_ble_eq_true rfl) dL_law_998 (fun r τ hq => ?_)
  obtain ⟨v, rfl, c2⟩ := hq
  show V X G shT τ [some (.ref b), some (.ref (ad G 0)), some (.ref (ad G 65)), some (.int (nI (6 * i)))] [.int v] 1001
  refine r_aload_n (pc := 1001) B dL_law_1001 rfl ?_
  refine r_cV (pc := 1002) (As := []) (C := yX8_text.cls) (rest := [.int v]) B KL_133 c2 (by decide) rfl (kb := 65) rfl rfl (Nat.le_of_ble_eq_true rfl) dL_law_1002 (fun r2 υ hq2 => ?_)
  obtain ⟨rfl, hI⟩ := hq2
  show V X G shT υ [some (.ref b), some (.ref (ad G 0)), some (.ref (ad G 65)), some (.int (nI (6 * i)))] [.int v, .int v] 1005
  exact r_icmp_eq (pc := 1005) B 1356 dL_law_1005 (by decide) (fun _ => K υ hI) (fun h => absurd rfl h)
set_option maxHeartbeats 4000000 in
set_option maxRecDepth 20000 in
theorem L_hold {l : Launch} {X : CX} {G : GG} {b Ls : Nat} {sc : Nat → Int32} (B : Bd l X G code RL 4 13) (hX : va_X b Ls sc (xs X) (xs X).heap) (hbl : b < (xs X).heap.size) (hbA : ¬ AA G b) (hL : Ls ≤ 3072) {i : Nat} {σ : Sg} (I : Inv i σ) (hi : i ≤ 512) (hr : 6 * i + 6 ≤ Ls) (K : ∀ υ, wI (i + 1) υ → V X G shT υ [some (.ref b), some (.ref (ad G 0)), some (.ref (ad G 65)), some (.int (nI (6 * i)))] [] 1356) : V X G shT σ [some (.ref b), some (.ref (ad G 0)), some (.ref (ad G 65)), some (.int (nI (6 * i)))] [] 1010 := by
  refine r_aload_n (pc := 1010) B dL_law_1010 rfl ?_
  refine r_aload_n (pc := 1011) B dL_law_1011 rfl ?_
  refine r_iload_n (pc := 1012) B dL_law_1012 rfl ?_
  refine r_iconst (pc := 1013) (x := 1) B dL_law_1013 (by decide) ?_
  refine r_iadd (pc := 1014) B dL_law_1014 ?_
  refine r_sld (pc := 1015) (j := 6 * i + 1) B hX hbl hbA (nI_add _ 1) (by omega) (by omega) dL_law_1015 ?_
  refine r_aload_n (pc := 1016) B dL_law_1016 rfl ?_
  refine r_iload_n (pc := 1017) B dL_law_1017 rfl ?_
  refine r_iconst (pc := 1018) (x := 2) B dL_law_1018 (by decide) ?_
  refine r_iadd (pc := 1019) B dL_law_1019 ?_
  refine r_sld (pc := 1020) (j := 6 * i + 2) B hX hbl hbA (nI_add _ 2) (by omega) (by omega) dL_law_1020 ?_
  refine r_cV (pc := 1021) (As := [.int (sc (6 * i + 1)), .int (sc (6 * i + 2))]) (C := yX7_hold.cls) (rest := []) B KL_134 (p_hold l G I hi (sc (6 * i + 1)) (sc (6 * i + 2))) (by decide) rfl (kb := 0) rfl rfl (Nat.le_of_ble_eq_true rfl) dL_law_1021 (fun r τ hq => ?_)
  obtain ⟨v, rfl, c2⟩ := hq
  show V X G shT τ [some (.ref b), some (.ref (ad G 0)), some (.ref (ad G 65)), some (.int (nI (6 * i)))] [.int v] 1024
  refine r_aload_n (pc := 1024) B dL_law_1024 rfl ?_
  refine r_aload_n (pc := 1025) B dL_law_1025 rfl ?_
  refine r_iload_n (pc := 1026) B dL_law_1026 rfl ?_
  refine r_iconst (pc := 1027) (x := 1) B dL_law_1027 (by decide) ?_
  refine r_iadd (pc := 1028) B dL_law_1028 ?_
  refine r_sld (pc := 1029) (j := 6 * i + 1) B hX hbl hbA (nI_add _ 1) (by omega) (by omega) dL_law_1029 ?_
  refine r_aload_n (pc := 1030) B dL_law_1030 rfl ?_
  refine r_iload_n (pc := 1031) B dL_law_1031 rfl ?_
  refine r_iconst (pc := 1032) (x := 2) B dL_law_1032 (by decide) ?_
  refine r_iadd (pc := 1033) B dL_law_1033 ?_
  refine r_sld (pc := 1034) (j := 6 * i + 2) B hX hbl hbA (nI_add _ 2) (by omega) (by omega) dL_law_1034 ?_
  refine r_cV (pc := 1035) (As := [.int (sc (6 * i + 1)), .int (sc (6 * i + 2))]) (C := yX8_hold.cls) (rest := [.int v]) B KL_137 c2 (by decide) rfl (kb := 65) rfl rfl (Nat.le_of_ble_eq_true rfl) dL_law_1035 (fun r2 υ hq2 => ?_)
  obtain ⟨rfl, hI⟩ := hq2
  show V X G shT υ [some (.ref b), some (.ref (ad G 0)), some (.ref (ad G 65)), some (.int (nI (6 * i)))] [.int v, .int v] 1038
  exact r_icmp_eq (pc := 1038) B 1356 dL_law_1038 (by decide) (fun _ => K υ hI) (fun h => absurd rfl h)
set_option maxHeartbeats 4000000 in
set_option maxRecDepth 20000 in
theorem L_as {l : Launch} {X : CX} {G : GG} {b Ls : Nat} {sc : Nat → Int32} (B : Bd l X G code RL 4 13) (hX : va_X b Ls sc (xs X) (xs X).heap) (hbl : b < (xs X).heap.size) (hbA : ¬ AA G b) (hL : Ls ≤ 3072) {i : Nat} {σ : Sg} (I : Inv i σ) (hi : i ≤ 512) (hr : 6 * i + 6 ≤ Ls) (K : ∀ υ, wI (i + 1) υ → V X G shT υ [some (.ref b), some (.ref (ad G 0)), some (.ref (ad G 65)), some (.int (nI (6 * i)))] [] 1356) : V X G shT σ [some (.ref b), some (.ref (ad G 0)), some (.ref (ad G 65)), some (.int (nI (6 * i)))] [] 1043 := by
  refine r_aload_n (pc := 1043) B dL_law_1043 rfl ?_
  refine r_aload_n (pc := 1044) B dL_law_1044 rfl ?_
  refine r_iload_n (pc := 1045) B dL_law_1045 rfl ?_
  refine r_iconst (pc := 1046) (x := 1) B dL_law_1046 (by decide) ?_
  refine r_iadd (pc := 1047) B dL_law_1047 ?_
  refine r_sld (pc := 1048) (j := 6 * i + 1) B hX hbl hbA (nI_add _ 1) (by omega) (by omega) dL_law_1048 ?_
  refine r_aload_n (pc := 1049) B dL_law_1049 rfl ?_
  refine r_iload_n (pc := 1050) B dL_law_1050 rfl ?_
  refine r_iconst (pc := 1051) (x := 2) B dL_law_1051 (by decide) ?_
  refine r_iadd (pc := 1052) B dL_law_1052 ?_
  refine r_sld (pc := 1053) (j := 6 * i + 2) B hX hbl hbA (nI_add _ 2) (by omega) (by omega) dL_law_1053 ?_
  refine r_cV (pc := 1054) (As := [.int (sc (6 * i + 1)), .int (sc (6 * i + 2))]) (C := yX7_as.cls) (rest := []) B KL_138 (p_as l G I hi (sc (6 * i + 1)) (sc (6 * i + 2))) (by decide) rfl (kb := 0) rfl rfl (Nat.le_of_ble_eq_true rfl) dL_law_1054 (fun r τ hq => ?_)
  obtain ⟨v, rfl, c2⟩ := hq
  show V X G shT τ [some (.ref b), some (.ref (ad G 0)), some (.ref (ad G 65)), some (.int (nI (6 * i)))] [.int v] 1057
  refine r_aload_n (pc := 1057) B dL_law_1057 rfl ?_
  refine r_aload_n (pc := 1058) B dL_law_1058 rfl ?_
  refine r_iload_n (pc := 1059) B dL_law_1059 rfl ?_
  refine r_iconst (pc := 1060) (x := 1) B dL_law_1060 (by decide) ?_
  refine r_iadd (pc := 1061) B dL_law_1061 ?_
  refine r_sld (pc := 1062) (j := 6 * i + 1) B hX hbl hbA (nI_add _ 1) (by omega) (by omega) dL_law_1062 ?_
  refine r_aload_n (pc := 1063) B dL_law_1063 rfl ?_
  refine r_iload_n (pc := 1064) B dL_law_1064 rfl ?_
  refine r_iconst (pc := 1065) (x := 2) B dL_law_1065 (by decide) ?_
  refine r_iadd (pc := 1066) B dL_law_1066 ?_
  refine r_sld (pc := 1067) (j := 6 * i + 2) B hX hbl hbA (nI_add _ 2) (by omega) (by omega) dL_law_1067 ?_
  refine r_cV (pc := 1068) (As := [.int (sc (6 * i + 1)), .int (sc (6 * i + 2))]) (C := yX8_as.cls) (rest := [.int v]) B KL_141 c2 (by decide) rfl (kb := 65) rfl rfl (Nat.le_of_ble_eq_true rfl) dL_law_1068 (fun r2 υ hq2 => ?_)
  obtain ⟨rfl, hI⟩ := hq2
  show V X G shT υ [some (.ref b), some (.ref (ad G 0)), some (.ref (ad G 65)), some (.int (nI (6 * i)))] [.int v, .int v] 1071
  exact r_icmp_eq (pc := 1071) B 1356 dL_law_1071 (by decide) (fun _ => K υ hI) (fun h => absurd rfl h)
set_option maxHeartbeats 4000000 in
set_option maxRecDepth 20000 in
theorem L_sheet {l : Launch} {X : CX} {G : GG} {b Ls : Nat} {sc : Nat → Int32} (B : Bd l X G code RL 4 13) (hX : va_X b Ls sc (xs X) (xs X).heap) (hbl : b < (xs X).heap.size) (hbA : ¬ AA G b) (hL : Ls ≤ 3072) {i : Nat} {σ : Sg} (I : Inv i σ) (hi : i ≤ 512) (hr : 6 * i + 6 ≤ Ls) (K : ∀ υ, wI (i + 1) υ → V X G shT υ [some (.ref b), some (.ref (ad G 0)), some (.ref (ad G 65)), some (.int (nI (6 * i)))] [] 1356) : V X G shT σ [some (.ref b), some (.ref (ad G 0)), some (.ref (ad G 65)), some (.int (nI (6 * i)))] [] 1076 := by
  refine r_aload_n (pc := 1076) B dL_law_1076 rfl ?_
  refine r_aload_n (pc := 1077) B dL_law_1077 rfl ?_
  refine r_iload_n (pc := 1078) B dL_law_1078 rfl ?_
  refine r_iconst (pc := 1079) (x := 1) B dL_law_1079 (by decide) ?_
  refine r_iadd (pc := 1080) B dL_law_1080 ?_
  refine r_sld (pc := 1081) (j := 6 * i + 1) B hX hbl hbA (nI_add _ 1) (by omega) (by omega) dL_law_1081 ?_
  refine r_aload_n (pc := 1082) B dL_law_1082 rfl ?_
  refine r_iload_n (pc := 1083) B dL_law_1083 rfl ?_
  refine r_iconst (pc := 1084) (x := 2) B dL_law_1084 (by decide) ?_
  refine r_iadd (pc := 1085) B dL_law_1085 ?_
  refine r_sld (pc := 1086) (j := 6 * i + 2) B hX hbl hbA (nI_add _ 2) (by omega) (by omega) dL_law_1086 ?_
  refine r_aload_n (pc := 1087) B dL_law_1087 rfl ?_
  refine r_iload_n (pc := 1088) B dL_law_1088 rfl ?_
  refine r_iconst (pc := 1089) (x := 3) B dL_law_1089 (by decide) ?_
  refine r_iadd (pc := 1090) B dL_law_1090 ?_
  refine r_sld (pc := 1091) (j := 6 * i + 3) B hX hbl hbA (nI_add _ 3) (by omega) (by omega) dL_law_1091 ?_
  refine r_cV (pc := 1092) (As := [.int (sc (6 * i + 1)), .int (sc (6 * i + 2)), .int (sc (6 * i + 3))]) (C := yX7_sheet.cls) (rest := []) B KL_142 (p_sheet l G I hi (sc (6 * i + 1)) (sc (6 * i + 2)) (sc (6 * i + 3))) (by decide) rfl (kb := 0) rfl rfl (Nat.le_of_ble_eq_true rfl) dL_law_1092 (fun r τ hq => ?_)
  obtain ⟨v, rfl, c2⟩ := hq
  show V X G shT τ [some (.ref b), some (.ref (ad G 0)), some (.ref (ad G 65)), some (.int (nI (6 * i)))] [.int v] 1095
  refine r_aload_n (pc := 1095) B dL_law_1095 rfl ?_
  refine r_aload_n (pc := 1096) B dL_law_1096 rfl ?_
  refine r_iload_n (pc := 1097) B dL_law_1097 rfl ?_
  refine r_iconst (pc := 1098) (x := 1) B dL_law_1098 (by decide) ?_
  refine r_iadd (pc := 1099) B dL_law_1099 ?_
  refine r_sld (pc := 1100) (j := 6 * i + 1) B hX hbl hbA (nI_add _ 1) (by omega) (by omega) dL_law_1100 ?_
  refine r_aload_n (pc := 1101) B dL_law_1101 rfl ?_
  refine r_iload_n (pc := 1102) B dL_law_1102 rfl ?_
  refine r_iconst (pc := 1103) (x := 2) B dL_law_1103 (by decide) ?_
  refine r_iadd (pc := 1104) B dL_law_1104 ?_
  refine r_sld (pc := 1105) (j := 6 * i + 2) B hX hbl hbA (nI_add _ 2) (by omega) (by omega) dL_law_1105 ?_
  refine r_aload_n (pc := 1106) B dL_law_1106 rfl ?_
  refine r_iload_n (pc := 1107) B dL_law_1107 rfl ?_
  refine r_iconst (pc := 1108) (x := 3) B dL_law_1108 (by decide) ?_
  refine r_iadd (pc := 1109) B dL_law_1109 ?_
  refine r_sld (pc := 1110) (j := 6 * i + 3) B hX hbl hbA (nI_add _ 3) (by omega) (by omega) dL_law_1110 ?_
  refine r_cV (pc := 1111) (As := [.int (sc (6 * i + 1)), .int (sc (6 * i + 2)), .int (sc (6 * i + 3))]) (C := yX8_sheet.cls) (rest := [.int v]) B KL_145 c2 (by decide) rfl (kb := 65) rfl rfl (Nat.le_of_ble_eq_true rfl) dL_law_1111 (fun r2 υ hq2 => ?_)
  obtain ⟨rfl, hI⟩ := hq2
  show V X G shT υ [some (.ref b), some (.ref (ad G 0)), some (.ref (ad G 65)), some (.int (nI (6 * i)))] [.int v, .int v] 1114
  exact r_icmp_eq (pc := 1114) B 1356 dL_law_1114 (by decide) (fun _ => K υ hI) (fun h => absurd rfl h)
set_option maxHeartbeats 4000000 in
set_option maxRecDepth 20000 in
theorem L_write {l : Launch} {X : CX} {G : GG} {b Ls : Nat} {sc : Nat → Int32} (B : Bd l X G code RL 4 13) (hX : va_X b Ls sc (xs X) (xs X).heap) (hbl : b < (xs X).heap.size) (hbA : ¬ AA G b) (hL : Ls ≤ 3072) {i : Nat} {σ : Sg} (I : Inv i σ) (hi : i ≤ 512) (hr : 6 * i + 6 ≤ Ls) (K : ∀ υ, wI (i + 1) υ → V X G shT υ [some (.ref b), some (.ref (ad G 0)), some (.ref (ad G 65)), some (.int (nI (6 * i)))] [] 1356) : V X G shT σ [some (.ref b), some (.ref (ad G 0)), some (.ref (ad G 65)), some (.int (nI (6 * i)))] [] 1119 := by
  refine r_aload_n (pc := 1119) B dL_law_1119 rfl ?_
  refine r_aload_n (pc := 1120) B dL_law_1120 rfl ?_
  refine r_iload_n (pc := 1121) B dL_law_1121 rfl ?_
  refine r_iconst (pc := 1122) (x := 1) B dL_law_1122 (by decide) ?_
  refine r_iadd (pc := 1123) B dL_law_1123 ?_
  refine r_sld (pc := 1124) (j := 6 * i + 1) B hX hbl hbA (nI_add _ 1) (by omega) (by omega) dL_law_1124 ?_
  refine r_aload_n (pc := 1125) B dL_law_1125 rfl ?_
  refine r_iload_n (pc := 1126) B dL_law_1126 rfl ?_
  refine r_iconst (pc := 1127) (x := 2) B dL_law_1127 (by decide) ?_
  refine r_iadd (pc := 1128) B dL_law_1128 ?_
  refine r_sld (pc := 1129) (j := 6 * i + 2) B hX hbl hbA (nI_add _ 2) (by omega) (by omega) dL_law_1129 ?_
  refine r_aload_n (pc := 1130) B dL_law_1130 rfl ?_
  refine r_iload_n (pc := 1131) B dL_law_1131 rfl ?_
  refine r_iconst (pc := 1132) (x := 3) B dL_law_1132 (by decide) ?_
  refine r_iadd (pc := 1133) B dL_law_1133 ?_
  refine r_sld (pc := 1134) (j := 6 * i + 3) B hX hbl hbA (nI_add _ 3) (by omega) (by omega) dL_law_1134 ?_
  refine r_cV (pc := 1135) (As := [.int (sc (6 * i + 1)), .int (sc (6 * i + 2)), .int (sc (6 * i + 3))]) (C := yX7_write.cls) (rest := []) B KL_146 (p_write l G I hi (sc (6 * i + 1)) (sc (6 * i + 2)) (sc (6 * i + 3))) (by decide) rfl (kb := 0) rfl rfl (Nat.le_of_ble_eq_true rfl) dL_law_1135 (fun r τ hq => ?_)
  obtain ⟨v, rfl, c2⟩ := hq
  show V X G shT τ [some (.ref b), some (.ref (ad G 0)), some (.ref (ad G 65)), some (.int (nI (6 * i)))] [.int v] 1138
  refine r_aload_n (pc := 1138) B dL_law_1138 rfl ?_
  refine r_aload_n (pc := 1139) B dL_law_1139 rfl ?_
  refine r_iload_n (pc := 1140) B dL_law_1140 rfl ?_
  refine r_iconst (pc := 1141) (x := 1) B dL_law_1141 (by decide) ?_
  refine r_iadd (pc := 1142) B dL_law_1142 ?_
  refine r_sld (pc := 1143) (j := 6 * i + 1) B hX hbl hbA (nI_add _ 1) (by omega) (by omega) dL_law_1143 ?_
  refine r_aload_n (pc := 1144) B dL_law_1144 rfl ?_
  refine r_iload_n (pc := 1145) B dL_law_1145 rfl ?_
  refine r_iconst (pc := 1146) (x := 2) B dL_law_1146 (by decide) ?_
  refine r_iadd (pc := 1147) B dL_law_1147 ?_
  refine r_sld (pc := 1148) (j := 6 * i + 2) B hX hbl hbA (nI_add _ 2) (by omega) (by omega) dL_law_1148 ?_
  refine r_aload_n (pc := 1149) B dL_law_1149 rfl ?_
  refine r_iload_n (pc := 1150) B dL_law_1150 rfl ?_
  refine r_iconst (pc := 1151) (x := 3) B dL_law_1151 (by decide) ?_
  refine r_iadd (pc := 1152) B dL_law_1152 ?_
  refine r_sld (pc := 1153) (j := 6 * i + 3) B hX hbl hbA (nI_add _ 3) (by omega) (by omega) dL_law_1153 ?_
  refine r_cV (pc := 1154) (As := [.int (sc (6 * i + 1)), .int (sc (6 * i + 2)), .int (sc (6 * i + 3))]) (C := yX8_write.cls) (rest := [.int v]) B KL_149 c2 (by decide) rfl (kb := 65) rfl rfl (Nat.le_of_ble_eq_true rfl) dL_law_1154 (fun r2 υ hq2 => ?_)
  obtain ⟨rfl, hI⟩ := hq2
  show V X G shT υ [some (.ref b), some (.ref (ad G 0)), some (.ref (ad G 65)), some (.int (nI (6 * i)))] [.int v, .int v] 1157
  exact r_icmp_eq (pc := 1157) B 1356 dL_law_1157 (by decide) (fun _ => K υ hI) (fun h => absurd rfl h)
set_option maxHeartbeats 4000000 in
set_option maxRecDepth 20000 in
theorem L_copy {l : Launch} {X : CX} {G : GG} {b Ls : Nat} {sc : Nat → Int32} (B : Bd l X G code RL 4 13) (hX : va_X b Ls sc (xs X) (xs X).heap) (hbl : b < (xs X).heap.size) (hbA : ¬ AA G b) (hL : Ls ≤ 3072) {i : Nat} {σ : Sg} (I : Inv i σ) (hi : i ≤ 512) (hr : 6 * i + 6 ≤ Ls) (K : ∀ υ, wI (i + 1) υ → V X G shT υ [some (.ref b), some (.ref (ad G 0)), some (.ref (ad G 65)), some (.int (nI (6 * i)))] [] 1356) : V X G shT σ [some (.ref b), some (.ref (ad G 0)), some (.ref (ad G 65)), some (.int (nI (6 * i)))] [] 1162 := by
  refine r_aload_n (pc := 1162) B dL_law_1162 rfl ?_
  refine r_aload_n (pc := 1163) B dL_law_1163 rfl ?_
  refine r_iload_n (pc := 1164) B dL_law_1164 rfl ?_
  refine r_iconst (pc := 1165) (x := 1) B dL_law_1165 (by decide) ?_
  refine r_iadd (pc := 1166) B dL_law_1166 ?_
  refine r_sld (pc := 1167) (j := 6 * i + 1) B hX hbl hbA (nI_add _ 1) (by omega) (by omega) dL_law_1167 ?_
  refine r_aload_n (pc := 1168) B dL_law_1168 rfl ?_
  refine r_iload_n (pc := 1169) B dL_law_1169 rfl ?_
  refine r_iconst (pc := 1170) (x := 2) B dL_law_1170 (by decide) ?_
  refine r_iadd (pc := 1171) B dL_law_1171 ?_
  refine r_sld (pc := 1172) (j := 6 * i + 2) B hX hbl hbA (nI_add _ 2) (by omega) (by omega) dL_law_1172 ?_
  refine r_aload_n (pc := 1173) B dL_law_1173 rfl ?_
  refine r_iload_n (pc := 1174) B dL_law_1174 rfl ?_
  refine r_iconst (pc := 1175) (x := 3) B dL_law_1175 (by decide) ?_
  refine r_iadd (pc := 1176) B dL_law_1176 ?_
  refine r_sld (pc := 1177) (j := 6 * i + 3) B hX hbl hbA (nI_add _ 3) (by omega) (by omega) dL_law_1177 ?_
  refine r_aload_n (pc := 1178) B dL_law_1178 rfl ?_
  refine r_iload_n (pc := 1179) B dL_law_1179 rfl ?_
  refine r_iconst (pc := 1180) (x := 4) B dL_law_1180 (by decide) ?_
  refine r_iadd (pc := 1181) B dL_law_1181 ?_
  refine r_sld (pc := 1182) (j := 6 * i + 4) B hX hbl hbA (nI_add _ 4) (by omega) (by omega) dL_law_1182 ?_
  refine r_aload_n (pc := 1183) B dL_law_1183 rfl ?_
  refine r_iload_n (pc := 1184) B dL_law_1184 rfl ?_
  refine r_iconst (pc := 1185) (x := 5) B dL_law_1185 (by decide) ?_
  refine r_iadd (pc := 1186) B dL_law_1186 ?_
  refine r_sld (pc := 1187) (j := 6 * i + 5) B hX hbl hbA (nI_add _ 5) (by omega) (by omega) dL_law_1187 ?_
  refine r_cV (pc := 1188) (As := [.int (sc (6 * i + 1)), .int (sc (6 * i + 2)), .int (sc (6 * i + 3)), .int (sc (6 * i + 4)), .int (sc (6 * i + 5))]) (C := yX7_copy.cls) (rest := []) B KL_150 (p_copy l G I hi (sc (6 * i + 1)) (sc (6 * i + 2)) (sc (6 * i + 3)) (sc (6 * i + 4)) (sc (6 * i + 5))) (by decide) rfl (kb := 0) rfl rfl (Nat.le_of_ble_eq_true rfl) dL_law_1188 (fun r τ hq => ?_)
  obtain ⟨v, rfl, c2⟩ := hq
  show V X G shT τ [some (.ref b), some (.ref (ad G 0)), some (.ref (ad G 65)), some (.int (nI (6 * i)))] [.int v] 1191
  refine r_aload_n (pc := 1191) B dL_law_1191 rfl ?_
  refine r_aload_n (pc := 1192) B dL_law_1192 rfl ?_
  refine r_iload_n (pc := 1193) B dL_law_1193 rfl ?_
  refine r_iconst (pc := 1194) (x := 1) B dL_law_1194 (by decide) ?_
  refine r_iadd (pc := 1195) B dL_law_1195 ?_
  refine r_sld (pc := 1196) (j := 6 * i + 1) B hX hbl hbA (nI_add _ 1) (by omega) (by omega) dL_law_1196 ?_
  refine r_aload_n (pc := 1197) B dL_law_1197 rfl ?_
  refine r_iload_n (pc := 1198) B dL_law_1198 rfl ?_
  refine r_iconst (pc := 1199) (x := 2) B dL_law_1199 (by decide) ?_
  refine r_iadd (pc := 1200) B dL_law_1200 ?_
  refine r_sld (pc := 1201) (j := 6 * i + 2) B hX hbl hbA (nI_add _ 2) (by omega) (by omega) dL_law_1201 ?_
  refine r_aload_n (pc := 1202) B dL_law_1202 rfl ?_
  refine r_iload_n (pc := 1203) B dL_law_1203 rfl ?_
  refine r_iconst (pc := 1204) (x := 3) B dL_law_1204 (by decide) ?_
  refine r_iadd (pc := 1205) B dL_law_1205 ?_
  refine r_sld (pc := 1206) (j := 6 * i + 3) B hX hbl hbA (nI_add _ 3) (by omega) (by omega) dL_law_1206 ?_
  refine r_aload_n (pc := 1207) B dL_law_1207 rfl ?_
  refine r_iload_n (pc := 1208) B dL_law_1208 rfl ?_
  refine r_iconst (pc := 1209) (x := 4) B dL_law_1209 (by decide) ?_
  refine r_iadd (pc := 1210) B dL_law_1210 ?_
  refine r_sld (pc := 1211) (j := 6 * i + 4) B hX hbl hbA (nI_add _ 4) (by omega) (by omega) dL_law_1211 ?_
  refine r_aload_n (pc := 1212) B dL_law_1212 rfl ?_
  refine r_iload_n (pc := 1213) B dL_law_1213 rfl ?_
  refine r_iconst (pc := 1214) (x := 5) B dL_law_1214 (by decide) ?_
  refine r_iadd (pc := 1215) B dL_law_1215 ?_
  refine r_sld (pc := 1216) (j := 6 * i + 5) B hX hbl hbA (nI_add _ 5) (by omega) (by omega) dL_law_1216 ?_
  refine r_cV (pc := 1217) (As := [.int (sc (6 * i + 1)), .int (sc (6 * i + 2)), .int (sc (6 * i + 3)), .int (sc (6 * i + 4)), .int (sc (6 * i + 5))]) (C := yX8_copy.cls) (rest := [.int v]) B KL_154 c2 (by decide) rfl (kb := 65) rfl rfl (Nat.le_of_ble_eq_true rfl) dL_law_1217 (fun r2 υ hq2 => ?_)
  obtain ⟨rfl, hI⟩ := hq2
  show V X G shT υ [some (.ref b), some (.ref (ad G 0)), some (.ref (ad G 65)), some (.int (nI (6 * i)))] [.int v, .int v] 1220
  exact r_icmp_eq (pc := 1220) B 1356 dL_law_1220 (by decide) (fun _ => K υ hI) (fun h => absurd rfl h)
set_option maxHeartbeats 4000000 in
set_option maxRecDepth 20000 in
theorem L_load {l : Launch} {X : CX} {G : GG} {b Ls : Nat} {sc : Nat → Int32} (B : Bd l X G code RL 4 13) (hX : va_X b Ls sc (xs X) (xs X).heap) (hbl : b < (xs X).heap.size) (hbA : ¬ AA G b) (hL : Ls ≤ 3072) {i : Nat} {σ : Sg} (I : Inv i σ) (hi : i ≤ 512) (hr : 6 * i + 6 ≤ Ls) (K : ∀ υ, wI (i + 1) υ → V X G shT υ [some (.ref b), some (.ref (ad G 0)), some (.ref (ad G 65)), some (.int (nI (6 * i)))] [] 1356) : V X G shT σ [some (.ref b), some (.ref (ad G 0)), some (.ref (ad G 65)), some (.int (nI (6 * i)))] [] 1225 := by
  refine r_aload_n (pc := 1225) B dL_law_1225 rfl ?_
  refine r_aload_n (pc := 1226) B dL_law_1226 rfl ?_
  refine r_iload_n (pc := 1227) B dL_law_1227 rfl ?_
  refine r_iconst (pc := 1228) (x := 1) B dL_law_1228 (by decide) ?_
  refine r_iadd (pc := 1229) B dL_law_1229 ?_
  refine r_sld (pc := 1230) (j := 6 * i + 1) B hX hbl hbA (nI_add _ 1) (by omega) (by omega) dL_law_1230 ?_
  refine r_cV (pc := 1231) (As := [.int (sc (6 * i + 1))]) (C := yX7_load.cls) (rest := []) B KL_155 (p_load l G I hi (sc (6 * i + 1))) (by decide) rfl (kb := 0) rfl rfl (Nat.le_of_ble_eq_true rfl) dL_law_1231 (fun r τ hq => ?_)
  obtain ⟨v, rfl, c2⟩ := hq
  show V X G shT τ [some (.ref b), some (.ref (ad G 0)), some (.ref (ad G 65)), some (.int (nI (6 * i)))] [.int v] 1234
  refine r_aload_n (pc := 1234) B dL_law_1234 rfl ?_
  refine r_aload_n (pc := 1235) B dL_law_1235 rfl ?_
  refine r_iload_n (pc := 1236) B dL_law_1236 rfl ?_
  refine r_iconst (pc := 1237) (x := 1) B dL_law_1237 (by decide) ?_
  refine r_iadd (pc := 1238) B dL_law_1238 ?_
  refine r_sld (pc := 1239) (j := 6 * i + 1) B hX hbl hbA (nI_add _ 1) (by omega) (by omega) dL_law_1239 ?_
  refine r_cV (pc := 1240) (As := [.int (sc (6 * i + 1))]) (C := yX8_load.cls) (rest := [.int v]) B KL_158 c2 (by decide) rfl (kb := 65) rfl rfl (Nat.le_of_ble_eq_true rfl) dL_law_1240 (fun r2 υ hq2 => ?_)
  obtain ⟨rfl, hI⟩ := hq2
  show V X G shT υ [some (.ref b), some (.ref (ad G 0)), some (.ref (ad G 65)), some (.int (nI (6 * i)))] [.int v, .int v] 1243
  exact r_icmp_eq (pc := 1243) B 1356 dL_law_1243 (by decide) (fun _ => K υ hI) (fun h => absurd rfl h)
set_option maxHeartbeats 4000000 in
set_option maxRecDepth 20000 in
theorem L_judge {l : Launch} {X : CX} {G : GG} {b Ls : Nat} {sc : Nat → Int32} (B : Bd l X G code RL 4 13) (hX : va_X b Ls sc (xs X) (xs X).heap) (hbl : b < (xs X).heap.size) (hbA : ¬ AA G b) (hL : Ls ≤ 3072) {i : Nat} {σ : Sg} (I : Inv i σ) (hi : i ≤ 512) (hr : 6 * i + 6 ≤ Ls) (K : ∀ υ, wI (i + 1) υ → V X G shT υ [some (.ref b), some (.ref (ad G 0)), some (.ref (ad G 65)), some (.int (nI (6 * i)))] [] 1356) : V X G shT σ [some (.ref b), some (.ref (ad G 0)), some (.ref (ad G 65)), some (.int (nI (6 * i)))] [] 1248 := by
  refine r_aload_n (pc := 1248) B dL_law_1248 rfl ?_
  refine r_aload_n (pc := 1249) B dL_law_1249 rfl ?_
  refine r_iload_n (pc := 1250) B dL_law_1250 rfl ?_
  refine r_iconst (pc := 1251) (x := 1) B dL_law_1251 (by decide) ?_
  refine r_iadd (pc := 1252) B dL_law_1252 ?_
  refine r_sld (pc := 1253) (j := 6 * i + 1) B hX hbl hbA (nI_add _ 1) (by omega) (by omega) dL_law_1253 ?_
  refine r_cV (pc := 1254) (As := [.int (sc (6 * i + 1))]) (C := yX7_judge.cls) (rest := []) B KL_159 (p_judge l G I hi (sc (6 * i + 1))) (by decide) rfl (kb := 0) rfl rfl (Nat.le_of_ble_eq_true rfl) dL_law_1254 (fun r τ hq => ?_)
  obtain ⟨v, rfl, c2⟩ := hq
  show V X G shT τ [some (.ref b), some (.ref (ad G 0)), some (.ref (ad G 65)), some (.int (nI (6 * i)))] [.int v] 1257
  refine r_aload_n (pc := 1257) B dL_law_1257 rfl ?_
  refine r_aload_n (pc := 1258) B dL_law_1258 rfl ?_
  refine r_iload_n (pc := 1259) B dL_law_1259 rfl ?_
  refine r_iconst (pc := 1260) (x := 1) B dL_law_1260 (by decide) ?_
  refine r_iadd (pc := 1261) B dL_law_1261 ?_
  refine r_sld (pc := 1262) (j := 6 * i + 1) B hX hbl hbA (nI_add _ 1) (by omega) (by omega) dL_law_1262 ?_
  refine r_cV (pc := 1263) (As := [.int (sc (6 * i + 1))]) (C := yX8_judge.cls) (rest := [.int v]) B KL_162 c2 (by decide) rfl (kb := 65) rfl rfl (Nat.le_of_ble_eq_true rfl) dL_law_1263 (fun r2 υ hq2 => ?_)
  obtain ⟨rfl, hI⟩ := hq2
  show V X G shT υ [some (.ref b), some (.ref (ad G 0)), some (.ref (ad G 65)), some (.int (nI (6 * i)))] [.int v, .int v] 1266
  exact r_icmp_eq (pc := 1266) B 1356 dL_law_1266 (by decide) (fun _ => K υ hI) (fun h => absurd rfl h)
set_option maxHeartbeats 4000000 in
set_option maxRecDepth 20000 in
theorem L_image {l : Launch} {X : CX} {G : GG} {b Ls : Nat} {sc : Nat → Int32} (B : Bd l X G code RL 4 13) (hX : va_X b Ls sc (xs X) (xs X).heap) (hbl : b < (xs X).heap.size) (hbA : ¬ AA G b) (hL : Ls ≤ 3072) {i : Nat} {σ : Sg} (I : Inv i σ) (hi : i ≤ 512) (hr : 6 * i + 6 ≤ Ls) (K : ∀ υ, wI (i + 1) υ → V X G shT υ [some (.ref b), some (.ref (ad G 0)), some (.ref (ad G 65)), some (.int (nI (6 * i)))] [] 1356) : V X G shT σ [some (.ref b), some (.ref (ad G 0)), some (.ref (ad G 65)), some (.int (nI (6 * i)))] [] 1271 := by
  refine r_aload_n (pc := 1271) B dL_law_1271 rfl ?_
  refine r_cV (pc := 1272) (As := []) (C := yX7_image.cls) (rest := []) B KL_163 (p_image l G I hi) (by decide) rfl (kb := 0) rfl rfl (Nat.le_of_ble_eq_true rfl) dL_law_1272 (fun r τ hq => ?_)
  obtain ⟨v, rfl, c2⟩ := hq
  show V X G shT τ [some (.ref b), some (.ref (ad G 0)), some (.ref (ad G 65)), some (.int (nI (6 * i)))] [.int v] 1275
  refine r_aload_n (pc := 1275) B dL_law_1275 rfl ?_
  refine r_cV (pc := 1276) (As := []) (C := yX8_image.cls) (rest := [.int v]) B KL_166 c2 (by decide) rfl (kb := 65) rfl rfl (Nat.le_of_ble_eq_true rfl) dL_law_1276 (fun r2 υ hq2 => ?_)
  obtain ⟨rfl, hI⟩ := hq2
  show V X G shT υ [some (.ref b), some (.ref (ad G 0)), some (.ref (ad G 65)), some (.int (nI (6 * i)))] [.int v, .int v] 1279
  exact r_icmp_eq (pc := 1279) B 1356 dL_law_1279 (by decide) (fun _ => K υ hI) (fun h => absurd rfl h)
set_option maxHeartbeats 4000000 in
set_option maxRecDepth 20000 in
theorem L_undo {l : Launch} {X : CX} {G : GG} {b Ls : Nat} {sc : Nat → Int32} (B : Bd l X G code RL 4 13) (hX : va_X b Ls sc (xs X) (xs X).heap) (hbl : b < (xs X).heap.size) (hbA : ¬ AA G b) (hL : Ls ≤ 3072) {i : Nat} {σ : Sg} (I : Inv i σ) (hi : i ≤ 512) (hr : 6 * i + 6 ≤ Ls) (K : ∀ υ, wI (i + 1) υ → V X G shT υ [some (.ref b), some (.ref (ad G 0)), some (.ref (ad G 65)), some (.int (nI (6 * i)))] [] 1356) : V X G shT σ [some (.ref b), some (.ref (ad G 0)), some (.ref (ad G 65)), some (.int (nI (6 * i)))] [] 1284 := by
  refine r_aload_n (pc := 1284) B dL_law_1284 rfl ?_
  refine r_cV (pc := 1285) (As := []) (C := yX7_undo.cls) (rest := []) B KL_167 (p_undo l G I hi) (by decide) rfl (kb := 0) rfl rfl (Nat.le_of_ble_eq_true rfl) dL_law_1285 (fun r τ hq => ?_)
  obtain ⟨v, rfl, c2⟩ := hq
  show V X G shT τ [some (.ref b), some (.ref (ad G 0)), some (.ref (ad G 65)), some (.int (nI (6 * i)))] [.int v] 1288
  refine r_aload_n (pc := 1288) B dL_law_1288 rfl ?_
  refine r_cV (pc := 1289) (As := []) (C := yX8_undo.cls) (rest := [.int v]) B KL_170 c2 (by decide) rfl (kb := 65) rfl rfl (Nat.le_of_ble_eq_true rfl) dL_law_1289 (fun r2 υ hq2 => ?_)
  obtain ⟨rfl, hI⟩ := hq2
  show V X G shT υ [some (.ref b), some (.ref (ad G 0)), some (.ref (ad G 65)), some (.int (nI (6 * i)))] [.int v, .int v] 1292
  exact r_icmp_eq (pc := 1292) B 1356 dL_law_1292 (by decide) (fun _ => K υ hI) (fun h => absurd rfl h)
set_option maxHeartbeats 4000000 in
set_option maxRecDepth 20000 in
theorem L_tear {l : Launch} {X : CX} {G : GG} {b Ls : Nat} {sc : Nat → Int32} (B : Bd l X G code RL 4 13) (hX : va_X b Ls sc (xs X) (xs X).heap) (hbl : b < (xs X).heap.size) (hbA : ¬ AA G b) (hL : Ls ≤ 3072) {i : Nat} {σ : Sg} (I : Inv i σ) (hi : i ≤ 512) (hr : 6 * i + 6 ≤ Ls) (K : ∀ υ, wI (i + 1) υ → V X G shT υ [some (.ref b), some (.ref (ad G 0)), some (.ref (ad G 65)), some (.int (nI (6 * i)))] [] 1356) : V X G shT σ [some (.ref b), some (.ref (ad G 0)), some (.ref (ad G 65)), some (.int (nI (6 * i)))] [] 1297 := by
  refine r_aload_n (pc := 1297) B dL_law_1297 rfl ?_
  refine r_cV (pc := 1298) (As := []) (C := yX7_tear.cls) (rest := []) B KL_171 (p_tear l G I hi) (by decide) rfl (kb := 0) rfl rfl (Nat.le_of_ble_eq_true rfl) dL_law_1298 (fun r τ hq => ?_)
  obtain ⟨v, rfl, c2⟩ := hq
  show V X G shT τ [some (.ref b), some (.ref (ad G 0)), some (.ref (ad G 65)), some (.int (nI (6 * i)))] [.int v] 1301
  refine r_aload_n (pc := 1301) B dL_law_1301 rfl ?_
  refine r_cV (pc := 1302) (As := []) (C := yX8_tear.cls) (rest := [.int v]) B KL_174 c2 (by decide) rfl (kb := 65) rfl rfl (Nat.le_of_ble_eq_true rfl) dL_law_1302 (fun r2 υ hq2 => ?_)
  obtain ⟨rfl, hI⟩ := hq2
  show V X G shT υ [some (.ref b), some (.ref (ad G 0)), some (.ref (ad G 65)), some (.int (nI (6 * i)))] [.int v, .int v] 1305
  exact r_icmp_eq (pc := 1305) B 1356 dL_law_1305 (by decide) (fun _ => K υ hI) (fun h => absurd rfl h)
set_option maxHeartbeats 4000000 in
set_option maxRecDepth 20000 in
theorem L_count {l : Launch} {X : CX} {G : GG} {b Ls : Nat} {sc : Nat → Int32} (B : Bd l X G code RL 4 13) (hX : va_X b Ls sc (xs X) (xs X).heap) (hbl : b < (xs X).heap.size) (hbA : ¬ AA G b) (hL : Ls ≤ 3072) {i : Nat} {σ : Sg} (I : Inv i σ) (hi : i ≤ 512) (hr : 6 * i + 6 ≤ Ls) (K : ∀ υ, wI (i + 1) υ → V X G shT υ [some (.ref b), some (.ref (ad G 0)), some (.ref (ad G 65)), some (.int (nI (6 * i)))] [] 1356) : V X G shT σ [some (.ref b), some (.ref (ad G 0)), some (.ref (ad G 65)), some (.int (nI (6 * i)))] [] 1310 := by
  refine r_aload_n (pc := 1310) B dL_law_1310 rfl ?_
  refine r_aload_n (pc := 1311) B dL_law_1311 rfl ?_
  refine r_iload_n (pc := 1312) B dL_law_1312 rfl ?_
  refine r_iconst (pc := 1313) (x := 1) B dL_law_1313 (by decide) ?_
  refine r_iadd (pc := 1314) B dL_law_1314 ?_
  refine r_sld (pc := 1315) (j := 6 * i + 1) B hX hbl hbA (nI_add _ 1) (by omega) (by omega) dL_law_1315 ?_
  refine r_cV (pc := 1316) (As := [.int (sc (6 * i + 1))]) (C := yX7_count.cls) (rest := []) B KL_175 (p_count l G I hi (sc (6 * i + 1))) (by decide) rfl (kb := 0) rfl rfl (Nat.le_of_ble_eq_true rfl) dL_law_1316 (fun r τ hq => ?_)
  obtain ⟨v, rfl, c2⟩ := hq
  show V X G shT τ [some (.ref b), some (.ref (ad G 0)), some (.ref (ad G 65)), some (.int (nI (6 * i)))] [.int v] 1319
  refine r_aload_n (pc := 1319) B dL_law_1319 rfl ?_
  refine r_aload_n (pc := 1320) B dL_law_1320 rfl ?_
  refine r_iload_n (pc := 1321) B dL_law_1321 rfl ?_
  refine r_iconst (pc := 1322) (x := 1) B dL_law_1322 (by decide) ?_
  refine r_iadd (pc := 1323) B dL_law_1323 ?_
  refine r_sld (pc := 1324) (j := 6 * i + 1) B hX hbl hbA (nI_add _ 1) (by omega) (by omega) dL_law_1324 ?_
  refine r_cV (pc := 1325) (As := [.int (sc (6 * i + 1))]) (C := yX8_count.cls) (rest := [.int v]) B KL_178 c2 (by decide) rfl (kb := 65) rfl rfl (Nat.le_of_ble_eq_true rfl) dL_law_1325 (fun r2 υ hq2 => ?_)
  obtain ⟨rfl, hI⟩ := hq2
  show V X G shT υ [some (.ref b), some (.ref (ad G 0)), some (.ref (ad G 65)), some (.int (nI (6 * i)))] [.int v, .int v] 1328
  exact r_icmp_eq (pc := 1328) B 1356 dL_law_1328 (by decide) (fun _ => K υ hI) (fun h => absurd rfl h)
set_option maxHeartbeats 4000000 in
set_option maxRecDepth 20000 in
theorem L_status {l : Launch} {X : CX} {G : GG} {b Ls : Nat} {sc : Nat → Int32} (B : Bd l X G code RL 4 13) (hX : va_X b Ls sc (xs X) (xs X).heap) (hbl : b < (xs X).heap.size) (hbA : ¬ AA G b) (hL : Ls ≤ 3072) {i : Nat} {σ : Sg} (I : Inv i σ) (hi : i ≤ 512) (hr : 6 * i + 6 ≤ Ls) (K : ∀ υ, wI (i + 1) υ → V X G shT υ [some (.ref b), some (.ref (ad G 0)), some (.ref (ad G 65)), some (.int (nI (6 * i)))] [] 1356) : V X G shT σ [some (.ref b), some (.ref (ad G 0)), some (.ref (ad G 65)), some (.int (nI (6 * i)))] [] 1333 := by
  refine r_aload_n (pc := 1333) B dL_law_1333 rfl ?_
  refine r_aload_n (pc := 1334) B dL_law_1334 rfl ?_
  refine r_iload_n (pc := 1335) B dL_law_1335 rfl ?_
  refine r_iconst (pc := 1336) (x := 1) B dL_law_1336 (by decide) ?_
  refine r_iadd (pc := 1337) B dL_law_1337 ?_
  refine r_sld (pc := 1338) (j := 6 * i + 1) B hX hbl hbA (nI_add _ 1) (by omega) (by omega) dL_law_1338 ?_
  refine r_cV (pc := 1339) (As := [.int (sc (6 * i + 1))]) (C := yX7_status.cls) (rest := []) B KL_179 (p_status l G I hi (sc (6 * i + 1))) (by decide) rfl (kb := 0) rfl rfl (Nat.le_of_ble_eq_true rfl) dL_law_1339 (fun r τ hq => ?_)
  obtain ⟨v, rfl, c2⟩ := hq
  show V X G shT τ [some (.ref b), some (.ref (ad G 0)), some (.ref (ad G 65)), some (.int (nI (6 * i)))] [.int v] 1342
  refine r_aload_n (pc := 1342) B dL_law_1342 rfl ?_
  refine r_aload_n (pc := 1343) B dL_law_1343 rfl ?_
  refine r_iload_n (pc := 1344) B dL_law_1344 rfl ?_
  refine r_iconst (pc := 1345) (x := 1) B dL_law_1345 (by decide) ?_
  refine r_iadd (pc := 1346) B dL_law_1346 ?_
  refine r_sld (pc := 1347) (j := 6 * i + 1) B hX hbl hbA (nI_add _ 1) (by omega) (by omega) dL_law_1347 ?_
  refine r_cV (pc := 1348) (As := [.int (sc (6 * i + 1))]) (C := yX8_status.cls) (rest := [.int v]) B KL_182 c2 (by decide) rfl (kb := 65) rfl rfl (Nat.le_of_ble_eq_true rfl) dL_law_1348 (fun r2 υ hq2 => ?_)
  obtain ⟨rfl, hI⟩ := hq2
  show V X G shT υ [some (.ref b), some (.ref (ad G 0)), some (.ref (ad G 65)), some (.int (nI (6 * i)))] [.int v, .int v] 1351
  exact r_icmp_eq (pc := 1351) B 1356 dL_law_1351 (by decide) (fun _ => K υ hI) (fun h => absurd rfl h)
