/-! the LAW: an arm each -/
section P99
variable {g : XG} {d k : Nat} {M : XM} {K : Option Value → XS → XM → Prop} {s : XSt}
theorem law_0 (hk : k + 6 ≤ (xscr g).2.1) (hn : (xscr g).2.1 ≤ 3072) (hC : XC9 M s) (hM : MC9 M s) (hT : okT s) (hK : ∀ M' s', XC9 M' s' → MC9 M' s' → okT s' → Wp g (d + 31) mL_law 1422 [some (.ref 5000), some (.ref 0), some (.ref 65), some (.int (nI k))] [] xSF (113, 4999) M' K) : Wp g (d + 31) mL_law 196 [some (.ref 5000), some (.ref 0), some (.ref 65), some (.int (nI k))] [] xSF (113, 4999) M K := by
  obtain ⟨hB, hN, hw, h5, hm6, hln, htx, ok, hl, hI, hw0⟩ := hC.pre
  refine x_aload_n (pc := 196) dL_law_196 rfl ?_
  refine x_aload_n (pc := 197) dL_law_197 rfl ?_
  refine x_iload_n (pc := 198) dL_law_198 rfl ?_
  refine x_iconstN (pc := 199) 1 dL_law_199 ic_1 ?_
  refine x_iaddN (pc := 200) dL_law_200 ?_
  refine x_scrN (pc := 201) dL_law_201 ⟨by omega, hn⟩ ?_
  refine x_aload_n (pc := 202) dL_law_202 rfl ?_
  refine x_iload_n (pc := 203) dL_law_203 rfl ?_
  refine x_iconstN (pc := 204) 2 dL_law_204 ic_2 ?_
  refine x_iaddN (pc := 205) dL_law_205 ?_
  refine x_scrN (pc := 206) dL_law_206 ⟨by omega, hn⟩ ?_
  refine x_aload_n (pc := 207) dL_law_207 rfl ?_
  refine x_iload_n (pc := 208) dL_law_208 rfl ?_
  refine x_iconstN (pc := 209) 3 dL_law_209 ic_3 ?_
  refine x_iaddN (pc := 210) dL_law_210 ?_
  refine x_scrN (pc := 211) dL_law_211 ⟨by omega, hn⟩ ?_
  refine x_aload_n (pc := 212) dL_law_212 rfl ?_
  refine x_iload_n (pc := 213) dL_law_213 rfl ?_
  refine x_iconstN (pc := 214) 4 dL_law_214 ic_4 ?_
  refine x_iaddN (pc := 215) dL_law_215 ?_
  refine x_scrN (pc := 216) dL_law_216 ⟨by omega, hn⟩ ?_
  refine x_invV4 (pc := 217) dL_law_217 mlL_13 imX9_goer seX9_goer kX9_goer (by rfl) rfl (Nat.le_of_ble_eq_true rfl) (by decide) ?_
  refine fX9_goer hC (fun M1 hlo hC1 => ?_)
  have hM1 := hM.low hlo
  refine x_cvB (b1 := 113) (b2 := 4999) rfl rfl ?_
  refine x_aload_n (pc := 220) dL_law_220 rfl ?_
  refine x_aload_n (pc := 221) dL_law_221 rfl ?_
  refine x_iload_n (pc := 222) dL_law_222 rfl ?_
  refine x_iconstN (pc := 223) 1 dL_law_223 ic_1 ?_
  refine x_iaddN (pc := 224) dL_law_224 ?_
  refine x_scrN (pc := 225) dL_law_225 ⟨by omega, hn⟩ ?_
  refine x_aload_n (pc := 226) dL_law_226 rfl ?_
  refine x_iload_n (pc := 227) dL_law_227 rfl ?_
  refine x_iconstN (pc := 228) 2 dL_law_228 ic_2 ?_
  refine x_iaddN (pc := 229) dL_law_229 ?_
  refine x_scrN (pc := 230) dL_law_230 ⟨by omega, hn⟩ ?_
  refine x_aload_n (pc := 231) dL_law_231 rfl ?_
  refine x_iload_n (pc := 232) dL_law_232 rfl ?_
  refine x_iconstN (pc := 233) 3 dL_law_233 ic_3 ?_
  refine x_iaddN (pc := 234) dL_law_234 ?_
  refine x_scrN (pc := 235) dL_law_235 ⟨by omega, hn⟩ ?_
  refine x_aload_n (pc := 236) dL_law_236 rfl ?_
  refine x_iload_n (pc := 237) dL_law_237 rfl ?_
  refine x_iconstN (pc := 238) 4 dL_law_238 ic_4 ?_
  refine x_iaddN (pc := 239) dL_law_239 ?_
  refine x_scrN (pc := 240) dL_law_240 ⟨by omega, hn⟩ ?_
  refine x_invV4 (pc := 241) dL_law_241 mlL_17 imX10_goer seX10_goer kX10_goer (by rfl) rfl (Nat.le_of_ble_eq_true rfl) (by decide) ?_
  refine fM_goer hB hw h5 hM1 (fun M2 hh hM2 => ?_)
  refine x_cvB (b1 := 113) (b2 := 4999) rfl rfl ?_
  refine x_icmp_eq (pc := 244) (tgt := 1422) dL_law_244 (by decide) (fun _ => ?_) (fun z => absurd rfl z)
  exact hK M2 _ (hC1.high hh) hM2 (okT_goer hT)
theorem law_1 (hk : k + 6 ≤ (xscr g).2.1) (hn : (xscr g).2.1 ≤ 3072) (hC : XC9 M s) (hM : MC9 M s) (hT : okT s) (hK : ∀ M' s', XC9 M' s' → MC9 M' s' → okT s' → Wp g (d + 31) mL_law 1422 [some (.ref 5000), some (.ref 0), some (.ref 65), some (.int (nI k))] [] xSF (113, 4999) M' K) : Wp g (d + 31) mL_law 249 [some (.ref 5000), some (.ref 0), some (.ref 65), some (.int (nI k))] [] xSF (113, 4999) M K := by
  obtain ⟨hB, hN, hw, h5, hm6, hln, htx, ok, hl, hI, hw0⟩ := hC.pre
  refine x_aload_n (pc := 249) dL_law_249 rfl ?_
  refine x_aload_n (pc := 250) dL_law_250 rfl ?_
  refine x_iload_n (pc := 251) dL_law_251 rfl ?_
  refine x_iconstN (pc := 252) 1 dL_law_252 ic_1 ?_
  refine x_iaddN (pc := 253) dL_law_253 ?_
  refine x_scrN (pc := 254) dL_law_254 ⟨by omega, hn⟩ ?_
  refine x_aload_n (pc := 255) dL_law_255 rfl ?_
  refine x_iload_n (pc := 256) dL_law_256 rfl ?_
  refine x_iconstN (pc := 257) 2 dL_law_257 ic_2 ?_
  refine x_iaddN (pc := 258) dL_law_258 ?_
  refine x_scrN (pc := 259) dL_law_259 ⟨by omega, hn⟩ ?_
  refine x_invV2 (pc := 260) dL_law_260 mlL_18 imX9_of seX9_of kX9_of (by rfl) rfl (Nat.le_of_ble_eq_true rfl) (by decide) ?_
  refine fX9_of hC (fun M1 hlo hC1 => ?_)
  have hM1 := hM.low hlo
  refine x_cvB (b1 := 113) (b2 := 4999) rfl rfl ?_
  refine x_aload_n (pc := 263) dL_law_263 rfl ?_
  refine x_aload_n (pc := 264) dL_law_264 rfl ?_
  refine x_iload_n (pc := 265) dL_law_265 rfl ?_
  refine x_iconstN (pc := 266) 1 dL_law_266 ic_1 ?_
  refine x_iaddN (pc := 267) dL_law_267 ?_
  refine x_scrN (pc := 268) dL_law_268 ⟨by omega, hn⟩ ?_
  refine x_aload_n (pc := 269) dL_law_269 rfl ?_
  refine x_iload_n (pc := 270) dL_law_270 rfl ?_
  refine x_iconstN (pc := 271) 2 dL_law_271 ic_2 ?_
  refine x_iaddN (pc := 272) dL_law_272 ?_
  refine x_scrN (pc := 273) dL_law_273 ⟨by omega, hn⟩ ?_
  refine x_invV2 (pc := 274) dL_law_274 mlL_22 imX10_of seX10_of kX10_of (by rfl) rfl (Nat.le_of_ble_eq_true rfl) (by decide) ?_
  refine fM_of hM1 ok (fun M2 hh hM2 => ?_)
  refine x_cvB (b1 := 113) (b2 := 4999) rfl rfl ?_
  refine x_icmp_eq (pc := 277) (tgt := 1422) dL_law_277 (by decide) (fun _ => ?_) (fun z => absurd rfl z)
  exact hK M2 _ (hC1.high hh) hM2 hT
theorem law_2 (hk : k + 6 ≤ (xscr g).2.1) (hn : (xscr g).2.1 ≤ 3072) (hC : XC9 M s) (hM : MC9 M s) (hT : okT s) (hK : ∀ M' s', XC9 M' s' → MC9 M' s' → okT s' → Wp g (d + 31) mL_law 1422 [some (.ref 5000), some (.ref 0), some (.ref 65), some (.int (nI k))] [] xSF (113, 4999) M' K) : Wp g (d + 31) mL_law 282 [some (.ref 5000), some (.ref 0), some (.ref 65), some (.int (nI k))] [] xSF (113, 4999) M K := by
  obtain ⟨hB, hN, hw, h5, hm6, hln, htx, ok, hl, hI, hw0⟩ := hC.pre
  refine x_aload_n (pc := 282) dL_law_282 rfl ?_
  refine x_aload_n (pc := 283) dL_law_283 rfl ?_
  refine x_iload_n (pc := 284) dL_law_284 rfl ?_
  refine x_iconstN (pc := 285) 1 dL_law_285 ic_1 ?_
  refine x_iaddN (pc := 286) dL_law_286 ?_
  refine x_scrN (pc := 287) dL_law_287 ⟨by omega, hn⟩ ?_
  refine x_aload_n (pc := 288) dL_law_288 rfl ?_
  refine x_iload_n (pc := 289) dL_law_289 rfl ?_
  refine x_iconstN (pc := 290) 2 dL_law_290 ic_2 ?_
  refine x_iaddN (pc := 291) dL_law_291 ?_
  refine x_scrN (pc := 292) dL_law_292 ⟨by omega, hn⟩ ?_
  refine x_invV2 (pc := 293) dL_law_293 mlL_23 imX9_set seX9_set kX9_set (by rfl) rfl (Nat.le_of_ble_eq_true rfl) (by decide) ?_
  refine fX9_set hC (fun M1 hlo hC1 => ?_)
  have hM1 := hM.low hlo
  refine x_cvB (b1 := 113) (b2 := 4999) rfl rfl ?_
  refine x_aload_n (pc := 296) dL_law_296 rfl ?_
  refine x_aload_n (pc := 297) dL_law_297 rfl ?_
  refine x_iload_n (pc := 298) dL_law_298 rfl ?_
  refine x_iconstN (pc := 299) 1 dL_law_299 ic_1 ?_
  refine x_iaddN (pc := 300) dL_law_300 ?_
  refine x_scrN (pc := 301) dL_law_301 ⟨by omega, hn⟩ ?_
  refine x_aload_n (pc := 302) dL_law_302 rfl ?_
  refine x_iload_n (pc := 303) dL_law_303 rfl ?_
  refine x_iconstN (pc := 304) 2 dL_law_304 ic_2 ?_
  refine x_iaddN (pc := 305) dL_law_305 ?_
  refine x_scrN (pc := 306) dL_law_306 ⟨by omega, hn⟩ ?_
  refine x_invV2 (pc := 307) dL_law_307 mlL_26 imX10_set seX10_set kX10_set (by rfl) rfl (Nat.le_of_ble_eq_true rfl) (by decide) ?_
  refine fM_set hM1 (fun M2 hh hM2 => ?_)
  refine x_cvB (b1 := 113) (b2 := 4999) rfl rfl ?_
  refine x_icmp_eq (pc := 310) (tgt := 1422) dL_law_310 (by decide) (fun _ => ?_) (fun z => absurd rfl z)
  exact hK M2 _ (hC1.high hh) hM2 (okT_set hT)
theorem law_3 (hk : k + 6 ≤ (xscr g).2.1) (hn : (xscr g).2.1 ≤ 3072) (hC : XC9 M s) (hM : MC9 M s) (hT : okT s) (hK : ∀ M' s', XC9 M' s' → MC9 M' s' → okT s' → Wp g (d + 31) mL_law 1422 [some (.ref 5000), some (.ref 0), some (.ref 65), some (.int (nI k))] [] xSF (113, 4999) M' K) : Wp g (d + 31) mL_law 315 [some (.ref 5000), some (.ref 0), some (.ref 65), some (.int (nI k))] [] xSF (113, 4999) M K := by
  obtain ⟨hB, hN, hw, h5, hm6, hln, htx, ok, hl, hI, hw0⟩ := hC.pre
  refine x_aload_n (pc := 315) dL_law_315 rfl ?_
  refine x_aload_n (pc := 316) dL_law_316 rfl ?_
  refine x_iload_n (pc := 317) dL_law_317 rfl ?_
  refine x_iconstN (pc := 318) 1 dL_law_318 ic_1 ?_
  refine x_iaddN (pc := 319) dL_law_319 ?_
  refine x_scrN (pc := 320) dL_law_320 ⟨by omega, hn⟩ ?_
  refine x_aload_n (pc := 321) dL_law_321 rfl ?_
  refine x_iload_n (pc := 322) dL_law_322 rfl ?_
  refine x_iconstN (pc := 323) 2 dL_law_323 ic_2 ?_
  refine x_iaddN (pc := 324) dL_law_324 ?_
  refine x_scrN (pc := 325) dL_law_325 ⟨by omega, hn⟩ ?_
  refine x_aload_n (pc := 326) dL_law_326 rfl ?_
  refine x_iload_n (pc := 327) dL_law_327 rfl ?_
  refine x_iconstN (pc := 328) 3 dL_law_328 ic_3 ?_
  refine x_iaddN (pc := 329) dL_law_329 ?_
  refine x_scrN (pc := 330) dL_law_330 ⟨by omega, hn⟩ ?_
  refine x_invV3 (pc := 331) dL_law_331 mlL_27 imX9_move seX9_move kX9_move (by rfl) rfl (Nat.le_of_ble_eq_true rfl) (by decide) ?_
  refine fX9_move hC (fun M1 hlo hC1 => ?_)
  have hM1 := hM.low hlo
  refine x_cvB (b1 := 113) (b2 := 4999) rfl rfl ?_
  refine x_aload_n (pc := 334) dL_law_334 rfl ?_
  refine x_aload_n (pc := 335) dL_law_335 rfl ?_
  refine x_iload_n (pc := 336) dL_law_336 rfl ?_
  refine x_iconstN (pc := 337) 1 dL_law_337 ic_1 ?_
  refine x_iaddN (pc := 338) dL_law_338 ?_
  refine x_scrN (pc := 339) dL_law_339 ⟨by omega, hn⟩ ?_
  refine x_aload_n (pc := 340) dL_law_340 rfl ?_
  refine x_iload_n (pc := 341) dL_law_341 rfl ?_
  refine x_iconstN (pc := 342) 2 dL_law_342 ic_2 ?_
  refine x_iaddN (pc := 343) dL_law_343 ?_
  refine x_scrN (pc := 344) dL_law_344 ⟨by omega, hn⟩ ?_
  refine x_aload_n (pc := 345) dL_law_345 rfl ?_
  refine x_iload_n (pc := 346) dL_law_346 rfl ?_
  refine x_iconstN (pc := 347) 3 dL_law_347 ic_3 ?_
  refine x_iaddN (pc := 348) dL_law_348 ?_
  refine x_scrN (pc := 349) dL_law_349 ⟨by omega, hn⟩ ?_
  refine x_invV3 (pc := 350) dL_law_350 mlL_31 imX10_move seX10_move kX10_move (by rfl) rfl (Nat.le_of_ble_eq_true rfl) (by decide) ?_
  refine fM_move hB hM1 (fun M2 hh hM2 => ?_)
  refine x_cvB (b1 := 113) (b2 := 4999) rfl rfl ?_
  refine x_icmp_eq (pc := 353) (tgt := 1422) dL_law_353 (by decide) (fun _ => ?_) (fun z => absurd rfl z)
  exact hK M2 _ (hC1.high hh) hM2 (okT_move hT)
theorem law_4 (hk : k + 6 ≤ (xscr g).2.1) (hn : (xscr g).2.1 ≤ 3072) (hC : XC9 M s) (hM : MC9 M s) (hT : okT s) (hK : ∀ M' s', XC9 M' s' → MC9 M' s' → okT s' → Wp g (d + 31) mL_law 1422 [some (.ref 5000), some (.ref 0), some (.ref 65), some (.int (nI k))] [] xSF (113, 4999) M' K) : Wp g (d + 31) mL_law 358 [some (.ref 5000), some (.ref 0), some (.ref 65), some (.int (nI k))] [] xSF (113, 4999) M K := by
  obtain ⟨hB, hN, hw, h5, hm6, hln, htx, ok, hl, hI, hw0⟩ := hC.pre
  by_cases hb : (xscr g).2.2 (k + 2) = 0
  · refine x_aload_n (pc := 358) dL_law_358 rfl ?_
    refine x_aload_n (pc := 359) dL_law_359 rfl ?_
    refine x_iload_n (pc := 360) dL_law_360 rfl ?_
    refine x_iconstN (pc := 361) 1 dL_law_361 ic_1 ?_
    refine x_iaddN (pc := 362) dL_law_362 ?_
    refine x_scrN (pc := 363) dL_law_363 ⟨by omega, hn⟩ ?_
    refine x_aload_n (pc := 364) dL_law_364 rfl ?_
    refine x_iload_n (pc := 365) dL_law_365 rfl ?_
    refine x_iconstN (pc := 366) 2 dL_law_366 ic_2 ?_
    refine x_iaddN (pc := 367) dL_law_367 ?_
    refine x_scrN (pc := 368) dL_law_368 ⟨by omega, hn⟩ ?_
    refine x_if_eq (pc := 369) (tgt := 376) dL_law_369 (by decide) (fun _ => ?_) (fun z => absurd hb z)
    refine x_iconstN (pc := 376) 0 dL_law_376 ic_0 ?_
    refine x_invV2 (pc := 377) dL_law_377 mlL_32 imX9_away seX9_away kX9_away (by rfl) rfl (Nat.le_of_ble_eq_true rfl) (by decide) ?_
    refine fX9_away (b := false) hC (fun M1 hlo hC1 => ?_)
    have hM1 := hM.low hlo
    refine x_cvB (b1 := 113) (b2 := 4999) rfl rfl ?_
    refine x_aload_n (pc := 380) dL_law_380 rfl ?_
    refine x_aload_n (pc := 381) dL_law_381 rfl ?_
    refine x_iload_n (pc := 382) dL_law_382 rfl ?_
    refine x_iconstN (pc := 383) 1 dL_law_383 ic_1 ?_
    refine x_iaddN (pc := 384) dL_law_384 ?_
    refine x_scrN (pc := 385) dL_law_385 ⟨by omega, hn⟩ ?_
    refine x_aload_n (pc := 386) dL_law_386 rfl ?_
    refine x_iload_n (pc := 387) dL_law_387 rfl ?_
    refine x_iconstN (pc := 388) 2 dL_law_388 ic_2 ?_
    refine x_iaddN (pc := 389) dL_law_389 ?_
    refine x_scrN (pc := 390) dL_law_390 ⟨by omega, hn⟩ ?_
    refine x_if_eq (pc := 391) (tgt := 398) dL_law_391 (by decide) (fun _ => ?_) (fun z => absurd hb z)
    refine x_iconstN (pc := 398) 0 dL_law_398 ic_0 ?_
    refine x_invV2 (pc := 399) dL_law_399 mlL_36 imX10_away seX10_away kX10_away (by rfl) rfl (Nat.le_of_ble_eq_true rfl) (by decide) ?_
    refine fM_away (b := false) hB hw hM1 (fun M2 hh hM2 => ?_)
    refine x_cvB (b1 := 113) (b2 := 4999) rfl rfl ?_
    refine x_icmp_eq (pc := 402) (tgt := 1422) dL_law_402 (by decide) (fun _ => ?_) (fun z => absurd rfl z)
    exact hK M2 _ (hC1.high hh) hM2 (okT_away hT)
  · refine x_aload_n (pc := 358) dL_law_358 rfl ?_
    refine x_aload_n (pc := 359) dL_law_359 rfl ?_
    refine x_iload_n (pc := 360) dL_law_360 rfl ?_
    refine x_iconstN (pc := 361) 1 dL_law_361 ic_1 ?_
    refine x_iaddN (pc := 362) dL_law_362 ?_
    refine x_scrN (pc := 363) dL_law_363 ⟨by omega, hn⟩ ?_
    refine x_aload_n (pc := 364) dL_law_364 rfl ?_
    refine x_iload_n (pc := 365) dL_law_365 rfl ?_
    refine x_iconstN (pc := 366) 2 dL_law_366 ic_2 ?_
    refine x_iaddN (pc := 367) dL_law_367 ?_
    refine x_scrN (pc := 368) dL_law_368 ⟨by omega, hn⟩ ?_
    refine x_if_eq (pc := 369) (tgt := 376) dL_law_369 (by decide) (fun z => absurd z hb) (fun _ => ?_)
    refine x_iconstN (pc := 372) 1 dL_law_372 ic_1 ?_
    refine x_goto (pc := 373) (tgt := 377) dL_law_373 (by decide) ?_
    refine x_invV2 (pc := 377) dL_law_377 mlL_32 imX9_away seX9_away kX9_away (by rfl) rfl (Nat.le_of_ble_eq_true rfl) (by decide) ?_
    refine fX9_away (b := true) hC (fun M1 hlo hC1 => ?_)
    have hM1 := hM.low hlo
    refine x_cvB (b1 := 113) (b2 := 4999) rfl rfl ?_
    refine x_aload_n (pc := 380) dL_law_380 rfl ?_
    refine x_aload_n (pc := 381) dL_law_381 rfl ?_
    refine x_iload_n (pc := 382) dL_law_382 rfl ?_
    refine x_iconstN (pc := 383) 1 dL_law_383 ic_1 ?_
    refine x_iaddN (pc := 384) dL_law_384 ?_
    refine x_scrN (pc := 385) dL_law_385 ⟨by omega, hn⟩ ?_
    refine x_aload_n (pc := 386) dL_law_386 rfl ?_
    refine x_iload_n (pc := 387) dL_law_387 rfl ?_
    refine x_iconstN (pc := 388) 2 dL_law_388 ic_2 ?_
    refine x_iaddN (pc := 389) dL_law_389 ?_
    refine x_scrN (pc := 390) dL_law_390 ⟨by omega, hn⟩ ?_
    refine x_if_eq (pc := 391) (tgt := 398) dL_law_391 (by decide) (fun z => absurd z hb) (fun _ => ?_)
    refine x_iconstN (pc := 394) 1 dL_law_394 ic_1 ?_
    refine x_goto (pc := 395) (tgt := 399) dL_law_395 (by decide) ?_
    refine x_invV2 (pc := 399) dL_law_399 mlL_36 imX10_away seX10_away kX10_away (by rfl) rfl (Nat.le_of_ble_eq_true rfl) (by decide) ?_
    refine fM_away (b := true) hB hw hM1 (fun M2 hh hM2 => ?_)
    refine x_cvB (b1 := 113) (b2 := 4999) rfl rfl ?_
    refine x_icmp_eq (pc := 402) (tgt := 1422) dL_law_402 (by decide) (fun _ => ?_) (fun z => absurd rfl z)
    exact hK M2 _ (hC1.high hh) hM2 (okT_away hT)
theorem law_5 (hk : k + 6 ≤ (xscr g).2.1) (hn : (xscr g).2.1 ≤ 3072) (hC : XC9 M s) (hM : MC9 M s) (hT : okT s) (hK : ∀ M' s', XC9 M' s' → MC9 M' s' → okT s' → Wp g (d + 31) mL_law 1422 [some (.ref 5000), some (.ref 0), some (.ref 65), some (.int (nI k))] [] xSF (113, 4999) M' K) : Wp g (d + 31) mL_law 407 [some (.ref 5000), some (.ref 0), some (.ref 65), some (.int (nI k))] [] xSF (113, 4999) M K := by
  obtain ⟨hB, hN, hw, h5, hm6, hln, htx, ok, hl, hI, hw0⟩ := hC.pre
  by_cases hb : (xscr g).2.2 (k + 2) = 0
  · refine x_aload_n (pc := 407) dL_law_407 rfl ?_
    refine x_aload_n (pc := 408) dL_law_408 rfl ?_
    refine x_iload_n (pc := 409) dL_law_409 rfl ?_
    refine x_iconstN (pc := 410) 1 dL_law_410 ic_1 ?_
    refine x_iaddN (pc := 411) dL_law_411 ?_
    refine x_scrN (pc := 412) dL_law_412 ⟨by omega, hn⟩ ?_
    refine x_aload_n (pc := 413) dL_law_413 rfl ?_
    refine x_iload_n (pc := 414) dL_law_414 rfl ?_
    refine x_iconstN (pc := 415) 2 dL_law_415 ic_2 ?_
    refine x_iaddN (pc := 416) dL_law_416 ?_
    refine x_scrN (pc := 417) dL_law_417 ⟨by omega, hn⟩ ?_
    refine x_if_eq (pc := 418) (tgt := 425) dL_law_418 (by decide) (fun _ => ?_) (fun z => absurd hb z)
    refine x_iconstN (pc := 425) 0 dL_law_425 ic_0 ?_
    refine x_invV2 (pc := 426) dL_law_426 mlL_37 imX9_stand seX9_stand kX9_stand (by rfl) rfl (Nat.le_of_ble_eq_true rfl) (by decide) ?_
    refine fX9_stand (b := false) hC (fun M1 hlo hC1 => ?_)
    have hM1 := hM.low hlo
    refine x_cvB (b1 := 113) (b2 := 4999) rfl rfl ?_
    refine x_aload_n (pc := 429) dL_law_429 rfl ?_
    refine x_aload_n (pc := 430) dL_law_430 rfl ?_
    refine x_iload_n (pc := 431) dL_law_431 rfl ?_
    refine x_iconstN (pc := 432) 1 dL_law_432 ic_1 ?_
    refine x_iaddN (pc := 433) dL_law_433 ?_
    refine x_scrN (pc := 434) dL_law_434 ⟨by omega, hn⟩ ?_
    refine x_aload_n (pc := 435) dL_law_435 rfl ?_
    refine x_iload_n (pc := 436) dL_law_436 rfl ?_
    refine x_iconstN (pc := 437) 2 dL_law_437 ic_2 ?_
    refine x_iaddN (pc := 438) dL_law_438 ?_
    refine x_scrN (pc := 439) dL_law_439 ⟨by omega, hn⟩ ?_
    refine x_if_eq (pc := 440) (tgt := 447) dL_law_440 (by decide) (fun _ => ?_) (fun z => absurd hb z)
    refine x_iconstN (pc := 447) 0 dL_law_447 ic_0 ?_
    refine x_invV2 (pc := 448) dL_law_448 mlL_40 imX10_stand seX10_stand kX10_stand (by rfl) rfl (Nat.le_of_ble_eq_true rfl) (by decide) ?_
    refine fM_stand (b := false) hB hM1 (fun M2 hh hM2 => ?_)
    refine x_cvB (b1 := 113) (b2 := 4999) rfl rfl ?_
    refine x_icmp_eq (pc := 451) (tgt := 1422) dL_law_451 (by decide) (fun _ => ?_) (fun z => absurd rfl z)
    exact hK M2 _ (hC1.high hh) hM2 (okT_stand hT)
  · refine x_aload_n (pc := 407) dL_law_407 rfl ?_
    refine x_aload_n (pc := 408) dL_law_408 rfl ?_
    refine x_iload_n (pc := 409) dL_law_409 rfl ?_
    refine x_iconstN (pc := 410) 1 dL_law_410 ic_1 ?_
    refine x_iaddN (pc := 411) dL_law_411 ?_
    refine x_scrN (pc := 412) dL_law_412 ⟨by omega, hn⟩ ?_
    refine x_aload_n (pc := 413) dL_law_413 rfl ?_
    refine x_iload_n (pc := 414) dL_law_414 rfl ?_
    refine x_iconstN (pc := 415) 2 dL_law_415 ic_2 ?_
    refine x_iaddN (pc := 416) dL_law_416 ?_
    refine x_scrN (pc := 417) dL_law_417 ⟨by omega, hn⟩ ?_
    refine x_if_eq (pc := 418) (tgt := 425) dL_law_418 (by decide) (fun z => absurd z hb) (fun _ => ?_)
    refine x_iconstN (pc := 421) 1 dL_law_421 ic_1 ?_
    refine x_goto (pc := 422) (tgt := 426) dL_law_422 (by decide) ?_
    refine x_invV2 (pc := 426) dL_law_426 mlL_37 imX9_stand seX9_stand kX9_stand (by rfl) rfl (Nat.le_of_ble_eq_true rfl) (by decide) ?_
    refine fX9_stand (b := true) hC (fun M1 hlo hC1 => ?_)
    have hM1 := hM.low hlo
    refine x_cvB (b1 := 113) (b2 := 4999) rfl rfl ?_
    refine x_aload_n (pc := 429) dL_law_429 rfl ?_
    refine x_aload_n (pc := 430) dL_law_430 rfl ?_
    refine x_iload_n (pc := 431) dL_law_431 rfl ?_
    refine x_iconstN (pc := 432) 1 dL_law_432 ic_1 ?_
    refine x_iaddN (pc := 433) dL_law_433 ?_
    refine x_scrN (pc := 434) dL_law_434 ⟨by omega, hn⟩ ?_
    refine x_aload_n (pc := 435) dL_law_435 rfl ?_
    refine x_iload_n (pc := 436) dL_law_436 rfl ?_
    refine x_iconstN (pc := 437) 2 dL_law_437 ic_2 ?_
    refine x_iaddN (pc := 438) dL_law_438 ?_
    refine x_scrN (pc := 439) dL_law_439 ⟨by omega, hn⟩ ?_
    refine x_if_eq (pc := 440) (tgt := 447) dL_law_440 (by decide) (fun z => absurd z hb) (fun _ => ?_)
    refine x_iconstN (pc := 443) 1 dL_law_443 ic_1 ?_
    refine x_goto (pc := 444) (tgt := 448) dL_law_444 (by decide) ?_
    refine x_invV2 (pc := 448) dL_law_448 mlL_40 imX10_stand seX10_stand kX10_stand (by rfl) rfl (Nat.le_of_ble_eq_true rfl) (by decide) ?_
    refine fM_stand (b := true) hB hM1 (fun M2 hh hM2 => ?_)
    refine x_cvB (b1 := 113) (b2 := 4999) rfl rfl ?_
    refine x_icmp_eq (pc := 451) (tgt := 1422) dL_law_451 (by decide) (fun _ => ?_) (fun z => absurd rfl z)
    exact hK M2 _ (hC1.high hh) hM2 (okT_stand hT)
theorem law_6 (hk : k + 6 ≤ (xscr g).2.1) (hn : (xscr g).2.1 ≤ 3072) (hC : XC9 M s) (hM : MC9 M s) (hT : okT s) (hK : ∀ M' s', XC9 M' s' → MC9 M' s' → okT s' → Wp g (d + 31) mL_law 1422 [some (.ref 5000), some (.ref 0), some (.ref 65), some (.int (nI k))] [] xSF (113, 4999) M' K) : Wp g (d + 31) mL_law 456 [some (.ref 5000), some (.ref 0), some (.ref 65), some (.int (nI k))] [] xSF (113, 4999) M K := by
  obtain ⟨hB, hN, hw, h5, hm6, hln, htx, ok, hl, hI, hw0⟩ := hC.pre
  refine x_aload_n (pc := 456) dL_law_456 rfl ?_
  refine x_aload_n (pc := 457) dL_law_457 rfl ?_
  refine x_iload_n (pc := 458) dL_law_458 rfl ?_
  refine x_iconstN (pc := 459) 1 dL_law_459 ic_1 ?_
  refine x_iaddN (pc := 460) dL_law_460 ?_
  refine x_scrN (pc := 461) dL_law_461 ⟨by omega, hn⟩ ?_
  refine x_aload_n (pc := 462) dL_law_462 rfl ?_
  refine x_iload_n (pc := 463) dL_law_463 rfl ?_
  refine x_iconstN (pc := 464) 2 dL_law_464 ic_2 ?_
  refine x_iaddN (pc := 465) dL_law_465 ?_
  refine x_scrN (pc := 466) dL_law_466 ⟨by omega, hn⟩ ?_
  refine x_aload_n (pc := 467) dL_law_467 rfl ?_
  refine x_iload_n (pc := 468) dL_law_468 rfl ?_
  refine x_iconstN (pc := 469) 3 dL_law_469 ic_3 ?_
  refine x_iaddN (pc := 470) dL_law_470 ?_
  refine x_scrN (pc := 471) dL_law_471 ⟨by omega, hn⟩ ?_
  refine x_invV3 (pc := 472) dL_law_472 mlL_41 imX9_row seX9_row kX9_row (by rfl) rfl (Nat.le_of_ble_eq_true rfl) (by decide) ?_
  refine fX9_row hC (fun M1 hlo hC1 => ?_)
  have hM1 := hM.low hlo
  refine x_cvB (b1 := 113) (b2 := 4999) rfl rfl ?_
  refine x_aload_n (pc := 475) dL_law_475 rfl ?_
  refine x_aload_n (pc := 476) dL_law_476 rfl ?_
  refine x_iload_n (pc := 477) dL_law_477 rfl ?_
  refine x_iconstN (pc := 478) 1 dL_law_478 ic_1 ?_
  refine x_iaddN (pc := 479) dL_law_479 ?_
  refine x_scrN (pc := 480) dL_law_480 ⟨by omega, hn⟩ ?_
  refine x_aload_n (pc := 481) dL_law_481 rfl ?_
  refine x_iload_n (pc := 482) dL_law_482 rfl ?_
  refine x_iconstN (pc := 483) 2 dL_law_483 ic_2 ?_
  refine x_iaddN (pc := 484) dL_law_484 ?_
  refine x_scrN (pc := 485) dL_law_485 ⟨by omega, hn⟩ ?_
  refine x_aload_n (pc := 486) dL_law_486 rfl ?_
  refine x_iload_n (pc := 487) dL_law_487 rfl ?_
  refine x_iconstN (pc := 488) 3 dL_law_488 ic_3 ?_
  refine x_iaddN (pc := 489) dL_law_489 ?_
  refine x_scrN (pc := 490) dL_law_490 ⟨by omega, hn⟩ ?_
  refine x_invV3 (pc := 491) dL_law_491 mlL_44 imX10_row seX10_row kX10_row (by rfl) rfl (Nat.le_of_ble_eq_true rfl) (by decide) ?_
  refine fM_row hB hM1 (fun M2 hh hM2 => ?_)
  refine x_cvB (b1 := 113) (b2 := 4999) rfl rfl ?_
  refine x_icmp_eq (pc := 494) (tgt := 1422) dL_law_494 (by decide) (fun _ => ?_) (fun z => absurd rfl z)
  exact hK M2 _ (hC1.high hh) hM2 (okT_row hT)
theorem law_7 (hk : k + 6 ≤ (xscr g).2.1) (hn : (xscr g).2.1 ≤ 3072) (hC : XC9 M s) (hM : MC9 M s) (hT : okT s) (hK : ∀ M' s', XC9 M' s' → MC9 M' s' → okT s' → Wp g (d + 31) mL_law 1422 [some (.ref 5000), some (.ref 0), some (.ref 65), some (.int (nI k))] [] xSF (113, 4999) M' K) : Wp g (d + 31) mL_law 499 [some (.ref 5000), some (.ref 0), some (.ref 65), some (.int (nI k))] [] xSF (113, 4999) M K := by
  obtain ⟨hB, hN, hw, h5, hm6, hln, htx, ok, hl, hI, hw0⟩ := hC.pre
  refine x_aload_n (pc := 499) dL_law_499 rfl ?_
  refine x_aload_n (pc := 500) dL_law_500 rfl ?_
  refine x_iload_n (pc := 501) dL_law_501 rfl ?_
  refine x_iconstN (pc := 502) 1 dL_law_502 ic_1 ?_
  refine x_iaddN (pc := 503) dL_law_503 ?_
  refine x_scrN (pc := 504) dL_law_504 ⟨by omega, hn⟩ ?_
  refine x_invV1 (pc := 505) dL_law_505 mlL_45 imX9_feed seX9_feed kX9_feed (by rfl) rfl (Nat.le_of_ble_eq_true rfl) (by decide) ?_
  refine fX9_feed hC (fun M1 hlo hC1 => ?_)
  have hM1 := hM.low hlo
  refine x_cvB (b1 := 113) (b2 := 4999) rfl rfl ?_
  refine x_aload_n (pc := 508) dL_law_508 rfl ?_
  refine x_aload_n (pc := 509) dL_law_509 rfl ?_
  refine x_iload_n (pc := 510) dL_law_510 rfl ?_
  refine x_iconstN (pc := 511) 1 dL_law_511 ic_1 ?_
  refine x_iaddN (pc := 512) dL_law_512 ?_
  refine x_scrN (pc := 513) dL_law_513 ⟨by omega, hn⟩ ?_
  refine x_invV1 (pc := 514) dL_law_514 mlL_49 imX10_feed seX10_feed kX10_feed (by rfl) rfl (Nat.le_of_ble_eq_true rfl) (by decide) ?_
  refine fM_feed hln hM1 (fun M2 hh hM2 => ?_)
  refine x_cvB (b1 := 113) (b2 := 4999) rfl rfl ?_
  refine x_icmp_eq (pc := 517) (tgt := 1422) dL_law_517 (by decide) (fun _ => ?_) (fun z => absurd rfl z)
  exact hK M2 _ (hC1.high hh) hM2 (okT_feed hT)
theorem law_8 (hk : k + 6 ≤ (xscr g).2.1) (hn : (xscr g).2.1 ≤ 3072) (hC : XC9 M s) (hM : MC9 M s) (hT : okT s) (hK : ∀ M' s', XC9 M' s' → MC9 M' s' → okT s' → Wp g (d + 31) mL_law 1422 [some (.ref 5000), some (.ref 0), some (.ref 65), some (.int (nI k))] [] xSF (113, 4999) M' K) : Wp g (d + 31) mL_law 522 [some (.ref 5000), some (.ref 0), some (.ref 65), some (.int (nI k))] [] xSF (113, 4999) M K := by
  obtain ⟨hB, hN, hw, h5, hm6, hln, htx, ok, hl, hI, hw0⟩ := hC.pre
  refine x_aload_n (pc := 522) dL_law_522 rfl ?_
  refine x_invV0 (pc := 523) dL_law_523 mlL_50 imX9_room seX9_room kX9_room (by rfl) rfl (Nat.le_of_ble_eq_true rfl) (by decide) ?_
  refine fX9_room hC (fun M1 hlo hC1 => ?_)
  have hM1 := hM.low hlo
  refine x_cvB (b1 := 113) (b2 := 4999) rfl rfl ?_
  refine x_aload_n (pc := 526) dL_law_526 rfl ?_
  refine x_invV0 (pc := 527) dL_law_527 mlL_54 imX10_room seX10_room kX10_room (by rfl) rfl (Nat.le_of_ble_eq_true rfl) (by decide) ?_
  refine fM_room hM1 hm6 hln htx (hT.2 _ (Nat.lt_succ_self _)) (fun M2 hh hM2 => ?_)
  refine x_cvB (b1 := 113) (b2 := 4999) rfl rfl ?_
  refine x_icmp_eq (pc := 530) (tgt := 1422) dL_law_530 (by decide) (fun _ => ?_) (fun z => absurd rfl z)
  exact hK M2 _ (hC1.high hh) hM2 (okT_room hT)
theorem law_9 (hk : k + 6 ≤ (xscr g).2.1) (hn : (xscr g).2.1 ≤ 3072) (hC : XC9 M s) (hM : MC9 M s) (hT : okT s) (hK : ∀ M' s', XC9 M' s' → MC9 M' s' → okT s' → Wp g (d + 31) mL_law 1422 [some (.ref 5000), some (.ref 0), some (.ref 65), some (.int (nI k))] [] xSF (113, 4999) M' K) : Wp g (d + 31) mL_law 535 [some (.ref 5000), some (.ref 0), some (.ref 65), some (.int (nI k))] [] xSF (113, 4999) M K := by
  obtain ⟨hB, hN, hw, h5, hm6, hln, htx, ok, hl, hI, hw0⟩ := hC.pre
  refine x_aload_n (pc := 535) dL_law_535 rfl ?_
  refine x_aload_n (pc := 536) dL_law_536 rfl ?_
  refine x_iload_n (pc := 537) dL_law_537 rfl ?_
  refine x_iconstN (pc := 538) 1 dL_law_538 ic_1 ?_
  refine x_iaddN (pc := 539) dL_law_539 ?_
  refine x_scrN (pc := 540) dL_law_540 ⟨by omega, hn⟩ ?_
  refine x_invV1 (pc := 541) dL_law_541 mlL_55 imX9_told seX9_told kX9_told (by rfl) rfl (Nat.le_of_ble_eq_true rfl) (by decide) ?_
  refine fX9_told hC (fun M1 hlo hC1 => ?_)
  have hM1 := hM.low hlo
  refine x_cvB (b1 := 113) (b2 := 4999) rfl rfl ?_
  refine x_aload_n (pc := 544) dL_law_544 rfl ?_
  refine x_aload_n (pc := 545) dL_law_545 rfl ?_
  refine x_iload_n (pc := 546) dL_law_546 rfl ?_
  refine x_iconstN (pc := 547) 1 dL_law_547 ic_1 ?_
  refine x_iaddN (pc := 548) dL_law_548 ?_
  refine x_scrN (pc := 549) dL_law_549 ⟨by omega, hn⟩ ?_
  refine x_invV1 (pc := 550) dL_law_550 mlL_58 imX10_told seX10_told kX10_told (by rfl) rfl (Nat.le_of_ble_eq_true rfl) (by decide) ?_
  refine fM_told hM1 ok (fun M2 hh hM2 => ?_)
  refine x_cvB (b1 := 113) (b2 := 4999) rfl rfl ?_
  refine x_icmp_eq (pc := 553) (tgt := 1422) dL_law_553 (by decide) (fun _ => ?_) (fun z => absurd rfl z)
  exact hK M2 _ (hC1.high hh) hM2 hT
theorem law_10 (hk : k + 6 ≤ (xscr g).2.1) (hn : (xscr g).2.1 ≤ 3072) (hC : XC9 M s) (hM : MC9 M s) (hT : okT s) (hK : ∀ M' s', XC9 M' s' → MC9 M' s' → okT s' → Wp g (d + 31) mL_law 1422 [some (.ref 5000), some (.ref 0), some (.ref 65), some (.int (nI k))] [] xSF (113, 4999) M' K) : Wp g (d + 31) mL_law 558 [some (.ref 5000), some (.ref 0), some (.ref 65), some (.int (nI k))] [] xSF (113, 4999) M K := by
  obtain ⟨hB, hN, hw, h5, hm6, hln, htx, ok, hl, hI, hw0⟩ := hC.pre
  refine x_aload_n (pc := 558) dL_law_558 rfl ?_
  refine x_aload_n (pc := 559) dL_law_559 rfl ?_
  refine x_iload_n (pc := 560) dL_law_560 rfl ?_
  refine x_iconstN (pc := 561) 1 dL_law_561 ic_1 ?_
  refine x_iaddN (pc := 562) dL_law_562 ?_
  refine x_scrN (pc := 563) dL_law_563 ⟨by omega, hn⟩ ?_
  refine x_invV1 (pc := 564) dL_law_564 mlL_59 imX9_pass seX9_pass kX9_pass (by rfl) rfl (Nat.le_of_ble_eq_true rfl) (by decide) ?_
  refine fX9_pass hC (fun M1 hlo hC1 => ?_)
  have hM1 := hM.low hlo
  refine x_cvB (b1 := 113) (b2 := 4999) rfl rfl ?_
  refine x_aload_n (pc := 567) dL_law_567 rfl ?_
  refine x_aload_n (pc := 568) dL_law_568 rfl ?_
  refine x_iload_n (pc := 569) dL_law_569 rfl ?_
  refine x_iconstN (pc := 570) 1 dL_law_570 ic_1 ?_
  refine x_iaddN (pc := 571) dL_law_571 ?_
  refine x_scrN (pc := 572) dL_law_572 ⟨by omega, hn⟩ ?_
  refine x_invV1 (pc := 573) dL_law_573 mlL_62 imX10_pass seX10_pass kX10_pass (by rfl) rfl (Nat.le_of_ble_eq_true rfl) (by decide) ?_
  refine fM_pass hM1 ok (fun M2 hh hM2 => ?_)
  refine x_cvB (b1 := 113) (b2 := 4999) rfl rfl ?_
  refine x_icmp_eq (pc := 576) (tgt := 1422) dL_law_576 (by decide) (fun _ => ?_) (fun z => absurd rfl z)
  exact hK M2 _ (hC1.high hh) hM2 (okT_pass hT)
theorem law_11 (hk : k + 6 ≤ (xscr g).2.1) (hn : (xscr g).2.1 ≤ 3072) (hC : XC9 M s) (hM : MC9 M s) (hT : okT s) (hK : ∀ M' s', XC9 M' s' → MC9 M' s' → okT s' → Wp g (d + 31) mL_law 1422 [some (.ref 5000), some (.ref 0), some (.ref 65), some (.int (nI k))] [] xSF (113, 4999) M' K) : Wp g (d + 31) mL_law 581 [some (.ref 5000), some (.ref 0), some (.ref 65), some (.int (nI k))] [] xSF (113, 4999) M K := by
  obtain ⟨hB, hN, hw, h5, hm6, hln, htx, ok, hl, hI, hw0⟩ := hC.pre
  refine x_aload_n (pc := 581) dL_law_581 rfl ?_
  refine x_aload_n (pc := 582) dL_law_582 rfl ?_
  refine x_iload_n (pc := 583) dL_law_583 rfl ?_
  refine x_iconstN (pc := 584) 1 dL_law_584 ic_1 ?_
  refine x_iaddN (pc := 585) dL_law_585 ?_
  refine x_scrN (pc := 586) dL_law_586 ⟨by omega, hn⟩ ?_
  refine x_aload_n (pc := 587) dL_law_587 rfl ?_
  refine x_iload_n (pc := 588) dL_law_588 rfl ?_
  refine x_iconstN (pc := 589) 2 dL_law_589 ic_2 ?_
  refine x_iaddN (pc := 590) dL_law_590 ?_
  refine x_scrN (pc := 591) dL_law_591 ⟨by omega, hn⟩ ?_
  refine x_invV2 (pc := 592) dL_law_592 mlL_63 imX9_on seX9_on kX9_on (by rfl) rfl (Nat.le_of_ble_eq_true rfl) (by decide) ?_
  refine fX9_on hC (fun M1 hlo hC1 => ?_)
  have hM1 := hM.low hlo
  refine x_cvB (b1 := 113) (b2 := 4999) rfl rfl ?_
  refine x_aload_n (pc := 595) dL_law_595 rfl ?_
  refine x_aload_n (pc := 596) dL_law_596 rfl ?_
  refine x_iload_n (pc := 597) dL_law_597 rfl ?_
  refine x_iconstN (pc := 598) 1 dL_law_598 ic_1 ?_
  refine x_iaddN (pc := 599) dL_law_599 ?_
  refine x_scrN (pc := 600) dL_law_600 ⟨by omega, hn⟩ ?_
  refine x_aload_n (pc := 601) dL_law_601 rfl ?_
  refine x_iload_n (pc := 602) dL_law_602 rfl ?_
  refine x_iconstN (pc := 603) 2 dL_law_603 ic_2 ?_
  refine x_iaddN (pc := 604) dL_law_604 ?_
  refine x_scrN (pc := 605) dL_law_605 ⟨by omega, hn⟩ ?_
  refine x_invV2 (pc := 606) dL_law_606 mlL_66 imX10_on seX10_on kX10_on (by rfl) rfl (Nat.le_of_ble_eq_true rfl) (by decide) ?_
  refine fM_on hM1 ok (fun M2 hh hM2 => ?_)
  refine x_cvB (b1 := 113) (b2 := 4999) rfl rfl ?_
  refine x_icmp_eq (pc := 609) (tgt := 1422) dL_law_609 (by decide) (fun _ => ?_) (fun z => absurd rfl z)
  exact hK M2 _ (hC1.high hh) hM2 hT
theorem law_12 (hk : k + 6 ≤ (xscr g).2.1) (hn : (xscr g).2.1 ≤ 3072) (hC : XC9 M s) (hM : MC9 M s) (hT : okT s) (hK : ∀ M' s', XC9 M' s' → MC9 M' s' → okT s' → Wp g (d + 31) mL_law 1422 [some (.ref 5000), some (.ref 0), some (.ref 65), some (.int (nI k))] [] xSF (113, 4999) M' K) : Wp g (d + 31) mL_law 614 [some (.ref 5000), some (.ref 0), some (.ref 65), some (.int (nI k))] [] xSF (113, 4999) M K := by
  obtain ⟨hB, hN, hw, h5, hm6, hln, htx, ok, hl, hI, hw0⟩ := hC.pre
  refine x_aload_n (pc := 614) dL_law_614 rfl ?_
  refine x_aload_n (pc := 615) dL_law_615 rfl ?_
  refine x_iload_n (pc := 616) dL_law_616 rfl ?_
  refine x_iconstN (pc := 617) 1 dL_law_617 ic_1 ?_
  refine x_iaddN (pc := 618) dL_law_618 ?_
  refine x_scrN (pc := 619) dL_law_619 ⟨by omega, hn⟩ ?_
  refine x_invV1 (pc := 620) dL_law_620 mlL_67 imX9_worn seX9_worn kX9_worn (by rfl) rfl (Nat.le_of_ble_eq_true rfl) (by decide) ?_
  refine fX9_worn hC (fun M1 hlo hC1 => ?_)
  have hM1 := hM.low hlo
  refine x_cvB (b1 := 113) (b2 := 4999) rfl rfl ?_
  refine x_aload_n (pc := 623) dL_law_623 rfl ?_
  refine x_aload_n (pc := 624) dL_law_624 rfl ?_
  refine x_iload_n (pc := 625) dL_law_625 rfl ?_
  refine x_iconstN (pc := 626) 1 dL_law_626 ic_1 ?_
  refine x_iaddN (pc := 627) dL_law_627 ?_
  refine x_scrN (pc := 628) dL_law_628 ⟨by omega, hn⟩ ?_
  refine x_invV1 (pc := 629) dL_law_629 mlL_70 imX10_worn seX10_worn kX10_worn (by rfl) rfl (Nat.le_of_ble_eq_true rfl) (by decide) ?_
  refine fM_worn hM1 ok (fun M2 hh hM2 => ?_)
  refine x_cvB (b1 := 113) (b2 := 4999) rfl rfl ?_
  refine x_icmp_eq (pc := 632) (tgt := 1422) dL_law_632 (by decide) (fun _ => ?_) (fun z => absurd rfl z)
  exact hK M2 _ (hC1.high hh) hM2 hT
theorem law_13 (hk : k + 6 ≤ (xscr g).2.1) (hn : (xscr g).2.1 ≤ 3072) (hC : XC9 M s) (hM : MC9 M s) (hT : okT s) (hK : ∀ M' s', XC9 M' s' → MC9 M' s' → okT s' → Wp g (d + 31) mL_law 1422 [some (.ref 5000), some (.ref 0), some (.ref 65), some (.int (nI k))] [] xSF (113, 4999) M' K) : Wp g (d + 31) mL_law 637 [some (.ref 5000), some (.ref 0), some (.ref 65), some (.int (nI k))] [] xSF (113, 4999) M K := by
  obtain ⟨hB, hN, hw, h5, hm6, hln, htx, ok, hl, hI, hw0⟩ := hC.pre
  refine x_aload_n (pc := 637) dL_law_637 rfl ?_
  refine x_aload_n (pc := 638) dL_law_638 rfl ?_
  refine x_iload_n (pc := 639) dL_law_639 rfl ?_
  refine x_iconstN (pc := 640) 1 dL_law_640 ic_1 ?_
  refine x_iaddN (pc := 641) dL_law_641 ?_
  refine x_scrN (pc := 642) dL_law_642 ⟨by omega, hn⟩ ?_
  refine x_aload_n (pc := 643) dL_law_643 rfl ?_
  refine x_iload_n (pc := 644) dL_law_644 rfl ?_
  refine x_iconstN (pc := 645) 2 dL_law_645 ic_2 ?_
  refine x_iaddN (pc := 646) dL_law_646 ?_
  refine x_scrN (pc := 647) dL_law_647 ⟨by omega, hn⟩ ?_
  refine x_invV2 (pc := 648) dL_law_648 mlL_71 imX9_meet seX9_meet kX9_meet (by rfl) rfl (Nat.le_of_ble_eq_true rfl) (by decide) ?_
  refine fX9_meet hC (fun M1 hlo hC1 => ?_)
  have hM1 := hM.low hlo
  refine x_cvB (b1 := 113) (b2 := 4999) rfl rfl ?_
  refine x_aload_n (pc := 651) dL_law_651 rfl ?_
  refine x_aload_n (pc := 652) dL_law_652 rfl ?_
  refine x_iload_n (pc := 653) dL_law_653 rfl ?_
  refine x_iconstN (pc := 654) 1 dL_law_654 ic_1 ?_
  refine x_iaddN (pc := 655) dL_law_655 ?_
  refine x_scrN (pc := 656) dL_law_656 ⟨by omega, hn⟩ ?_
  refine x_aload_n (pc := 657) dL_law_657 rfl ?_
  refine x_iload_n (pc := 658) dL_law_658 rfl ?_
  refine x_iconstN (pc := 659) 2 dL_law_659 ic_2 ?_
  refine x_iaddN (pc := 660) dL_law_660 ?_
  refine x_scrN (pc := 661) dL_law_661 ⟨by omega, hn⟩ ?_
  refine x_invV2 (pc := 662) dL_law_662 mlL_74 imX10_meet seX10_meet kX10_meet (by rfl) rfl (Nat.le_of_ble_eq_true rfl) (by decide) ?_
  refine fM_meet hM1 ok (fun M2 hh hM2 => ?_)
  refine x_cvB (b1 := 113) (b2 := 4999) rfl rfl ?_
  refine x_icmp_eq (pc := 665) (tgt := 1422) dL_law_665 (by decide) (fun _ => ?_) (fun z => absurd rfl z)
  exact hK M2 _ (hC1.high hh) hM2 hT
theorem law_14 (hk : k + 6 ≤ (xscr g).2.1) (hn : (xscr g).2.1 ≤ 3072) (hC : XC9 M s) (hM : MC9 M s) (hT : okT s) (hK : ∀ M' s', XC9 M' s' → MC9 M' s' → okT s' → Wp g (d + 31) mL_law 1422 [some (.ref 5000), some (.ref 0), some (.ref 65), some (.int (nI k))] [] xSF (113, 4999) M' K) : Wp g (d + 31) mL_law 670 [some (.ref 5000), some (.ref 0), some (.ref 65), some (.int (nI k))] [] xSF (113, 4999) M K := by
  obtain ⟨hB, hN, hw, h5, hm6, hln, htx, ok, hl, hI, hw0⟩ := hC.pre
  refine x_aload_n (pc := 670) dL_law_670 rfl ?_
  refine x_aload_n (pc := 671) dL_law_671 rfl ?_
  refine x_iload_n (pc := 672) dL_law_672 rfl ?_
  refine x_iconstN (pc := 673) 1 dL_law_673 ic_1 ?_
  refine x_iaddN (pc := 674) dL_law_674 ?_
  refine x_scrN (pc := 675) dL_law_675 ⟨by omega, hn⟩ ?_
  refine x_aload_n (pc := 676) dL_law_676 rfl ?_
  refine x_iload_n (pc := 677) dL_law_677 rfl ?_
  refine x_iconstN (pc := 678) 2 dL_law_678 ic_2 ?_
  refine x_iaddN (pc := 679) dL_law_679 ?_
  refine x_scrN (pc := 680) dL_law_680 ⟨by omega, hn⟩ ?_
  refine x_aload_n (pc := 681) dL_law_681 rfl ?_
  refine x_iload_n (pc := 682) dL_law_682 rfl ?_
  refine x_iconstN (pc := 683) 3 dL_law_683 ic_3 ?_
  refine x_iaddN (pc := 684) dL_law_684 ?_
  refine x_scrN (pc := 685) dL_law_685 ⟨by omega, hn⟩ ?_
  refine x_invV3 (pc := 686) dL_law_686 mlL_75 imX9_who seX9_who kX9_who (by rfl) rfl (Nat.le_of_ble_eq_true rfl) (by decide) ?_
  refine fX9_who hC (fun M1 hlo hC1 => ?_)
  have hM1 := hM.low hlo
  refine x_cvB (b1 := 113) (b2 := 4999) rfl rfl ?_
  refine x_aload_n (pc := 689) dL_law_689 rfl ?_
  refine x_aload_n (pc := 690) dL_law_690 rfl ?_
  refine x_iload_n (pc := 691) dL_law_691 rfl ?_
  refine x_iconstN (pc := 692) 1 dL_law_692 ic_1 ?_
  refine x_iaddN (pc := 693) dL_law_693 ?_
  refine x_scrN (pc := 694) dL_law_694 ⟨by omega, hn⟩ ?_
  refine x_aload_n (pc := 695) dL_law_695 rfl ?_
  refine x_iload_n (pc := 696) dL_law_696 rfl ?_
  refine x_iconstN (pc := 697) 2 dL_law_697 ic_2 ?_
  refine x_iaddN (pc := 698) dL_law_698 ?_
  refine x_scrN (pc := 699) dL_law_699 ⟨by omega, hn⟩ ?_
  refine x_aload_n (pc := 700) dL_law_700 rfl ?_
  refine x_iload_n (pc := 701) dL_law_701 rfl ?_
  refine x_iconstN (pc := 702) 3 dL_law_702 ic_3 ?_
  refine x_iaddN (pc := 703) dL_law_703 ?_
  refine x_scrN (pc := 704) dL_law_704 ⟨by omega, hn⟩ ?_
  refine x_invV3 (pc := 705) dL_law_705 mlL_78 imX10_who seX10_who kX10_who (by rfl) rfl (Nat.le_of_ble_eq_true rfl) (by decide) ?_
  refine fM_who hM1 ok (fun M2 hh hM2 => ?_)
  refine x_cvB (b1 := 113) (b2 := 4999) rfl rfl ?_
  refine x_icmp_eq (pc := 708) (tgt := 1422) dL_law_708 (by decide) (fun _ => ?_) (fun z => absurd rfl z)
  exact hK M2 _ (hC1.high hh) hM2 hT
theorem law_15 (hk : k + 6 ≤ (xscr g).2.1) (hn : (xscr g).2.1 ≤ 3072) (hC : XC9 M s) (hM : MC9 M s) (hT : okT s) (hK : ∀ M' s', XC9 M' s' → MC9 M' s' → okT s' → Wp g (d + 31) mL_law 1422 [some (.ref 5000), some (.ref 0), some (.ref 65), some (.int (nI k))] [] xSF (113, 4999) M' K) : Wp g (d + 31) mL_law 713 [some (.ref 5000), some (.ref 0), some (.ref 65), some (.int (nI k))] [] xSF (113, 4999) M K := by
  obtain ⟨hB, hN, hw, h5, hm6, hln, htx, ok, hl, hI, hw0⟩ := hC.pre
  refine x_aload_n (pc := 713) dL_law_713 rfl ?_
  refine x_aload_n (pc := 714) dL_law_714 rfl ?_
  refine x_iload_n (pc := 715) dL_law_715 rfl ?_
  refine x_iconstN (pc := 716) 1 dL_law_716 ic_1 ?_
  refine x_iaddN (pc := 717) dL_law_717 ?_
  refine x_scrN (pc := 718) dL_law_718 ⟨by omega, hn⟩ ?_
  refine x_invV1 (pc := 719) dL_law_719 mlL_79 imX9_best seX9_best kX9_best (by rfl) rfl (Nat.le_of_ble_eq_true rfl) (by decide) ?_
  refine fX9_best hC (fun M1 v1 hlo hC1 hv1 => ?_)
  have hM1 := hM.low hlo
  refine x_cvB (b1 := 113) (b2 := 4999) rfl rfl ?_
  refine x_aload_n (pc := 722) dL_law_722 rfl ?_
  refine x_aload_n (pc := 723) dL_law_723 rfl ?_
  refine x_iload_n (pc := 724) dL_law_724 rfl ?_
  refine x_iconstN (pc := 725) 1 dL_law_725 ic_1 ?_
  refine x_iaddN (pc := 726) dL_law_726 ?_
  refine x_scrN (pc := 727) dL_law_727 ⟨by omega, hn⟩ ?_
  refine x_invV1 (pc := 728) dL_law_728 mlL_82 imX10_best seX10_best kX10_best (by rfl) rfl (Nat.le_of_ble_eq_true rfl) (by decide) ?_
  refine fM_best hM1 ok (fun M2 v2 hh hM2 hv2 => ?_)
  refine x_cvB (b1 := 113) (b2 := 4999) rfl rfl ?_
  refine x_icmp_eq (pc := 731) (tgt := 1422) dL_law_731 (by decide) (fun _ => ?_) (fun z => absurd (vBest_uniq hv1 hv2) z)
  exact hK M2 _ (hC1.high hh) hM2 hT
theorem law_16 (hk : k + 6 ≤ (xscr g).2.1) (hn : (xscr g).2.1 ≤ 3072) (hC : XC9 M s) (hM : MC9 M s) (hT : okT s) (hK : ∀ M' s', XC9 M' s' → MC9 M' s' → okT s' → Wp g (d + 31) mL_law 1422 [some (.ref 5000), some (.ref 0), some (.ref 65), some (.int (nI k))] [] xSF (113, 4999) M' K) : Wp g (d + 31) mL_law 736 [some (.ref 5000), some (.ref 0), some (.ref 65), some (.int (nI k))] [] xSF (113, 4999) M K := by
  obtain ⟨hB, hN, hw, h5, hm6, hln, htx, ok, hl, hI, hw0⟩ := hC.pre
  refine x_aload_n (pc := 736) dL_law_736 rfl ?_
  refine x_aload_n (pc := 737) dL_law_737 rfl ?_
  refine x_iload_n (pc := 738) dL_law_738 rfl ?_
  refine x_iconstN (pc := 739) 1 dL_law_739 ic_1 ?_
  refine x_iaddN (pc := 740) dL_law_740 ?_
  refine x_scrN (pc := 741) dL_law_741 ⟨by omega, hn⟩ ?_
  refine x_aload_n (pc := 742) dL_law_742 rfl ?_
  refine x_iload_n (pc := 743) dL_law_743 rfl ?_
  refine x_iconstN (pc := 744) 2 dL_law_744 ic_2 ?_
  refine x_iaddN (pc := 745) dL_law_745 ?_
  refine x_scrN (pc := 746) dL_law_746 ⟨by omega, hn⟩ ?_
  refine x_aload_n (pc := 747) dL_law_747 rfl ?_
  refine x_iload_n (pc := 748) dL_law_748 rfl ?_
  refine x_iconstN (pc := 749) 3 dL_law_749 ic_3 ?_
  refine x_iaddN (pc := 750) dL_law_750 ?_
  refine x_scrN (pc := 751) dL_law_751 ⟨by omega, hn⟩ ?_
  refine x_invV3 (pc := 752) dL_law_752 mlL_83 imX9_see seX9_see kX9_see (by rfl) rfl (Nat.le_of_ble_eq_true rfl) (by decide) ?_
  refine fX9_see hC (fun M1 hlo hC1 => ?_)
  have hM1 := hM.low hlo
  refine x_cvB (b1 := 113) (b2 := 4999) rfl rfl ?_
  refine x_aload_n (pc := 755) dL_law_755 rfl ?_
  refine x_aload_n (pc := 756) dL_law_756 rfl ?_
  refine x_iload_n (pc := 757) dL_law_757 rfl ?_
  refine x_iconstN (pc := 758) 1 dL_law_758 ic_1 ?_
  refine x_iaddN (pc := 759) dL_law_759 ?_
  refine x_scrN (pc := 760) dL_law_760 ⟨by omega, hn⟩ ?_
  refine x_aload_n (pc := 761) dL_law_761 rfl ?_
  refine x_iload_n (pc := 762) dL_law_762 rfl ?_
  refine x_iconstN (pc := 763) 2 dL_law_763 ic_2 ?_
  refine x_iaddN (pc := 764) dL_law_764 ?_
  refine x_scrN (pc := 765) dL_law_765 ⟨by omega, hn⟩ ?_
  refine x_aload_n (pc := 766) dL_law_766 rfl ?_
  refine x_iload_n (pc := 767) dL_law_767 rfl ?_
  refine x_iconstN (pc := 768) 3 dL_law_768 ic_3 ?_
  refine x_iaddN (pc := 769) dL_law_769 ?_
  refine x_scrN (pc := 770) dL_law_770 ⟨by omega, hn⟩ ?_
  refine x_invV3 (pc := 771) dL_law_771 mlL_86 imX10_see seX10_see kX10_see (by rfl) rfl (Nat.le_of_ble_eq_true rfl) (by decide) ?_
  refine fM_see hN hM1 (fun M2 hh hM2 => ?_)
  refine x_cvB (b1 := 113) (b2 := 4999) rfl rfl ?_
  refine x_icmp_eq (pc := 774) (tgt := 1422) dL_law_774 (by decide) (fun _ => ?_) (fun z => absurd rfl z)
  exact hK M2 _ (hC1.high hh) hM2 (okT_see hT)
theorem law_17 (hk : k + 6 ≤ (xscr g).2.1) (hn : (xscr g).2.1 ≤ 3072) (hC : XC9 M s) (hM : MC9 M s) (hT : okT s) (hK : ∀ M' s', XC9 M' s' → MC9 M' s' → okT s' → Wp g (d + 31) mL_law 1422 [some (.ref 5000), some (.ref 0), some (.ref 65), some (.int (nI k))] [] xSF (113, 4999) M' K) : Wp g (d + 31) mL_law 779 [some (.ref 5000), some (.ref 0), some (.ref 65), some (.int (nI k))] [] xSF (113, 4999) M K := by
  obtain ⟨hB, hN, hw, h5, hm6, hln, htx, ok, hl, hI, hw0⟩ := hC.pre
  refine x_aload_n (pc := 779) dL_law_779 rfl ?_
  refine x_aload_n (pc := 780) dL_law_780 rfl ?_
  refine x_iload_n (pc := 781) dL_law_781 rfl ?_
  refine x_iconstN (pc := 782) 1 dL_law_782 ic_1 ?_
  refine x_iaddN (pc := 783) dL_law_783 ?_
  refine x_scrN (pc := 784) dL_law_784 ⟨by omega, hn⟩ ?_
  refine x_invV1 (pc := 785) dL_law_785 mlL_87 imX9_starts seX9_starts kX9_starts (by rfl) rfl (Nat.le_of_ble_eq_true rfl) (by decide) ?_
  refine fX9_starts hC (fun M1 hlo hC1 => ?_)
  have hM1 := hM.low hlo
  refine x_cvB (b1 := 113) (b2 := 4999) rfl rfl ?_
  refine x_aload_n (pc := 788) dL_law_788 rfl ?_
  refine x_aload_n (pc := 789) dL_law_789 rfl ?_
  refine x_iload_n (pc := 790) dL_law_790 rfl ?_
  refine x_iconstN (pc := 791) 1 dL_law_791 ic_1 ?_
  refine x_iaddN (pc := 792) dL_law_792 ?_
  refine x_scrN (pc := 793) dL_law_793 ⟨by omega, hn⟩ ?_
  refine x_invV1 (pc := 794) dL_law_794 mlL_90 imX10_starts seX10_starts kX10_starts (by rfl) rfl (Nat.le_of_ble_eq_true rfl) (by decide) ?_
  refine fM_starts hM1 ok (fun M2 hh hM2 => ?_)
  refine x_cvB (b1 := 113) (b2 := 4999) rfl rfl ?_
  refine x_icmp_eq (pc := 797) (tgt := 1422) dL_law_797 (by decide) (fun _ => ?_) (fun z => absurd rfl z)
  exact hK M2 _ (hC1.high hh) hM2 hT
theorem law_18 (hk : k + 6 ≤ (xscr g).2.1) (hn : (xscr g).2.1 ≤ 3072) (hC : XC9 M s) (hM : MC9 M s) (hT : okT s) (hK : ∀ M' s', XC9 M' s' → MC9 M' s' → okT s' → Wp g (d + 31) mL_law 1422 [some (.ref 5000), some (.ref 0), some (.ref 65), some (.int (nI k))] [] xSF (113, 4999) M' K) : Wp g (d + 31) mL_law 802 [some (.ref 5000), some (.ref 0), some (.ref 65), some (.int (nI k))] [] xSF (113, 4999) M K := by
  obtain ⟨hB, hN, hw, h5, hm6, hln, htx, ok, hl, hI, hw0⟩ := hC.pre
  refine x_aload_n (pc := 802) dL_law_802 rfl ?_
  refine x_aload_n (pc := 803) dL_law_803 rfl ?_
  refine x_iload_n (pc := 804) dL_law_804 rfl ?_
  refine x_iconstN (pc := 805) 1 dL_law_805 ic_1 ?_
  refine x_iaddN (pc := 806) dL_law_806 ?_
  refine x_scrN (pc := 807) dL_law_807 ⟨by omega, hn⟩ ?_
  refine x_aload_n (pc := 808) dL_law_808 rfl ?_
  refine x_iload_n (pc := 809) dL_law_809 rfl ?_
  refine x_iconstN (pc := 810) 2 dL_law_810 ic_2 ?_
  refine x_iaddN (pc := 811) dL_law_811 ?_
  refine x_scrN (pc := 812) dL_law_812 ⟨by omega, hn⟩ ?_
  refine x_invV2 (pc := 813) dL_law_813 mlL_91 imX9_can seX9_can kX9_can (by rfl) rfl (Nat.le_of_ble_eq_true rfl) (by decide) ?_
  refine fX9_can hC (fun M1 hlo hC1 => ?_)
  have hM1 := hM.low hlo
  refine x_cvB (b1 := 113) (b2 := 4999) rfl rfl ?_
  refine x_aload_n (pc := 816) dL_law_816 rfl ?_
  refine x_aload_n (pc := 817) dL_law_817 rfl ?_
  refine x_iload_n (pc := 818) dL_law_818 rfl ?_
  refine x_iconstN (pc := 819) 1 dL_law_819 ic_1 ?_
  refine x_iaddN (pc := 820) dL_law_820 ?_
  refine x_scrN (pc := 821) dL_law_821 ⟨by omega, hn⟩ ?_
  refine x_aload_n (pc := 822) dL_law_822 rfl ?_
  refine x_iload_n (pc := 823) dL_law_823 rfl ?_
  refine x_iconstN (pc := 824) 2 dL_law_824 ic_2 ?_
  refine x_iaddN (pc := 825) dL_law_825 ?_
  refine x_scrN (pc := 826) dL_law_826 ⟨by omega, hn⟩ ?_
  refine x_invV2 (pc := 827) dL_law_827 mlL_94 imX10_can seX10_can kX10_can (by rfl) rfl (Nat.le_of_ble_eq_true rfl) (by decide) ?_
  refine fM_can hM1 ok (fun M2 hh hM2 => ?_)
  refine x_cvB (b1 := 113) (b2 := 4999) rfl rfl ?_
  refine x_icmp_eq (pc := 830) (tgt := 1422) dL_law_830 (by decide) (fun _ => ?_) (fun z => absurd rfl z)
  exact hK M2 _ (hC1.high hh) hM2 hT
theorem law_19 (hk : k + 6 ≤ (xscr g).2.1) (hn : (xscr g).2.1 ≤ 3072) (hC : XC9 M s) (hM : MC9 M s) (hT : okT s) (hK : ∀ M' s', XC9 M' s' → MC9 M' s' → okT s' → Wp g (d + 31) mL_law 1422 [some (.ref 5000), some (.ref 0), some (.ref 65), some (.int (nI k))] [] xSF (113, 4999) M' K) : Wp g (d + 31) mL_law 835 [some (.ref 5000), some (.ref 0), some (.ref 65), some (.int (nI k))] [] xSF (113, 4999) M K := by
  obtain ⟨hB, hN, hw, h5, hm6, hln, htx, ok, hl, hI, hw0⟩ := hC.pre
  refine x_aload_n (pc := 835) dL_law_835 rfl ?_
  refine x_invV0 (pc := 836) dL_law_836 mlL_95 imX9_sole seX9_sole kX9_sole (by rfl) rfl (Nat.le_of_ble_eq_true rfl) (by decide) ?_
  refine fX9_sole hC (fun M1 hlo hC1 => ?_)
  have hM1 := hM.low hlo
  refine x_cvB (b1 := 113) (b2 := 4999) rfl rfl ?_
  refine x_aload_n (pc := 839) dL_law_839 rfl ?_
  refine x_invV0 (pc := 840) dL_law_840 mlL_98 imX10_sole seX10_sole kX10_sole (by rfl) rfl (Nat.le_of_ble_eq_true rfl) (by decide) ?_
  refine fM_sole hM1 ok (fun M2 hh hM2 => ?_)
  refine x_cvB (b1 := 113) (b2 := 4999) rfl rfl ?_
  refine x_icmp_eq (pc := 843) (tgt := 1422) dL_law_843 (by decide) (fun _ => ?_) (fun z => absurd rfl z)
  exact hK M2 _ (hC1.high hh) hM2 hT
theorem law_20 (hk : k + 6 ≤ (xscr g).2.1) (hn : (xscr g).2.1 ≤ 3072) (hC : XC9 M s) (hM : MC9 M s) (hT : okT s) (hK : ∀ M' s', XC9 M' s' → MC9 M' s' → okT s' → Wp g (d + 31) mL_law 1422 [some (.ref 5000), some (.ref 0), some (.ref 65), some (.int (nI k))] [] xSF (113, 4999) M' K) : Wp g (d + 31) mL_law 848 [some (.ref 5000), some (.ref 0), some (.ref 65), some (.int (nI k))] [] xSF (113, 4999) M K := by
  obtain ⟨hB, hN, hw, h5, hm6, hln, htx, ok, hl, hI, hw0⟩ := hC.pre
  refine x_aload_n (pc := 848) dL_law_848 rfl ?_
  refine x_aload_n (pc := 849) dL_law_849 rfl ?_
  refine x_iload_n (pc := 850) dL_law_850 rfl ?_
  refine x_iconstN (pc := 851) 1 dL_law_851 ic_1 ?_
  refine x_iaddN (pc := 852) dL_law_852 ?_
  refine x_scrN (pc := 853) dL_law_853 ⟨by omega, hn⟩ ?_
  refine x_aload_n (pc := 854) dL_law_854 rfl ?_
  refine x_iload_n (pc := 855) dL_law_855 rfl ?_
  refine x_iconstN (pc := 856) 2 dL_law_856 ic_2 ?_
  refine x_iaddN (pc := 857) dL_law_857 ?_
  refine x_scrN (pc := 858) dL_law_858 ⟨by omega, hn⟩ ?_
  refine x_aload_n (pc := 859) dL_law_859 rfl ?_
  refine x_iload_n (pc := 860) dL_law_860 rfl ?_
  refine x_iconstN (pc := 861) 3 dL_law_861 ic_3 ?_
  refine x_iaddN (pc := 862) dL_law_862 ?_
  refine x_scrN (pc := 863) dL_law_863 ⟨by omega, hn⟩ ?_
  refine x_invV3 (pc := 864) dL_law_864 mlL_99 imX9_odds seX9_odds kX9_odds (by rfl) rfl (Nat.le_of_ble_eq_true rfl) (by decide) ?_
  refine fX9_odds hC (fun M1 hlo hC1 => ?_)
  have hM1 := hM.low hlo
  refine x_cvB (b1 := 113) (b2 := 4999) rfl rfl ?_
  refine x_aload_n (pc := 867) dL_law_867 rfl ?_
  refine x_aload_n (pc := 868) dL_law_868 rfl ?_
  refine x_iload_n (pc := 869) dL_law_869 rfl ?_
  refine x_iconstN (pc := 870) 1 dL_law_870 ic_1 ?_
  refine x_iaddN (pc := 871) dL_law_871 ?_
  refine x_scrN (pc := 872) dL_law_872 ⟨by omega, hn⟩ ?_
  refine x_aload_n (pc := 873) dL_law_873 rfl ?_
  refine x_iload_n (pc := 874) dL_law_874 rfl ?_
  refine x_iconstN (pc := 875) 2 dL_law_875 ic_2 ?_
  refine x_iaddN (pc := 876) dL_law_876 ?_
  refine x_scrN (pc := 877) dL_law_877 ⟨by omega, hn⟩ ?_
  refine x_aload_n (pc := 878) dL_law_878 rfl ?_
  refine x_iload_n (pc := 879) dL_law_879 rfl ?_
  refine x_iconstN (pc := 880) 3 dL_law_880 ic_3 ?_
  refine x_iaddN (pc := 881) dL_law_881 ?_
  refine x_scrN (pc := 882) dL_law_882 ⟨by omega, hn⟩ ?_
  refine x_invV3 (pc := 883) dL_law_883 mlL_103 imX10_odds seX10_odds kX10_odds (by rfl) rfl (Nat.le_of_ble_eq_true rfl) (by decide) ?_
  refine fM_odds hM1 ok (fun M2 hh hM2 => ?_)
  refine x_cvB (b1 := 113) (b2 := 4999) rfl rfl ?_
  refine x_lcmp (pc := 886) dL_law_886 ?_
  refine x_if_eq (pc := 887) (tgt := 1422) dL_law_887 (by decide) (fun _ => ?_) (fun z => absurd ((lg_cmp_eq _ _).mpr rfl) z)
  exact hK M2 _ (hC1.high hh) hM2 hT
theorem law_21 (hk : k + 6 ≤ (xscr g).2.1) (hn : (xscr g).2.1 ≤ 3072) (hC : XC9 M s) (hM : MC9 M s) (hT : okT s) (hK : ∀ M' s', XC9 M' s' → MC9 M' s' → okT s' → Wp g (d + 31) mL_law 1422 [some (.ref 5000), some (.ref 0), some (.ref 65), some (.int (nI k))] [] xSF (113, 4999) M' K) : Wp g (d + 31) mL_law 892 [some (.ref 5000), some (.ref 0), some (.ref 65), some (.int (nI k))] [] xSF (113, 4999) M K := by
  obtain ⟨hB, hN, hw, h5, hm6, hln, htx, ok, hl, hI, hw0⟩ := hC.pre
  refine x_aload_n (pc := 892) dL_law_892 rfl ?_
  refine x_aload_n (pc := 893) dL_law_893 rfl ?_
  refine x_iload_n (pc := 894) dL_law_894 rfl ?_
  refine x_iconstN (pc := 895) 1 dL_law_895 ic_1 ?_
  refine x_iaddN (pc := 896) dL_law_896 ?_
  refine x_scrN (pc := 897) dL_law_897 ⟨by omega, hn⟩ ?_
  refine x_aload_n (pc := 898) dL_law_898 rfl ?_
  refine x_iload_n (pc := 899) dL_law_899 rfl ?_
  refine x_iconstN (pc := 900) 2 dL_law_900 ic_2 ?_
  refine x_iaddN (pc := 901) dL_law_901 ?_
  refine x_scrN (pc := 902) dL_law_902 ⟨by omega, hn⟩ ?_
  refine x_invV2 (pc := 903) dL_law_903 mlL_104 imX9_mean seX9_mean kX9_mean (by rfl) rfl (Nat.le_of_ble_eq_true rfl) (by decide) ?_
  refine fX9_mean hC (fun M1 hlo hC1 => ?_)
  have hM1 := hM.low hlo
  refine x_cvB (b1 := 113) (b2 := 4999) rfl rfl ?_
  refine x_aload_n (pc := 906) dL_law_906 rfl ?_
  refine x_aload_n (pc := 907) dL_law_907 rfl ?_
  refine x_iload_n (pc := 908) dL_law_908 rfl ?_
  refine x_iconstN (pc := 909) 1 dL_law_909 ic_1 ?_
  refine x_iaddN (pc := 910) dL_law_910 ?_
  refine x_scrN (pc := 911) dL_law_911 ⟨by omega, hn⟩ ?_
  refine x_aload_n (pc := 912) dL_law_912 rfl ?_
  refine x_iload_n (pc := 913) dL_law_913 rfl ?_
  refine x_iconstN (pc := 914) 2 dL_law_914 ic_2 ?_
  refine x_iaddN (pc := 915) dL_law_915 ?_
  refine x_scrN (pc := 916) dL_law_916 ⟨by omega, hn⟩ ?_
  refine x_invV2 (pc := 917) dL_law_917 mlL_108 imX10_mean seX10_mean kX10_mean (by rfl) rfl (Nat.le_of_ble_eq_true rfl) (by decide) ?_
  refine fM_mean hM1 ok (fun M2 hh hM2 => ?_)
  refine x_cvB (b1 := 113) (b2 := 4999) rfl rfl ?_
  refine x_lcmp (pc := 920) dL_law_920 ?_
  refine x_if_eq (pc := 921) (tgt := 1422) dL_law_921 (by decide) (fun _ => ?_) (fun z => absurd ((lg_cmp_eq _ _).mpr rfl) z)
  exact hK M2 _ (hC1.high hh) hM2 hT
theorem law_22 (hk : k + 6 ≤ (xscr g).2.1) (hn : (xscr g).2.1 ≤ 3072) (hC : XC9 M s) (hM : MC9 M s) (hT : okT s) (hK : ∀ M' s', XC9 M' s' → MC9 M' s' → okT s' → Wp g (d + 31) mL_law 1422 [some (.ref 5000), some (.ref 0), some (.ref 65), some (.int (nI k))] [] xSF (113, 4999) M' K) : Wp g (d + 31) mL_law 926 [some (.ref 5000), some (.ref 0), some (.ref 65), some (.int (nI k))] [] xSF (113, 4999) M K := by
  obtain ⟨hB, hN, hw, h5, hm6, hln, htx, ok, hl, hI, hw0⟩ := hC.pre
  refine x_aload_n (pc := 926) dL_law_926 rfl ?_
  refine x_aload_n (pc := 927) dL_law_927 rfl ?_
  refine x_iload_n (pc := 928) dL_law_928 rfl ?_
  refine x_iconstN (pc := 929) 1 dL_law_929 ic_1 ?_
  refine x_iaddN (pc := 930) dL_law_930 ?_
  refine x_scrN (pc := 931) dL_law_931 ⟨by omega, hn⟩ ?_
  refine x_aload_n (pc := 932) dL_law_932 rfl ?_
  refine x_iload_n (pc := 933) dL_law_933 rfl ?_
  refine x_iconstN (pc := 934) 2 dL_law_934 ic_2 ?_
  refine x_iaddN (pc := 935) dL_law_935 ?_
  refine x_scrN (pc := 936) dL_law_936 ⟨by omega, hn⟩ ?_
  refine x_invV2 (pc := 937) dL_law_937 mlL_109 imX9_plan seX9_plan kX9_plan (by rfl) rfl (Nat.le_of_ble_eq_true rfl) (by decide) ?_
  refine fX9_plan hC (fun M1 hlo hC1 => ?_)
  have hM1 := hM.low hlo
  refine x_cvB (b1 := 113) (b2 := 4999) rfl rfl ?_
  refine x_aload_n (pc := 940) dL_law_940 rfl ?_
  refine x_aload_n (pc := 941) dL_law_941 rfl ?_
  refine x_iload_n (pc := 942) dL_law_942 rfl ?_
  refine x_iconstN (pc := 943) 1 dL_law_943 ic_1 ?_
  refine x_iaddN (pc := 944) dL_law_944 ?_
  refine x_scrN (pc := 945) dL_law_945 ⟨by omega, hn⟩ ?_
  refine x_aload_n (pc := 946) dL_law_946 rfl ?_
  refine x_iload_n (pc := 947) dL_law_947 rfl ?_
  refine x_iconstN (pc := 948) 2 dL_law_948 ic_2 ?_
  refine x_iaddN (pc := 949) dL_law_949 ?_
  refine x_scrN (pc := 950) dL_law_950 ⟨by omega, hn⟩ ?_
  refine x_invV2 (pc := 951) dL_law_951 mlL_112 imX10_plan seX10_plan kX10_plan (by rfl) rfl (Nat.le_of_ble_eq_true rfl) (by decide) ?_
  refine fM_plan hB hN hM1 (fun M2 hh hM2 => ?_)
  refine x_cvB (b1 := 113) (b2 := 4999) rfl rfl ?_
  refine x_icmp_eq (pc := 954) (tgt := 1422) dL_law_954 (by decide) (fun _ => ?_) (fun z => absurd rfl z)
  exact hK M2 _ (hC1.high hh) hM2 (okT_plan hT)
theorem law_23 (hk : k + 6 ≤ (xscr g).2.1) (hn : (xscr g).2.1 ≤ 3072) (hC : XC9 M s) (hM : MC9 M s) (hT : okT s) (hK : ∀ M' s', XC9 M' s' → MC9 M' s' → okT s' → Wp g (d + 31) mL_law 1422 [some (.ref 5000), some (.ref 0), some (.ref 65), some (.int (nI k))] [] xSF (113, 4999) M' K) : Wp g (d + 31) mL_law 959 [some (.ref 5000), some (.ref 0), some (.ref 65), some (.int (nI k))] [] xSF (113, 4999) M K := by
  obtain ⟨hB, hN, hw, h5, hm6, hln, htx, ok, hl, hI, hw0⟩ := hC.pre
  refine x_aload_n (pc := 959) dL_law_959 rfl ?_
  refine x_aload_n (pc := 960) dL_law_960 rfl ?_
  refine x_iload_n (pc := 961) dL_law_961 rfl ?_
  refine x_iconstN (pc := 962) 1 dL_law_962 ic_1 ?_
  refine x_iaddN (pc := 963) dL_law_963 ?_
  refine x_scrN (pc := 964) dL_law_964 ⟨by omega, hn⟩ ?_
  refine x_invV1 (pc := 965) dL_law_965 mlL_113 imX9_ends seX9_ends kX9_ends (by rfl) rfl (Nat.le_of_ble_eq_true rfl) (by decide) ?_
  refine fX9_ends hC (fun M1 hlo hC1 => ?_)
  have hM1 := hM.low hlo
  refine x_cvB (b1 := 113) (b2 := 4999) rfl rfl ?_
  refine x_aload_n (pc := 968) dL_law_968 rfl ?_
  refine x_aload_n (pc := 969) dL_law_969 rfl ?_
  refine x_iload_n (pc := 970) dL_law_970 rfl ?_
  refine x_iconstN (pc := 971) 1 dL_law_971 ic_1 ?_
  refine x_iaddN (pc := 972) dL_law_972 ?_
  refine x_scrN (pc := 973) dL_law_973 ⟨by omega, hn⟩ ?_
  refine x_invV1 (pc := 974) dL_law_974 mlL_116 imX10_ends seX10_ends kX10_ends (by rfl) rfl (Nat.le_of_ble_eq_true rfl) (by decide) ?_
  refine fM_ends hM1 ok (fun M2 hh hM2 => ?_)
  refine x_cvB (b1 := 113) (b2 := 4999) rfl rfl ?_
  refine x_icmp_eq (pc := 977) (tgt := 1422) dL_law_977 (by decide) (fun _ => ?_) (fun z => absurd rfl z)
  exact hK M2 _ (hC1.high hh) hM2 hT
theorem law_24 (hk : k + 6 ≤ (xscr g).2.1) (hn : (xscr g).2.1 ≤ 3072) (hC : XC9 M s) (hM : MC9 M s) (hT : okT s) (hK : ∀ M' s', XC9 M' s' → MC9 M' s' → okT s' → Wp g (d + 31) mL_law 1422 [some (.ref 5000), some (.ref 0), some (.ref 65), some (.int (nI k))] [] xSF (113, 4999) M' K) : Wp g (d + 31) mL_law 982 [some (.ref 5000), some (.ref 0), some (.ref 65), some (.int (nI k))] [] xSF (113, 4999) M K := by
  obtain ⟨hB, hN, hw, h5, hm6, hln, htx, ok, hl, hI, hw0⟩ := hC.pre
  refine x_aload_n (pc := 982) dL_law_982 rfl ?_
  refine x_aload_n (pc := 983) dL_law_983 rfl ?_
  refine x_iload_n (pc := 984) dL_law_984 rfl ?_
  refine x_iconstN (pc := 985) 1 dL_law_985 ic_1 ?_
  refine x_iaddN (pc := 986) dL_law_986 ?_
  refine x_scrN (pc := 987) dL_law_987 ⟨by omega, hn⟩ ?_
  refine x_aload_n (pc := 988) dL_law_988 rfl ?_
  refine x_iload_n (pc := 989) dL_law_989 rfl ?_
  refine x_iconstN (pc := 990) 2 dL_law_990 ic_2 ?_
  refine x_iaddN (pc := 991) dL_law_991 ?_
  refine x_scrN (pc := 992) dL_law_992 ⟨by omega, hn⟩ ?_
  refine x_invV2 (pc := 993) dL_law_993 mlL_117 imX9_book seX9_book kX9_book (by rfl) rfl (Nat.le_of_ble_eq_true rfl) (by decide) ?_
  refine fX9_book hC (fun M1 hlo hC1 => ?_)
  have hM1 := hM.low hlo
  refine x_cvB (b1 := 113) (b2 := 4999) rfl rfl ?_
  refine x_aload_n (pc := 996) dL_law_996 rfl ?_
  refine x_aload_n (pc := 997) dL_law_997 rfl ?_
  refine x_iload_n (pc := 998) dL_law_998 rfl ?_
  refine x_iconstN (pc := 999) 1 dL_law_999 ic_1 ?_
  refine x_iaddN (pc := 1000) dL_law_1000 ?_
  refine x_scrN (pc := 1001) dL_law_1001 ⟨by omega, hn⟩ ?_
  refine x_aload_n (pc := 1002) dL_law_1002 rfl ?_
  refine x_iload_n (pc := 1003) dL_law_1003 rfl ?_
  refine x_iconstN (pc := 1004) 2 dL_law_1004 ic_2 ?_
  refine x_iaddN (pc := 1005) dL_law_1005 ?_
  refine x_scrN (pc := 1006) dL_law_1006 ⟨by omega, hn⟩ ?_
  refine x_invV2 (pc := 1007) dL_law_1007 mlL_120 imX10_book seX10_book kX10_book (by rfl) rfl (Nat.le_of_ble_eq_true rfl) (by decide) ?_
  refine fM_book hN hM1 (fun M2 hh hM2 => ?_)
  refine x_cvB (b1 := 113) (b2 := 4999) rfl rfl ?_
  refine x_icmp_eq (pc := 1010) (tgt := 1422) dL_law_1010 (by decide) (fun _ => ?_) (fun z => absurd rfl z)
  exact hK M2 _ (hC1.high hh) hM2 (okT_book hT)
theorem law_25 (hk : k + 6 ≤ (xscr g).2.1) (hn : (xscr g).2.1 ≤ 3072) (hC : XC9 M s) (hM : MC9 M s) (hT : okT s) (hK : ∀ M' s', XC9 M' s' → MC9 M' s' → okT s' → Wp g (d + 31) mL_law 1422 [some (.ref 5000), some (.ref 0), some (.ref 65), some (.int (nI k))] [] xSF (113, 4999) M' K) : Wp g (d + 31) mL_law 1015 [some (.ref 5000), some (.ref 0), some (.ref 65), some (.int (nI k))] [] xSF (113, 4999) M K := by
  obtain ⟨hB, hN, hw, h5, hm6, hln, htx, ok, hl, hI, hw0⟩ := hC.pre
  refine x_aload_n (pc := 1015) dL_law_1015 rfl ?_
  refine x_invV0 (pc := 1016) dL_law_1016 mlL_121 imX9_looked seX9_looked kX9_looked (by rfl) rfl (Nat.le_of_ble_eq_true rfl) (by decide) ?_
  refine fX9_looked hC (fun M1 hlo hC1 => ?_)
  have hM1 := hM.low hlo
  refine x_cvB (b1 := 113) (b2 := 4999) rfl rfl ?_
  refine x_aload_n (pc := 1019) dL_law_1019 rfl ?_
  refine x_invV0 (pc := 1020) dL_law_1020 mlL_124 imX10_looked seX10_looked kX10_looked (by rfl) rfl (Nat.le_of_ble_eq_true rfl) (by decide) ?_
  refine fM_looked hM1 hN (fun M2 hh hM2 => ?_) hw0
  refine x_cvB (b1 := 113) (b2 := 4999) rfl rfl ?_
  refine x_icmp_eq (pc := 1023) (tgt := 1422) dL_law_1023 (by decide) (fun _ => ?_) (fun z => absurd rfl z)
  exact hK M2 _ (hC1.high hh) hM2 hT
theorem law_26 (hk : k + 6 ≤ (xscr g).2.1) (hn : (xscr g).2.1 ≤ 3072) (hC : XC9 M s) (hM : MC9 M s) (hT : okT s) (hK : ∀ M' s', XC9 M' s' → MC9 M' s' → okT s' → Wp g (d + 31) mL_law 1422 [some (.ref 5000), some (.ref 0), some (.ref 65), some (.int (nI k))] [] xSF (113, 4999) M' K) : Wp g (d + 31) mL_law 1028 [some (.ref 5000), some (.ref 0), some (.ref 65), some (.int (nI k))] [] xSF (113, 4999) M K := by
  obtain ⟨hB, hN, hw, h5, hm6, hln, htx, ok, hl, hI, hw0⟩ := hC.pre
  refine x_aload_n (pc := 1028) dL_law_1028 rfl ?_
  refine x_aload_n (pc := 1029) dL_law_1029 rfl ?_
  refine x_iload_n (pc := 1030) dL_law_1030 rfl ?_
  refine x_iconstN (pc := 1031) 1 dL_law_1031 ic_1 ?_
  refine x_iaddN (pc := 1032) dL_law_1032 ?_
  refine x_scrN (pc := 1033) dL_law_1033 ⟨by omega, hn⟩ ?_
  refine x_aload_n (pc := 1034) dL_law_1034 rfl ?_
  refine x_iload_n (pc := 1035) dL_law_1035 rfl ?_
  refine x_iconstN (pc := 1036) 2 dL_law_1036 ic_2 ?_
  refine x_iaddN (pc := 1037) dL_law_1037 ?_
  refine x_scrN (pc := 1038) dL_law_1038 ⟨by omega, hn⟩ ?_
  refine x_invV2 (pc := 1039) dL_law_1039 mlL_125 imX9_judge seX9_judge kX9_judge (by rfl) rfl (Nat.le_of_ble_eq_true rfl) (by decide) ?_
  refine fX9_judge hC (fun M1 hlo hC1 => ?_)
  have hM1 := hM.low hlo
  refine x_cvB (b1 := 113) (b2 := 4999) rfl rfl ?_
  refine x_aload_n (pc := 1042) dL_law_1042 rfl ?_
  refine x_aload_n (pc := 1043) dL_law_1043 rfl ?_
  refine x_iload_n (pc := 1044) dL_law_1044 rfl ?_
  refine x_iconstN (pc := 1045) 1 dL_law_1045 ic_1 ?_
  refine x_iaddN (pc := 1046) dL_law_1046 ?_
  refine x_scrN (pc := 1047) dL_law_1047 ⟨by omega, hn⟩ ?_
  refine x_aload_n (pc := 1048) dL_law_1048 rfl ?_
  refine x_iload_n (pc := 1049) dL_law_1049 rfl ?_
  refine x_iconstN (pc := 1050) 2 dL_law_1050 ic_2 ?_
  refine x_iaddN (pc := 1051) dL_law_1051 ?_
  refine x_scrN (pc := 1052) dL_law_1052 ⟨by omega, hn⟩ ?_
  refine x_invV2 (pc := 1053) dL_law_1053 mlL_128 imX10_judge seX10_judge kX10_judge (by rfl) rfl (Nat.le_of_ble_eq_true rfl) (by decide) ?_
  refine fM_judge hB hM1 (fun M2 hh hM2 => ?_)
  refine x_cvB (b1 := 113) (b2 := 4999) rfl rfl ?_
  refine x_icmp_eq (pc := 1056) (tgt := 1422) dL_law_1056 (by decide) (fun _ => ?_) (fun z => absurd rfl z)
  exact hK M2 _ (hC1.high hh) hM2 hT
theorem law_27 (hk : k + 6 ≤ (xscr g).2.1) (hn : (xscr g).2.1 ≤ 3072) (hC : XC9 M s) (hM : MC9 M s) (hT : okT s) (hK : ∀ M' s', XC9 M' s' → MC9 M' s' → okT s' → Wp g (d + 31) mL_law 1422 [some (.ref 5000), some (.ref 0), some (.ref 65), some (.int (nI k))] [] xSF (113, 4999) M' K) : Wp g (d + 31) mL_law 1061 [some (.ref 5000), some (.ref 0), some (.ref 65), some (.int (nI k))] [] xSF (113, 4999) M K := by
  obtain ⟨hB, hN, hw, h5, hm6, hln, htx, ok, hl, hI, hw0⟩ := hC.pre
  refine x_aload_n (pc := 1061) dL_law_1061 rfl ?_
  refine x_invV0 (pc := 1062) dL_law_1062 mlL_129 imX9_image seX9_image kX9_image (by rfl) rfl (Nat.le_of_ble_eq_true rfl) (by decide) ?_
  refine fX9_image hC (fun M1 hlo hC1 => ?_)
  have hM1 := hM.low hlo
  refine x_cvB (b1 := 113) (b2 := 4999) rfl rfl ?_
  refine x_aload_n (pc := 1065) dL_law_1065 rfl ?_
  refine x_invV0 (pc := 1066) dL_law_1066 mlL_132 imX10_image seX10_image kX10_image (by rfl) rfl (Nat.le_of_ble_eq_true rfl) (by decide) ?_
  refine fM_image hN hM1 (fun M2 hh hM2 => ?_)
  refine x_cvB (b1 := 113) (b2 := 4999) rfl rfl ?_
  refine x_icmp_eq (pc := 1069) (tgt := 1422) dL_law_1069 (by decide) (fun _ => ?_) (fun z => absurd rfl z)
  exact hK M2 _ (hC1.high hh) hM2 (okT_image hT)
theorem law_28 (hk : k + 6 ≤ (xscr g).2.1) (hn : (xscr g).2.1 ≤ 3072) (hC : XC9 M s) (hM : MC9 M s) (hT : okT s) (hK : ∀ M' s', XC9 M' s' → MC9 M' s' → okT s' → Wp g (d + 31) mL_law 1422 [some (.ref 5000), some (.ref 0), some (.ref 65), some (.int (nI k))] [] xSF (113, 4999) M' K) : Wp g (d + 31) mL_law 1074 [some (.ref 5000), some (.ref 0), some (.ref 65), some (.int (nI k))] [] xSF (113, 4999) M K := by
  obtain ⟨hB, hN, hw, h5, hm6, hln, htx, ok, hl, hI, hw0⟩ := hC.pre
  refine x_aload_n (pc := 1074) dL_law_1074 rfl ?_
  refine x_invV0 (pc := 1075) dL_law_1075 mlL_133 imX9_undo seX9_undo kX9_undo (by rfl) rfl (Nat.le_of_ble_eq_true rfl) (by decide) ?_
  refine fX9_undo hC (fun M1 hlo hC1 => ?_)
  have hM1 := hM.low hlo
  refine x_cvB (b1 := 113) (b2 := 4999) rfl rfl ?_
  refine x_aload_n (pc := 1078) dL_law_1078 rfl ?_
  refine x_invV0 (pc := 1079) dL_law_1079 mlL_136 imX10_undo seX10_undo kX10_undo (by rfl) rfl (Nat.le_of_ble_eq_true rfl) (by decide) ?_
  refine fM_undo hM1 hI (fun M2 hh hM2 => ?_)
  refine x_cvB (b1 := 113) (b2 := 4999) rfl rfl ?_
  refine x_icmp_eq (pc := 1082) (tgt := 1422) dL_law_1082 (by decide) (fun _ => ?_) (fun z => absurd rfl z)
  exact hK M2 _ (hC1.high hh) hM2 (okT_undo hT)
theorem law_29 (hk : k + 6 ≤ (xscr g).2.1) (hn : (xscr g).2.1 ≤ 3072) (hC : XC9 M s) (hM : MC9 M s) (hT : okT s) (hK : ∀ M' s', XC9 M' s' → MC9 M' s' → okT s' → Wp g (d + 31) mL_law 1422 [some (.ref 5000), some (.ref 0), some (.ref 65), some (.int (nI k))] [] xSF (113, 4999) M' K) : Wp g (d + 31) mL_law 1087 [some (.ref 5000), some (.ref 0), some (.ref 65), some (.int (nI k))] [] xSF (113, 4999) M K := by
  obtain ⟨hB, hN, hw, h5, hm6, hln, htx, ok, hl, hI, hw0⟩ := hC.pre
  refine x_aload_n (pc := 1087) dL_law_1087 rfl ?_
  refine x_aload_n (pc := 1088) dL_law_1088 rfl ?_
  refine x_iload_n (pc := 1089) dL_law_1089 rfl ?_
  refine x_iconstN (pc := 1090) 1 dL_law_1090 ic_1 ?_
  refine x_iaddN (pc := 1091) dL_law_1091 ?_
  refine x_scrN (pc := 1092) dL_law_1092 ⟨by omega, hn⟩ ?_
  refine x_aload_n (pc := 1093) dL_law_1093 rfl ?_
  refine x_iload_n (pc := 1094) dL_law_1094 rfl ?_
  refine x_iconstN (pc := 1095) 2 dL_law_1095 ic_2 ?_
  refine x_iaddN (pc := 1096) dL_law_1096 ?_
  refine x_scrN (pc := 1097) dL_law_1097 ⟨by omega, hn⟩ ?_
  refine x_aload_n (pc := 1098) dL_law_1098 rfl ?_
  refine x_iload_n (pc := 1099) dL_law_1099 rfl ?_
  refine x_iconstN (pc := 1100) 3 dL_law_1100 ic_3 ?_
  refine x_iaddN (pc := 1101) dL_law_1101 ?_
  refine x_scrN (pc := 1102) dL_law_1102 ⟨by omega, hn⟩ ?_
  refine x_invV3 (pc := 1103) dL_law_1103 mlL_137 imX9_act seX9_act kX9_act (by rfl) rfl (Nat.le_of_ble_eq_true rfl) (by decide) ?_
  refine fX9_act hC (fun M1 hlo hC1 => ?_)
  have hM1 := hM.low hlo
  refine x_cvB (b1 := 113) (b2 := 4999) rfl rfl ?_
  refine x_aload_n (pc := 1106) dL_law_1106 rfl ?_
  refine x_aload_n (pc := 1107) dL_law_1107 rfl ?_
  refine x_iload_n (pc := 1108) dL_law_1108 rfl ?_
  refine x_iconstN (pc := 1109) 1 dL_law_1109 ic_1 ?_
  refine x_iaddN (pc := 1110) dL_law_1110 ?_
  refine x_scrN (pc := 1111) dL_law_1111 ⟨by omega, hn⟩ ?_
  refine x_aload_n (pc := 1112) dL_law_1112 rfl ?_
  refine x_iload_n (pc := 1113) dL_law_1113 rfl ?_
  refine x_iconstN (pc := 1114) 2 dL_law_1114 ic_2 ?_
  refine x_iaddN (pc := 1115) dL_law_1115 ?_
  refine x_scrN (pc := 1116) dL_law_1116 ⟨by omega, hn⟩ ?_
  refine x_aload_n (pc := 1117) dL_law_1117 rfl ?_
  refine x_iload_n (pc := 1118) dL_law_1118 rfl ?_
  refine x_iconstN (pc := 1119) 3 dL_law_1119 ic_3 ?_
  refine x_iaddN (pc := 1120) dL_law_1120 ?_
  refine x_scrN (pc := 1121) dL_law_1121 ⟨by omega, hn⟩ ?_
  refine x_invV3 (pc := 1122) dL_law_1122 mlL_140 imX10_act seX10_act kX10_act (by rfl) rfl (Nat.le_of_ble_eq_true rfl) (by decide) ?_
  refine fM_act hB hM1 (fun M2 hh hM2 => ?_)
  refine x_cvB (b1 := 113) (b2 := 4999) rfl rfl ?_
  refine x_icmp_eq (pc := 1125) (tgt := 1422) dL_law_1125 (by decide) (fun _ => ?_) (fun z => absurd rfl z)
  exact hK M2 _ (hC1.high hh) hM2 (okT_act hT)
theorem law_30 (hk : k + 6 ≤ (xscr g).2.1) (hn : (xscr g).2.1 ≤ 3072) (hC : XC9 M s) (hM : MC9 M s) (hT : okT s) (hK : ∀ M' s', XC9 M' s' → MC9 M' s' → okT s' → Wp g (d + 31) mL_law 1422 [some (.ref 5000), some (.ref 0), some (.ref 65), some (.int (nI k))] [] xSF (113, 4999) M' K) : Wp g (d + 31) mL_law 1130 [some (.ref 5000), some (.ref 0), some (.ref 65), some (.int (nI k))] [] xSF (113, 4999) M K := by
  obtain ⟨hB, hN, hw, h5, hm6, hln, htx, ok, hl, hI, hw0⟩ := hC.pre
  refine x_aload_n (pc := 1130) dL_law_1130 rfl ?_
  refine x_aload_n (pc := 1131) dL_law_1131 rfl ?_
  refine x_iload_n (pc := 1132) dL_law_1132 rfl ?_
  refine x_iconstN (pc := 1133) 1 dL_law_1133 ic_1 ?_
  refine x_iaddN (pc := 1134) dL_law_1134 ?_
  refine x_scrN (pc := 1135) dL_law_1135 ⟨by omega, hn⟩ ?_
  refine x_invV1 (pc := 1136) dL_law_1136 mlL_141 imX9_trace seX9_trace kX9_trace (by rfl) rfl (Nat.le_of_ble_eq_true rfl) (by decide) ?_
  refine fX9_trace hC (fun M1 hlo hC1 => ?_)
  have hM1 := hM.low hlo
  refine x_cvB (b1 := 113) (b2 := 4999) rfl rfl ?_
  refine x_aload_n (pc := 1139) dL_law_1139 rfl ?_
  refine x_aload_n (pc := 1140) dL_law_1140 rfl ?_
  refine x_iload_n (pc := 1141) dL_law_1141 rfl ?_
  refine x_iconstN (pc := 1142) 1 dL_law_1142 ic_1 ?_
  refine x_iaddN (pc := 1143) dL_law_1143 ?_
  refine x_scrN (pc := 1144) dL_law_1144 ⟨by omega, hn⟩ ?_
  refine x_invV1 (pc := 1145) dL_law_1145 mlL_144 imX10_trace seX10_trace kX10_trace (by rfl) rfl (Nat.le_of_ble_eq_true rfl) (by decide) ?_
  refine fM_trace hM1 hl (fun M2 hh hM2 => ?_)
  refine x_cvB (b1 := 113) (b2 := 4999) rfl rfl ?_
  refine x_icmp_eq (pc := 1148) (tgt := 1422) dL_law_1148 (by decide) (fun _ => ?_) (fun z => absurd rfl z)
  exact hK M2 _ (hC1.high hh) hM2 hT
theorem law_31 (hk : k + 6 ≤ (xscr g).2.1) (hn : (xscr g).2.1 ≤ 3072) (hC : XC9 M s) (hM : MC9 M s) (hT : okT s) (hK : ∀ M' s', XC9 M' s' → MC9 M' s' → okT s' → Wp g (d + 31) mL_law 1422 [some (.ref 5000), some (.ref 0), some (.ref 65), some (.int (nI k))] [] xSF (113, 4999) M' K) : Wp g (d + 31) mL_law 1153 [some (.ref 5000), some (.ref 0), some (.ref 65), some (.int (nI k))] [] xSF (113, 4999) M K := by
  obtain ⟨hB, hN, hw, h5, hm6, hln, htx, ok, hl, hI, hw0⟩ := hC.pre
  refine x_aload_n (pc := 1153) dL_law_1153 rfl ?_
  refine x_aload_n (pc := 1154) dL_law_1154 rfl ?_
  refine x_iload_n (pc := 1155) dL_law_1155 rfl ?_
  refine x_iconstN (pc := 1156) 1 dL_law_1156 ic_1 ?_
  refine x_iaddN (pc := 1157) dL_law_1157 ?_
  refine x_scrN (pc := 1158) dL_law_1158 ⟨by omega, hn⟩ ?_
  refine x_aload_n (pc := 1159) dL_law_1159 rfl ?_
  refine x_iload_n (pc := 1160) dL_law_1160 rfl ?_
  refine x_iconstN (pc := 1161) 2 dL_law_1161 ic_2 ?_
  refine x_iaddN (pc := 1162) dL_law_1162 ?_
  refine x_scrN (pc := 1163) dL_law_1163 ⟨by omega, hn⟩ ?_
  refine x_invV2 (pc := 1164) dL_law_1164 mlL_145 imX9_taken seX9_taken kX9_taken (by rfl) rfl (Nat.le_of_ble_eq_true rfl) (by decide) ?_
  refine fX9_taken hC (fun M1 hlo hC1 => ?_)
  have hM1 := hM.low hlo
  refine x_cvB (b1 := 113) (b2 := 4999) rfl rfl ?_
  refine x_aload_n (pc := 1167) dL_law_1167 rfl ?_
  refine x_aload_n (pc := 1168) dL_law_1168 rfl ?_
  refine x_iload_n (pc := 1169) dL_law_1169 rfl ?_
  refine x_iconstN (pc := 1170) 1 dL_law_1170 ic_1 ?_
  refine x_iaddN (pc := 1171) dL_law_1171 ?_
  refine x_scrN (pc := 1172) dL_law_1172 ⟨by omega, hn⟩ ?_
  refine x_aload_n (pc := 1173) dL_law_1173 rfl ?_
  refine x_iload_n (pc := 1174) dL_law_1174 rfl ?_
  refine x_iconstN (pc := 1175) 2 dL_law_1175 ic_2 ?_
  refine x_iaddN (pc := 1176) dL_law_1176 ?_
  refine x_scrN (pc := 1177) dL_law_1177 ⟨by omega, hn⟩ ?_
  refine x_invV2 (pc := 1178) dL_law_1178 mlL_148 imX10_taken seX10_taken kX10_taken (by rfl) rfl (Nat.le_of_ble_eq_true rfl) (by decide) ?_
  refine fM_taken hB hM1 (fun M2 hh hM2 => ?_)
  refine x_cvB (b1 := 113) (b2 := 4999) rfl rfl ?_
  refine x_icmp_eq (pc := 1181) (tgt := 1422) dL_law_1181 (by decide) (fun _ => ?_) (fun z => absurd rfl z)
  exact hK M2 _ (hC1.high hh) hM2 hT
theorem law_32 (hk : k + 6 ≤ (xscr g).2.1) (hn : (xscr g).2.1 ≤ 3072) (hC : XC9 M s) (hM : MC9 M s) (hT : okT s) (hK : ∀ M' s', XC9 M' s' → MC9 M' s' → okT s' → Wp g (d + 31) mL_law 1422 [some (.ref 5000), some (.ref 0), some (.ref 65), some (.int (nI k))] [] xSF (113, 4999) M' K) : Wp g (d + 31) mL_law 1186 [some (.ref 5000), some (.ref 0), some (.ref 65), some (.int (nI k))] [] xSF (113, 4999) M K := by
  obtain ⟨hB, hN, hw, h5, hm6, hln, htx, ok, hl, hI, hw0⟩ := hC.pre
  refine x_aload_n (pc := 1186) dL_law_1186 rfl ?_
  refine x_aload_n (pc := 1187) dL_law_1187 rfl ?_
  refine x_iload_n (pc := 1188) dL_law_1188 rfl ?_
  refine x_iconstN (pc := 1189) 1 dL_law_1189 ic_1 ?_
  refine x_iaddN (pc := 1190) dL_law_1190 ?_
  refine x_scrN (pc := 1191) dL_law_1191 ⟨by omega, hn⟩ ?_
  refine x_invV1 (pc := 1192) dL_law_1192 mlL_149 imX9_count seX9_count kX9_count (by rfl) rfl (Nat.le_of_ble_eq_true rfl) (by decide) ?_
  refine fX9_count hC (fun M1 hlo hC1 => ?_)
  have hM1 := hM.low hlo
  refine x_cvB (b1 := 113) (b2 := 4999) rfl rfl ?_
  refine x_aload_n (pc := 1195) dL_law_1195 rfl ?_
  refine x_aload_n (pc := 1196) dL_law_1196 rfl ?_
  refine x_iload_n (pc := 1197) dL_law_1197 rfl ?_
  refine x_iconstN (pc := 1198) 1 dL_law_1198 ic_1 ?_
  refine x_iaddN (pc := 1199) dL_law_1199 ?_
  refine x_scrN (pc := 1200) dL_law_1200 ⟨by omega, hn⟩ ?_
  refine x_invV1 (pc := 1201) dL_law_1201 mlL_152 imX10_count seX10_count kX10_count (by rfl) rfl (Nat.le_of_ble_eq_true rfl) (by decide) ?_
  refine fM_count hM1 (fun M2 hh hM2 => ?_)
  refine x_cvB (b1 := 113) (b2 := 4999) rfl rfl ?_
  refine x_icmp_eq (pc := 1204) (tgt := 1422) dL_law_1204 (by decide) (fun _ => ?_) (fun z => absurd rfl z)
  exact hK M2 _ (hC1.high hh) hM2 hT
theorem law_33 (hk : k + 6 ≤ (xscr g).2.1) (hn : (xscr g).2.1 ≤ 3072) (hC : XC9 M s) (hM : MC9 M s) (hT : okT s) (hK : ∀ M' s', XC9 M' s' → MC9 M' s' → okT s' → Wp g (d + 31) mL_law 1422 [some (.ref 5000), some (.ref 0), some (.ref 65), some (.int (nI k))] [] xSF (113, 4999) M' K) : Wp g (d + 31) mL_law 1209 [some (.ref 5000), some (.ref 0), some (.ref 65), some (.int (nI k))] [] xSF (113, 4999) M K := by
  obtain ⟨hB, hN, hw, h5, hm6, hln, htx, ok, hl, hI, hw0⟩ := hC.pre
  refine x_aload_n (pc := 1209) dL_law_1209 rfl ?_
  refine x_aload_n (pc := 1210) dL_law_1210 rfl ?_
  refine x_iload_n (pc := 1211) dL_law_1211 rfl ?_
  refine x_iconstN (pc := 1212) 1 dL_law_1212 ic_1 ?_
  refine x_iaddN (pc := 1213) dL_law_1213 ?_
  refine x_scrN (pc := 1214) dL_law_1214 ⟨by omega, hn⟩ ?_
  refine x_aload_n (pc := 1215) dL_law_1215 rfl ?_
  refine x_iload_n (pc := 1216) dL_law_1216 rfl ?_
  refine x_iconstN (pc := 1217) 2 dL_law_1217 ic_2 ?_
  refine x_iaddN (pc := 1218) dL_law_1218 ?_
  refine x_scrN (pc := 1219) dL_law_1219 ⟨by omega, hn⟩ ?_
  refine x_aload_n (pc := 1220) dL_law_1220 rfl ?_
  refine x_iload_n (pc := 1221) dL_law_1221 rfl ?_
  refine x_iconstN (pc := 1222) 3 dL_law_1222 ic_3 ?_
  refine x_iaddN (pc := 1223) dL_law_1223 ?_
  refine x_scrN (pc := 1224) dL_law_1224 ⟨by omega, hn⟩ ?_
  refine x_invV3 (pc := 1225) dL_law_1225 mlL_153 imX9_tape seX9_tape kX9_tape (by rfl) rfl (Nat.le_of_ble_eq_true rfl) (by decide) ?_
  refine fX9_tape hC (fun M1 hlo hC1 => ?_)
  have hM1 := hM.low hlo
  refine x_cvB (b1 := 113) (b2 := 4999) rfl rfl ?_
  refine x_aload_n (pc := 1228) dL_law_1228 rfl ?_
  refine x_aload_n (pc := 1229) dL_law_1229 rfl ?_
  refine x_iload_n (pc := 1230) dL_law_1230 rfl ?_
  refine x_iconstN (pc := 1231) 1 dL_law_1231 ic_1 ?_
  refine x_iaddN (pc := 1232) dL_law_1232 ?_
  refine x_scrN (pc := 1233) dL_law_1233 ⟨by omega, hn⟩ ?_
  refine x_aload_n (pc := 1234) dL_law_1234 rfl ?_
  refine x_iload_n (pc := 1235) dL_law_1235 rfl ?_
  refine x_iconstN (pc := 1236) 2 dL_law_1236 ic_2 ?_
  refine x_iaddN (pc := 1237) dL_law_1237 ?_
  refine x_scrN (pc := 1238) dL_law_1238 ⟨by omega, hn⟩ ?_
  refine x_aload_n (pc := 1239) dL_law_1239 rfl ?_
  refine x_iload_n (pc := 1240) dL_law_1240 rfl ?_
  refine x_iconstN (pc := 1241) 3 dL_law_1241 ic_3 ?_
  refine x_iaddN (pc := 1242) dL_law_1242 ?_
  refine x_scrN (pc := 1243) dL_law_1243 ⟨by omega, hn⟩ ?_
  refine x_invV3 (pc := 1244) dL_law_1244 mlL_156 imX10_tape seX10_tape kX10_tape (by rfl) rfl (Nat.le_of_ble_eq_true rfl) (by decide) ?_
  refine fM_tape hM1 (fun M2 hh hM2 => ?_)
  refine x_cvB (b1 := 113) (b2 := 4999) rfl rfl ?_
  refine x_icmp_eq (pc := 1247) (tgt := 1422) dL_law_1247 (by decide) (fun _ => ?_) (fun z => absurd rfl z)
  exact hK M2 _ (hC1.high hh) hM2 (okT_tape hT)
theorem law_34 (hk : k + 6 ≤ (xscr g).2.1) (hn : (xscr g).2.1 ≤ 3072) (hC : XC9 M s) (hM : MC9 M s) (hT : okT s) (hK : ∀ M' s', XC9 M' s' → MC9 M' s' → okT s' → Wp g (d + 31) mL_law 1422 [some (.ref 5000), some (.ref 0), some (.ref 65), some (.int (nI k))] [] xSF (113, 4999) M' K) : Wp g (d + 31) mL_law 1252 [some (.ref 5000), some (.ref 0), some (.ref 65), some (.int (nI k))] [] xSF (113, 4999) M K := by
  obtain ⟨hB, hN, hw, h5, hm6, hln, htx, ok, hl, hI, hw0⟩ := hC.pre
  refine x_aload_n (pc := 1252) dL_law_1252 rfl ?_
  refine x_aload_n (pc := 1253) dL_law_1253 rfl ?_
  refine x_iload_n (pc := 1254) dL_law_1254 rfl ?_
  refine x_iconstN (pc := 1255) 1 dL_law_1255 ic_1 ?_
  refine x_iaddN (pc := 1256) dL_law_1256 ?_
  refine x_scrN (pc := 1257) dL_law_1257 ⟨by omega, hn⟩ ?_
  refine x_aload_n (pc := 1258) dL_law_1258 rfl ?_
  refine x_iload_n (pc := 1259) dL_law_1259 rfl ?_
  refine x_iconstN (pc := 1260) 2 dL_law_1260 ic_2 ?_
  refine x_iaddN (pc := 1261) dL_law_1261 ?_
  refine x_scrN (pc := 1262) dL_law_1262 ⟨by omega, hn⟩ ?_
  refine x_aload_n (pc := 1263) dL_law_1263 rfl ?_
  refine x_iload_n (pc := 1264) dL_law_1264 rfl ?_
  refine x_iconstN (pc := 1265) 3 dL_law_1265 ic_3 ?_
  refine x_iaddN (pc := 1266) dL_law_1266 ?_
  refine x_scrN (pc := 1267) dL_law_1267 ⟨by omega, hn⟩ ?_
  refine x_i2l (pc := 1268) dL_law_1268 ?_
  refine x_bipushN (pc := 1269) 32 dL_law_1269 bp_32 ?_
  refine x_lshl (pc := 1271) dL_law_1271 ?_
  refine x_aload_n (pc := 1272) dL_law_1272 rfl ?_
  refine x_iload_n (pc := 1273) dL_law_1273 rfl ?_
  refine x_iconstN (pc := 1274) 4 dL_law_1274 ic_4 ?_
  refine x_iaddN (pc := 1275) dL_law_1275 ?_
  refine x_scrN (pc := 1276) dL_law_1276 ⟨by omega, hn⟩ ?_
  refine x_i2l (pc := 1277) dL_law_1277 ?_
  refine x_ldc2 (pc := 1278) dL_law_1278 ckL_157 ?_
  refine x_land (pc := 1281) dL_law_1281 ?_
  refine x_lor (pc := 1282) dL_law_1282 ?_
  refine x_invV3 (pc := 1283) dL_law_1283 mlL_159 imX9_item seX9_item kX9_item (by rfl) rfl (Nat.le_of_ble_eq_true rfl) (by decide) ?_
  refine fX9_item hC (fun M1 hlo hC1 => ?_)
  have hM1 := hM.low hlo
  refine x_cvB (b1 := 113) (b2 := 4999) rfl rfl ?_
  refine x_aload_n (pc := 1286) dL_law_1286 rfl ?_
  refine x_aload_n (pc := 1287) dL_law_1287 rfl ?_
  refine x_iload_n (pc := 1288) dL_law_1288 rfl ?_
  refine x_iconstN (pc := 1289) 1 dL_law_1289 ic_1 ?_
  refine x_iaddN (pc := 1290) dL_law_1290 ?_
  refine x_scrN (pc := 1291) dL_law_1291 ⟨by omega, hn⟩ ?_
  refine x_aload_n (pc := 1292) dL_law_1292 rfl ?_
  refine x_iload_n (pc := 1293) dL_law_1293 rfl ?_
  refine x_iconstN (pc := 1294) 2 dL_law_1294 ic_2 ?_
  refine x_iaddN (pc := 1295) dL_law_1295 ?_
  refine x_scrN (pc := 1296) dL_law_1296 ⟨by omega, hn⟩ ?_
  refine x_aload_n (pc := 1297) dL_law_1297 rfl ?_
  refine x_iload_n (pc := 1298) dL_law_1298 rfl ?_
  refine x_iconstN (pc := 1299) 3 dL_law_1299 ic_3 ?_
  refine x_iaddN (pc := 1300) dL_law_1300 ?_
  refine x_scrN (pc := 1301) dL_law_1301 ⟨by omega, hn⟩ ?_
  refine x_i2l (pc := 1302) dL_law_1302 ?_
  refine x_bipushN (pc := 1303) 32 dL_law_1303 bp_32 ?_
  refine x_lshl (pc := 1305) dL_law_1305 ?_
  refine x_aload_n (pc := 1306) dL_law_1306 rfl ?_
  refine x_iload_n (pc := 1307) dL_law_1307 rfl ?_
  refine x_iconstN (pc := 1308) 4 dL_law_1308 ic_4 ?_
  refine x_iaddN (pc := 1309) dL_law_1309 ?_
  refine x_scrN (pc := 1310) dL_law_1310 ⟨by omega, hn⟩ ?_
  refine x_i2l (pc := 1311) dL_law_1311 ?_
  refine x_ldc2 (pc := 1312) dL_law_1312 ckL_157 ?_
  refine x_land (pc := 1315) dL_law_1315 ?_
  refine x_lor (pc := 1316) dL_law_1316 ?_
  refine x_invV3 (pc := 1317) dL_law_1317 mlL_163 imX10_item seX10_item kX10_item (by rfl) rfl (Nat.le_of_ble_eq_true rfl) (by decide) ?_
  refine fM_item hM1 (fun M2 hh hM2 => ?_)
  refine x_cvB (b1 := 113) (b2 := 4999) rfl rfl ?_
  refine x_icmp_eq (pc := 1320) (tgt := 1422) dL_law_1320 (by decide) (fun _ => ?_) (fun z => absurd rfl z)
  exact hK M2 _ (hC1.high hh) hM2 (okT_item hT)
theorem law_35 (hk : k + 6 ≤ (xscr g).2.1) (hn : (xscr g).2.1 ≤ 3072) (hC : XC9 M s) (hM : MC9 M s) (hT : okT s) (hK : ∀ M' s', XC9 M' s' → MC9 M' s' → okT s' → Wp g (d + 31) mL_law 1422 [some (.ref 5000), some (.ref 0), some (.ref 65), some (.int (nI k))] [] xSF (113, 4999) M' K) : Wp g (d + 31) mL_law 1325 [some (.ref 5000), some (.ref 0), some (.ref 65), some (.int (nI k))] [] xSF (113, 4999) M K := by
  obtain ⟨hB, hN, hw, h5, hm6, hln, htx, ok, hl, hI, hw0⟩ := hC.pre
  refine x_aload_n (pc := 1325) dL_law_1325 rfl ?_
  refine x_aload_n (pc := 1326) dL_law_1326 rfl ?_
  refine x_iload_n (pc := 1327) dL_law_1327 rfl ?_
  refine x_iconstN (pc := 1328) 1 dL_law_1328 ic_1 ?_
  refine x_iaddN (pc := 1329) dL_law_1329 ?_
  refine x_scrN (pc := 1330) dL_law_1330 ⟨by omega, hn⟩ ?_
  refine x_aload_n (pc := 1331) dL_law_1331 rfl ?_
  refine x_iload_n (pc := 1332) dL_law_1332 rfl ?_
  refine x_iconstN (pc := 1333) 2 dL_law_1333 ic_2 ?_
  refine x_iaddN (pc := 1334) dL_law_1334 ?_
  refine x_scrN (pc := 1335) dL_law_1335 ⟨by omega, hn⟩ ?_
  refine x_invV2 (pc := 1336) dL_law_1336 mlL_164 imX9_read seX9_read kX9_read (by rfl) rfl (Nat.le_of_ble_eq_true rfl) (by decide) ?_
  refine fX9_read hC (fun M1 hlo hC1 => ?_)
  have hM1 := hM.low hlo
  refine x_cvB (b1 := 113) (b2 := 4999) rfl rfl ?_
  refine x_aload_n (pc := 1339) dL_law_1339 rfl ?_
  refine x_aload_n (pc := 1340) dL_law_1340 rfl ?_
  refine x_iload_n (pc := 1341) dL_law_1341 rfl ?_
  refine x_iconstN (pc := 1342) 1 dL_law_1342 ic_1 ?_
  refine x_iaddN (pc := 1343) dL_law_1343 ?_
  refine x_scrN (pc := 1344) dL_law_1344 ⟨by omega, hn⟩ ?_
  refine x_aload_n (pc := 1345) dL_law_1345 rfl ?_
  refine x_iload_n (pc := 1346) dL_law_1346 rfl ?_
  refine x_iconstN (pc := 1347) 2 dL_law_1347 ic_2 ?_
  refine x_iaddN (pc := 1348) dL_law_1348 ?_
  refine x_scrN (pc := 1349) dL_law_1349 ⟨by omega, hn⟩ ?_
  refine x_invV2 (pc := 1350) dL_law_1350 mlL_167 imX10_read seX10_read kX10_read (by rfl) rfl (Nat.le_of_ble_eq_true rfl) (by decide) ?_
  refine fM_read hT.1 hM1 (fun M2 hh hM2 => ?_)
  refine x_cvB (b1 := 113) (b2 := 4999) rfl rfl ?_
  refine x_lcmp (pc := 1353) dL_law_1353 ?_
  refine x_if_eq (pc := 1354) (tgt := 1422) dL_law_1354 (by decide) (fun _ => ?_) (fun z => absurd ((lg_cmp_eq _ _).mpr rfl) z)
  exact hK M2 _ (hC1.high hh) hM2 hT
theorem law_36 (hk : k + 6 ≤ (xscr g).2.1) (hn : (xscr g).2.1 ≤ 3072) (hC : XC9 M s) (hM : MC9 M s) (hT : okT s) (hK : ∀ M' s', XC9 M' s' → MC9 M' s' → okT s' → Wp g (d + 31) mL_law 1422 [some (.ref 5000), some (.ref 0), some (.ref 65), some (.int (nI k))] [] xSF (113, 4999) M' K) : Wp g (d + 31) mL_law 1359 [some (.ref 5000), some (.ref 0), some (.ref 65), some (.int (nI k))] [] xSF (113, 4999) M K := by
  obtain ⟨hB, hN, hw, h5, hm6, hln, htx, ok, hl, hI, hw0⟩ := hC.pre
  refine x_aload_n (pc := 1359) dL_law_1359 rfl ?_
  refine x_aload_n (pc := 1360) dL_law_1360 rfl ?_
  refine x_iload_n (pc := 1361) dL_law_1361 rfl ?_
  refine x_iconstN (pc := 1362) 1 dL_law_1362 ic_1 ?_
  refine x_iaddN (pc := 1363) dL_law_1363 ?_
  refine x_scrN (pc := 1364) dL_law_1364 ⟨by omega, hn⟩ ?_
  refine x_aload_n (pc := 1365) dL_law_1365 rfl ?_
  refine x_iload_n (pc := 1366) dL_law_1366 rfl ?_
  refine x_iconstN (pc := 1367) 2 dL_law_1367 ic_2 ?_
  refine x_iaddN (pc := 1368) dL_law_1368 ?_
  refine x_scrN (pc := 1369) dL_law_1369 ⟨by omega, hn⟩ ?_
  refine x_aload_n (pc := 1370) dL_law_1370 rfl ?_
  refine x_iload_n (pc := 1371) dL_law_1371 rfl ?_
  refine x_iconstN (pc := 1372) 3 dL_law_1372 ic_3 ?_
  refine x_iaddN (pc := 1373) dL_law_1373 ?_
  refine x_scrN (pc := 1374) dL_law_1374 ⟨by omega, hn⟩ ?_
  refine x_aload_n (pc := 1375) dL_law_1375 rfl ?_
  refine x_iload_n (pc := 1376) dL_law_1376 rfl ?_
  refine x_iconstN (pc := 1377) 4 dL_law_1377 ic_4 ?_
  refine x_iaddN (pc := 1378) dL_law_1378 ?_
  refine x_scrN (pc := 1379) dL_law_1379 ⟨by omega, hn⟩ ?_
  refine x_aload_n (pc := 1380) dL_law_1380 rfl ?_
  refine x_iload_n (pc := 1381) dL_law_1381 rfl ?_
  refine x_iconstN (pc := 1382) 5 dL_law_1382 ic_5 ?_
  refine x_iaddN (pc := 1383) dL_law_1383 ?_
  refine x_scrN (pc := 1384) dL_law_1384 ⟨by omega, hn⟩ ?_
  refine x_invV5 (pc := 1385) dL_law_1385 mlL_168 imX9_shift seX9_shift kX9_shift (by rfl) rfl (Nat.le_of_ble_eq_true rfl) (by decide) ?_
  refine fX9_shift hC (fun M1 hlo hC1 => ?_)
  have hM1 := hM.low hlo
  refine x_cvB (b1 := 113) (b2 := 4999) rfl rfl ?_
  refine x_aload_n (pc := 1388) dL_law_1388 rfl ?_
  refine x_aload_n (pc := 1389) dL_law_1389 rfl ?_
  refine x_iload_n (pc := 1390) dL_law_1390 rfl ?_
  refine x_iconstN (pc := 1391) 1 dL_law_1391 ic_1 ?_
  refine x_iaddN (pc := 1392) dL_law_1392 ?_
  refine x_scrN (pc := 1393) dL_law_1393 ⟨by omega, hn⟩ ?_
  refine x_aload_n (pc := 1394) dL_law_1394 rfl ?_
  refine x_iload_n (pc := 1395) dL_law_1395 rfl ?_
  refine x_iconstN (pc := 1396) 2 dL_law_1396 ic_2 ?_
  refine x_iaddN (pc := 1397) dL_law_1397 ?_
  refine x_scrN (pc := 1398) dL_law_1398 ⟨by omega, hn⟩ ?_
  refine x_aload_n (pc := 1399) dL_law_1399 rfl ?_
  refine x_iload_n (pc := 1400) dL_law_1400 rfl ?_
  refine x_iconstN (pc := 1401) 3 dL_law_1401 ic_3 ?_
  refine x_iaddN (pc := 1402) dL_law_1402 ?_
  refine x_scrN (pc := 1403) dL_law_1403 ⟨by omega, hn⟩ ?_
  refine x_aload_n (pc := 1404) dL_law_1404 rfl ?_
  refine x_iload_n (pc := 1405) dL_law_1405 rfl ?_
  refine x_iconstN (pc := 1406) 4 dL_law_1406 ic_4 ?_
  refine x_iaddN (pc := 1407) dL_law_1407 ?_
  refine x_scrN (pc := 1408) dL_law_1408 ⟨by omega, hn⟩ ?_
  refine x_aload_n (pc := 1409) dL_law_1409 rfl ?_
  refine x_iload_n (pc := 1410) dL_law_1410 rfl ?_
  refine x_iconstN (pc := 1411) 5 dL_law_1411 ic_5 ?_
  refine x_iaddN (pc := 1412) dL_law_1412 ?_
  refine x_scrN (pc := 1413) dL_law_1413 ⟨by omega, hn⟩ ?_
  refine x_invV5 (pc := 1414) dL_law_1414 mlL_172 imX10_shift seX10_shift kX10_shift (by rfl) rfl (Nat.le_of_ble_eq_true rfl) (by decide) ?_
  refine fM_shift hM1 (fun M2 hh hM2 => ?_)
  refine x_cvB (b1 := 113) (b2 := 4999) rfl rfl ?_
  refine x_icmp_eq (pc := 1417) (tgt := 1422) dL_law_1417 (by decide) (fun _ => ?_) (fun z => absurd rfl z)
  exact hK M2 _ (hC1.high hh) hM2 (okT_shift hT)
end P99
