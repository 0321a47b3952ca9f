theorem lw_c0 (E : ME) (zq : String) {zb zl zn : Nat} {zs : Nat → Int32} {h : AH} (hE : XOK E) (hX : XSc E zb zl zs) (hz : zl ≤ 3072) (hj : 6 * zn + 5 < zl) (hi : InV zn h) (K : ∀ h2 : AH, InV (zn + 1) h2 → Ev E (mLn zq) room_1 (QXL E zb) 76 16412 1502 [some (.ref 4000), some (.ref 0), some (.ref 49), some (.int (nI (6 * zn)))] [] h2) : Ev E (mLn zq) room_1 (QXL E zb) 76 16412 220 [some (.ref 4000), some (.ref 0), some (.ref 49), some (.int (nI (6 * zn)))] [] h := by
  have hn : zn ≤ 512 := by omega
  refine ev_aload_n (pc := 220) dL_law_220 rfl ?_
  refine ev_aload_n (pc := 221) dL_law_221 rfl ?_
  refine ev_iload_n (pc := 222) dL_law_222 rfl ?_
  refine ev_iconst (pc := 223) (v := 1) dL_law_223 (by decide) ?_
  refine ev_iadd (pc := 224) dL_law_224 ?_
  refine ev_eqI (e' := nI (6 * zn + 1)) (show nI (6 * zn) + 1 = nI (6 * zn + 1) from nI_add (6 * zn) 1) ?_
  refine ev_sld (pc := 225) (zj := 6 * zn + 1) hX (by omega) hz dL_law_225 ?_
  refine ev_i2l (pc := 226) dL_law_226 ?_
  refine ev_bipush (pc := 227) (v := 32) dL_law_227 (by decide) ?_
  refine ev_lshl (pc := 229) dL_law_229 ?_
  refine ev_aload_n (pc := 230) dL_law_230 rfl ?_
  refine ev_iload_n (pc := 231) dL_law_231 rfl ?_
  refine ev_iconst (pc := 232) (v := 2) dL_law_232 (by decide) ?_
  refine ev_iadd (pc := 233) dL_law_233 ?_
  refine ev_eqI (e' := nI (6 * zn + 2)) (show nI (6 * zn) + 2 = nI (6 * zn + 2) from nI_add (6 * zn) 2) ?_
  refine ev_sld (pc := 234) (zj := 6 * zn + 2) hX (by omega) hz dL_law_234 ?_
  refine ev_i2l (pc := 235) dL_law_235 ?_
  refine ev_ldc2 (pc := 236) (v := 4294967295) dL_law_236 kcL_13 ?_
  refine ev_land (pc := 239) dL_law_239 ?_
  refine ev_lor (pc := 240) dL_law_240 ?_
  refine ev_st1 (pc := 241) (st_feed E hi (((Int32.toInt64 (zs (6 * zn + 1))) <<< (Int32.toInt64 32 &&& 63)) ||| ((Int32.toInt64 (zs (6 * zn + 2))) &&& (4294967295)))) (Nat.le_of_ble_eq_true rfl) dL_law_241 kX10_feed lL_15 vX10_feed rfl hi.1 rfl rfl (Nat.le_of_ble_eq_true rfl) (Nat.le_of_ble_eq_true rfl) (Nat.le_of_ble_eq_true rfl) (fun zx h1 w1 q1 => ?_)
  refine ev_aload_n (pc := 244) dL_law_244 rfl ?_
  refine ev_aload_n (pc := 245) dL_law_245 rfl ?_
  refine ev_iload_n (pc := 246) dL_law_246 rfl ?_
  refine ev_iconst (pc := 247) (v := 1) dL_law_247 (by decide) ?_
  refine ev_iadd (pc := 248) dL_law_248 ?_
  refine ev_eqI (e' := nI (6 * zn + 1)) (show nI (6 * zn) + 1 = nI (6 * zn + 1) from nI_add (6 * zn) 1) ?_
  refine ev_sld (pc := 249) (zj := 6 * zn + 1) hX (by omega) hz dL_law_249 ?_
  refine ev_i2l (pc := 250) dL_law_250 ?_
  refine ev_bipush (pc := 251) (v := 32) dL_law_251 (by decide) ?_
  refine ev_lshl (pc := 253) dL_law_253 ?_
  refine ev_aload_n (pc := 254) dL_law_254 rfl ?_
  refine ev_iload_n (pc := 255) dL_law_255 rfl ?_
  refine ev_iconst (pc := 256) (v := 2) dL_law_256 (by decide) ?_
  refine ev_iadd (pc := 257) dL_law_257 ?_
  refine ev_eqI (e' := nI (6 * zn + 2)) (show nI (6 * zn) + 2 = nI (6 * zn + 2) from nI_add (6 * zn) 2) ?_
  refine ev_sld (pc := 258) (zj := 6 * zn + 2) hX (by omega) hz dL_law_258 ?_
  refine ev_i2l (pc := 259) dL_law_259 ?_
  refine ev_ldc2 (pc := 260) (v := 4294967295) dL_law_260 kcL_13 ?_
  refine ev_land (pc := 263) dL_law_263 ?_
  refine ev_lor (pc := 264) dL_law_264 ?_
  refine ev_st2 (pc := 265) q1 (Nat.le_of_ble_eq_true rfl) dL_law_265 kX11_feed lL_19 vX11_feed rfl w1 rfl rfl (Nat.le_of_ble_eq_true rfl) (Nat.le_of_ble_eq_true rfl) (Nat.le_of_ble_eq_true rfl) (fun h2 i2 => ?_)
  exact ev_icmp_eq (pc := 268) (tgt := 1502) dL_law_268 (by decide) (fun _ => K h2 i2) (fun z => absurd rfl z)
theorem lw_c1 (E : ME) (zq : String) {zb zl zn : Nat} {zs : Nat → Int32} {h : AH} (hE : XOK E) (hX : XSc E zb zl zs) (hz : zl ≤ 3072) (hj : 6 * zn + 5 < zl) (hi : InV zn h) (K : ∀ h2 : AH, InV (zn + 1) h2 → Ev E (mLn zq) room_1 (QXL E zb) 76 16412 1502 [some (.ref 4000), some (.ref 0), some (.ref 49), some (.int (nI (6 * zn)))] [] h2) : Ev E (mLn zq) room_1 (QXL E zb) 76 16412 273 [some (.ref 4000), some (.ref 0), some (.ref 49), some (.int (nI (6 * zn)))] [] h := by
  have hn : zn ≤ 512 := by omega
  refine ev_aload_n (pc := 273) dL_law_273 rfl ?_
  refine ev_aload_n (pc := 274) dL_law_274 rfl ?_
  refine ev_iload_n (pc := 275) dL_law_275 rfl ?_
  refine ev_iconst (pc := 276) (v := 1) dL_law_276 (by decide) ?_
  refine ev_iadd (pc := 277) dL_law_277 ?_
  refine ev_eqI (e' := nI (6 * zn + 1)) (show nI (6 * zn) + 1 = nI (6 * zn + 1) from nI_add (6 * zn) 1) ?_
  refine ev_sld (pc := 278) (zj := 6 * zn + 1) hX (by omega) hz dL_law_278 ?_
  refine ev_st1 (pc := 279) (st_end E hi (zs (6 * zn + 1))) (Nat.le_of_ble_eq_true rfl) dL_law_279 kX10_end lL_20 vX10_end rfl hi.1 rfl rfl (Nat.le_of_ble_eq_true rfl) (Nat.le_of_ble_eq_true rfl) (Nat.le_of_ble_eq_true rfl) (fun zx h1 w1 q1 => ?_)
  refine ev_aload_n (pc := 282) dL_law_282 rfl ?_
  refine ev_aload_n (pc := 283) dL_law_283 rfl ?_
  refine ev_iload_n (pc := 284) dL_law_284 rfl ?_
  refine ev_iconst (pc := 285) (v := 1) dL_law_285 (by decide) ?_
  refine ev_iadd (pc := 286) dL_law_286 ?_
  refine ev_eqI (e' := nI (6 * zn + 1)) (show nI (6 * zn) + 1 = nI (6 * zn + 1) from nI_add (6 * zn) 1) ?_
  refine ev_sld (pc := 287) (zj := 6 * zn + 1) hX (by omega) hz dL_law_287 ?_
  refine ev_st2 (pc := 288) q1 (Nat.le_of_ble_eq_true rfl) dL_law_288 kX11_end lL_24 vX11_end rfl w1 rfl rfl (Nat.le_of_ble_eq_true rfl) (Nat.le_of_ble_eq_true rfl) (Nat.le_of_ble_eq_true rfl) (fun h2 i2 => ?_)
  exact ev_icmp_eq (pc := 291) (tgt := 1502) dL_law_291 (by decide) (fun _ => K h2 i2) (fun z => absurd rfl z)
theorem lw_c2 (E : ME) (zq : String) {zb zl zn : Nat} {zs : Nat → Int32} {h : AH} (hE : XOK E) (hX : XSc E zb zl zs) (hz : zl ≤ 3072) (hj : 6 * zn + 5 < zl) (hi : InV zn h) (K : ∀ h2 : AH, InV (zn + 1) h2 → Ev E (mLn zq) room_1 (QXL E zb) 76 16412 1502 [some (.ref 4000), some (.ref 0), some (.ref 49), some (.int (nI (6 * zn)))] [] h2) : Ev E (mLn zq) room_1 (QXL E zb) 76 16412 296 [some (.ref 4000), some (.ref 0), some (.ref 49), some (.int (nI (6 * zn)))] [] h := by
  have hn : zn ≤ 512 := by omega
  refine ev_aload_n (pc := 296) dL_law_296 rfl ?_
  refine ev_st1 (pc := 297) (st_text E hE hi) (Nat.le_of_ble_eq_true rfl) dL_law_297 kX10_text lL_25 vX10_text rfl hi.1 rfl rfl (Nat.le_of_ble_eq_true rfl) (Nat.le_of_ble_eq_true rfl) (Nat.le_of_ble_eq_true rfl) (fun zx h1 w1 q1 => ?_)
  refine ev_aload_n (pc := 300) dL_law_300 rfl ?_
  refine ev_st2 (pc := 301) q1 (Nat.le_of_ble_eq_true rfl) dL_law_301 kX11_text lL_29 vX11_text rfl w1 rfl rfl (Nat.le_of_ble_eq_true rfl) (Nat.le_of_ble_eq_true rfl) (Nat.le_of_ble_eq_true rfl) (fun h2 i2 => ?_)
  exact ev_icmp_eq (pc := 304) (tgt := 1502) dL_law_304 (by decide) (fun _ => K h2 i2) (fun z => absurd rfl z)
theorem lw_c3 (E : ME) (zq : String) {zb zl zn : Nat} {zs : Nat → Int32} {h : AH} (hE : XOK E) (hX : XSc E zb zl zs) (hz : zl ≤ 3072) (hj : 6 * zn + 5 < zl) (hi : InV zn h) (K : ∀ h2 : AH, InV (zn + 1) h2 → Ev E (mLn zq) room_1 (QXL E zb) 76 16412 1502 [some (.ref 4000), some (.ref 0), some (.ref 49), some (.int (nI (6 * zn)))] [] h2) : Ev E (mLn zq) room_1 (QXL E zb) 76 16412 309 [some (.ref 4000), some (.ref 0), some (.ref 49), some (.int (nI (6 * zn)))] [] h := by
  have hn : zn ≤ 512 := by omega
  refine ev_aload_n (pc := 309) dL_law_309 rfl ?_
  refine ev_st1 (pc := 310) (st_fault E hi) (Nat.le_of_ble_eq_true rfl) dL_law_310 kX10_fault lL_30 vX10_fault rfl hi.1 rfl rfl (Nat.le_of_ble_eq_true rfl) (Nat.le_of_ble_eq_true rfl) (Nat.le_of_ble_eq_true rfl) (fun zx h1 w1 q1 => ?_)
  refine ev_aload_n (pc := 313) dL_law_313 rfl ?_
  refine ev_st2 (pc := 314) q1 (Nat.le_of_ble_eq_true rfl) dL_law_314 kX11_fault lL_33 vX11_fault rfl w1 rfl rfl (Nat.le_of_ble_eq_true rfl) (Nat.le_of_ble_eq_true rfl) (Nat.le_of_ble_eq_true rfl) (fun h2 i2 => ?_)
  exact ev_icmp_eq (pc := 317) (tgt := 1502) dL_law_317 (by decide) (fun _ => K h2 i2) (fun z => absurd rfl z)
theorem lw_c4 (E : ME) (zq : String) {zb zl zn : Nat} {zs : Nat → Int32} {h : AH} (hE : XOK E) (hX : XSc E zb zl zs) (hz : zl ≤ 3072) (hj : 6 * zn + 5 < zl) (hi : InV zn h) (K : ∀ h2 : AH, InV (zn + 1) h2 → Ev E (mLn zq) room_1 (QXL E zb) 76 16412 1502 [some (.ref 4000), some (.ref 0), some (.ref 49), some (.int (nI (6 * zn)))] [] h2) : Ev E (mLn zq) room_1 (QXL E zb) 76 16412 322 [some (.ref 4000), some (.ref 0), some (.ref 49), some (.int (nI (6 * zn)))] [] h := by
  have hn : zn ≤ 512 := by omega
  refine ev_aload_n (pc := 322) dL_law_322 rfl ?_
  refine ev_aload_n (pc := 323) dL_law_323 rfl ?_
  refine ev_iload_n (pc := 324) dL_law_324 rfl ?_
  refine ev_iconst (pc := 325) (v := 1) dL_law_325 (by decide) ?_
  refine ev_iadd (pc := 326) dL_law_326 ?_
  refine ev_eqI (e' := nI (6 * zn + 1)) (show nI (6 * zn) + 1 = nI (6 * zn + 1) from nI_add (6 * zn) 1) ?_
  refine ev_sld (pc := 327) (zj := 6 * zn + 1) hX (by omega) hz dL_law_327 ?_
  refine ev_st1 (pc := 328) (st_told E hi (zs (6 * zn + 1))) (Nat.le_of_ble_eq_true rfl) dL_law_328 kX10_told lL_34 vX10_told rfl hi.1 rfl rfl (Nat.le_of_ble_eq_true rfl) (Nat.le_of_ble_eq_true rfl) (Nat.le_of_ble_eq_true rfl) (fun zx h1 w1 q1 => ?_)
  refine ev_aload_n (pc := 331) dL_law_331 rfl ?_
  refine ev_aload_n (pc := 332) dL_law_332 rfl ?_
  refine ev_iload_n (pc := 333) dL_law_333 rfl ?_
  refine ev_iconst (pc := 334) (v := 1) dL_law_334 (by decide) ?_
  refine ev_iadd (pc := 335) dL_law_335 ?_
  refine ev_eqI (e' := nI (6 * zn + 1)) (show nI (6 * zn) + 1 = nI (6 * zn + 1) from nI_add (6 * zn) 1) ?_
  refine ev_sld (pc := 336) (zj := 6 * zn + 1) hX (by omega) hz dL_law_336 ?_
  refine ev_st2 (pc := 337) q1 (Nat.le_of_ble_eq_true rfl) dL_law_337 kX11_told lL_37 vX11_told rfl w1 rfl rfl (Nat.le_of_ble_eq_true rfl) (Nat.le_of_ble_eq_true rfl) (Nat.le_of_ble_eq_true rfl) (fun h2 i2 => ?_)
  exact ev_icmp_eq (pc := 340) (tgt := 1502) dL_law_340 (by decide) (fun _ => K h2 i2) (fun z => absurd rfl z)
theorem lw_c5 (E : ME) (zq : String) {zb zl zn : Nat} {zs : Nat → Int32} {h : AH} (hE : XOK E) (hX : XSc E zb zl zs) (hz : zl ≤ 3072) (hj : 6 * zn + 5 < zl) (hi : InV zn h) (K : ∀ h2 : AH, InV (zn + 1) h2 → Ev E (mLn zq) room_1 (QXL E zb) 76 16412 1502 [some (.ref 4000), some (.ref 0), some (.ref 49), some (.int (nI (6 * zn)))] [] h2) : Ev E (mLn zq) room_1 (QXL E zb) 76 16412 345 [some (.ref 4000), some (.ref 0), some (.ref 49), some (.int (nI (6 * zn)))] [] h := by
  have hn : zn ≤ 512 := by omega
  refine ev_aload_n (pc := 345) dL_law_345 rfl ?_
  refine ev_aload_n (pc := 346) dL_law_346 rfl ?_
  refine ev_iload_n (pc := 347) dL_law_347 rfl ?_
  refine ev_iconst (pc := 348) (v := 1) dL_law_348 (by decide) ?_
  refine ev_iadd (pc := 349) dL_law_349 ?_
  refine ev_eqI (e' := nI (6 * zn + 1)) (show nI (6 * zn) + 1 = nI (6 * zn + 1) from nI_add (6 * zn) 1) ?_
  refine ev_sld (pc := 350) (zj := 6 * zn + 1) hX (by omega) hz dL_law_350 ?_
  refine ev_aload_n (pc := 351) dL_law_351 rfl ?_
  refine ev_iload_n (pc := 352) dL_law_352 rfl ?_
  refine ev_iconst (pc := 353) (v := 2) dL_law_353 (by decide) ?_
  refine ev_iadd (pc := 354) dL_law_354 ?_
  refine ev_eqI (e' := nI (6 * zn + 2)) (show nI (6 * zn) + 2 = nI (6 * zn + 2) from nI_add (6 * zn) 2) ?_
  refine ev_sld (pc := 355) (zj := 6 * zn + 2) hX (by omega) hz dL_law_355 ?_
  refine ev_st1 (pc := 356) (st_thing E hi (zs (6 * zn + 1)) (zs (6 * zn + 2))) (Nat.le_of_ble_eq_true rfl) dL_law_356 kX10_thing lL_38 vX10_thing rfl hi.1 rfl rfl (Nat.le_of_ble_eq_true rfl) (Nat.le_of_ble_eq_true rfl) (Nat.le_of_ble_eq_true rfl) (fun zx h1 w1 q1 => ?_)
  refine ev_aload_n (pc := 359) dL_law_359 rfl ?_
  refine ev_aload_n (pc := 360) dL_law_360 rfl ?_
  refine ev_iload_n (pc := 361) dL_law_361 rfl ?_
  refine ev_iconst (pc := 362) (v := 1) dL_law_362 (by decide) ?_
  refine ev_iadd (pc := 363) dL_law_363 ?_
  refine ev_eqI (e' := nI (6 * zn + 1)) (show nI (6 * zn) + 1 = nI (6 * zn + 1) from nI_add (6 * zn) 1) ?_
  refine ev_sld (pc := 364) (zj := 6 * zn + 1) hX (by omega) hz dL_law_364 ?_
  refine ev_aload_n (pc := 365) dL_law_365 rfl ?_
  refine ev_iload_n (pc := 366) dL_law_366 rfl ?_
  refine ev_iconst (pc := 367) (v := 2) dL_law_367 (by decide) ?_
  refine ev_iadd (pc := 368) dL_law_368 ?_
  refine ev_eqI (e' := nI (6 * zn + 2)) (show nI (6 * zn) + 2 = nI (6 * zn + 2) from nI_add (6 * zn) 2) ?_
  refine ev_sld (pc := 369) (zj := 6 * zn + 2) hX (by omega) hz dL_law_369 ?_
  refine ev_st2 (pc := 370) q1 (Nat.le_of_ble_eq_true rfl) dL_law_370 kX11_thing lL_42 vX11_thing rfl w1 rfl rfl (Nat.le_of_ble_eq_true rfl) (Nat.le_of_ble_eq_true rfl) (Nat.le_of_ble_eq_true rfl) (fun h2 i2 => ?_)
  exact ev_icmp_eq (pc := 373) (tgt := 1502) dL_law_373 (by decide) (fun _ => K h2 i2) (fun z => absurd rfl z)
theorem lw_c6 (E : ME) (zq : String) {zb zl zn : Nat} {zs : Nat → Int32} {h : AH} (hE : XOK E) (hX : XSc E zb zl zs) (hz : zl ≤ 3072) (hj : 6 * zn + 5 < zl) (hi : InV zn h) (K : ∀ h2 : AH, InV (zn + 1) h2 → Ev E (mLn zq) room_1 (QXL E zb) 76 16412 1502 [some (.ref 4000), some (.ref 0), some (.ref 49), some (.int (nI (6 * zn)))] [] h2) : Ev E (mLn zq) room_1 (QXL E zb) 76 16412 378 [some (.ref 4000), some (.ref 0), some (.ref 49), some (.int (nI (6 * zn)))] [] h := by
  have hn : zn ≤ 512 := by omega
  refine ev_aload_n (pc := 378) dL_law_378 rfl ?_
  refine ev_aload_n (pc := 379) dL_law_379 rfl ?_
  refine ev_iload_n (pc := 380) dL_law_380 rfl ?_
  refine ev_iconst (pc := 381) (v := 1) dL_law_381 (by decide) ?_
  refine ev_iadd (pc := 382) dL_law_382 ?_
  refine ev_eqI (e' := nI (6 * zn + 1)) (show nI (6 * zn) + 1 = nI (6 * zn + 1) from nI_add (6 * zn) 1) ?_
  refine ev_sld (pc := 383) (zj := 6 * zn + 1) hX (by omega) hz dL_law_383 ?_
  refine ev_aload_n (pc := 384) dL_law_384 rfl ?_
  refine ev_iload_n (pc := 385) dL_law_385 rfl ?_
  refine ev_iconst (pc := 386) (v := 2) dL_law_386 (by decide) ?_
  refine ev_iadd (pc := 387) dL_law_387 ?_
  refine ev_eqI (e' := nI (6 * zn + 2)) (show nI (6 * zn) + 2 = nI (6 * zn + 2) from nI_add (6 * zn) 2) ?_
  refine ev_sld (pc := 388) (zj := 6 * zn + 2) hX (by omega) hz dL_law_388 ?_
  refine ev_aload_n (pc := 389) dL_law_389 rfl ?_
  refine ev_iload_n (pc := 390) dL_law_390 rfl ?_
  refine ev_iconst (pc := 391) (v := 3) dL_law_391 (by decide) ?_
  refine ev_iadd (pc := 392) dL_law_392 ?_
  refine ev_eqI (e' := nI (6 * zn + 3)) (show nI (6 * zn) + 3 = nI (6 * zn + 3) from nI_add (6 * zn) 3) ?_
  refine ev_sld (pc := 393) (zj := 6 * zn + 3) hX (by omega) hz dL_law_393 ?_
  refine ev_st1 (pc := 394) (st_pattern E hi (zs (6 * zn + 1)) (zs (6 * zn + 2)) (zs (6 * zn + 3))) (Nat.le_of_ble_eq_true rfl) dL_law_394 kX10_pattern lL_43 vX10_pattern rfl hi.1 rfl rfl (Nat.le_of_ble_eq_true rfl) (Nat.le_of_ble_eq_true rfl) (Nat.le_of_ble_eq_true rfl) (fun zx h1 w1 q1 => ?_)
  refine ev_aload_n (pc := 397) dL_law_397 rfl ?_
  refine ev_aload_n (pc := 398) dL_law_398 rfl ?_
  refine ev_iload_n (pc := 399) dL_law_399 rfl ?_
  refine ev_iconst (pc := 400) (v := 1) dL_law_400 (by decide) ?_
  refine ev_iadd (pc := 401) dL_law_401 ?_
  refine ev_eqI (e' := nI (6 * zn + 1)) (show nI (6 * zn) + 1 = nI (6 * zn + 1) from nI_add (6 * zn) 1) ?_
  refine ev_sld (pc := 402) (zj := 6 * zn + 1) hX (by omega) hz dL_law_402 ?_
  refine ev_aload_n (pc := 403) dL_law_403 rfl ?_
  refine ev_iload_n (pc := 404) dL_law_404 rfl ?_
  refine ev_iconst (pc := 405) (v := 2) dL_law_405 (by decide) ?_
  refine ev_iadd (pc := 406) dL_law_406 ?_
  refine ev_eqI (e' := nI (6 * zn + 2)) (show nI (6 * zn) + 2 = nI (6 * zn + 2) from nI_add (6 * zn) 2) ?_
  refine ev_sld (pc := 407) (zj := 6 * zn + 2) hX (by omega) hz dL_law_407 ?_
  refine ev_aload_n (pc := 408) dL_law_408 rfl ?_
  refine ev_iload_n (pc := 409) dL_law_409 rfl ?_
  refine ev_iconst (pc := 410) (v := 3) dL_law_410 (by decide) ?_
  refine ev_iadd (pc := 411) dL_law_411 ?_
  refine ev_eqI (e' := nI (6 * zn + 3)) (show nI (6 * zn) + 3 = nI (6 * zn + 3) from nI_add (6 * zn) 3) ?_
  refine ev_sld (pc := 412) (zj := 6 * zn + 3) hX (by omega) hz dL_law_412 ?_
  refine ev_st2 (pc := 413) q1 (Nat.le_of_ble_eq_true rfl) dL_law_413 kX11_pattern lL_47 vX11_pattern rfl w1 rfl rfl (Nat.le_of_ble_eq_true rfl) (Nat.le_of_ble_eq_true rfl) (Nat.le_of_ble_eq_true rfl) (fun h2 i2 => ?_)
  exact ev_icmp_eq (pc := 416) (tgt := 1502) dL_law_416 (by decide) (fun _ => K h2 i2) (fun z => absurd rfl z)
theorem lw_c7 (E : ME) (zq : String) {zb zl zn : Nat} {zs : Nat → Int32} {h : AH} (hE : XOK E) (hX : XSc E zb zl zs) (hz : zl ≤ 3072) (hj : 6 * zn + 5 < zl) (hi : InV zn h) (K : ∀ h2 : AH, InV (zn + 1) h2 → Ev E (mLn zq) room_1 (QXL E zb) 76 16412 1502 [some (.ref 4000), some (.ref 0), some (.ref 49), some (.int (nI (6 * zn)))] [] h2) : Ev E (mLn zq) room_1 (QXL E zb) 76 16412 421 [some (.ref 4000), some (.ref 0), some (.ref 49), some (.int (nI (6 * zn)))] [] h := by
  have hn : zn ≤ 512 := by omega
  refine ev_aload_n (pc := 421) dL_law_421 rfl ?_
  refine ev_aload_n (pc := 422) dL_law_422 rfl ?_
  refine ev_iload_n (pc := 423) dL_law_423 rfl ?_
  refine ev_iconst (pc := 424) (v := 1) dL_law_424 (by decide) ?_
  refine ev_iadd (pc := 425) dL_law_425 ?_
  refine ev_eqI (e' := nI (6 * zn + 1)) (show nI (6 * zn) + 1 = nI (6 * zn + 1) from nI_add (6 * zn) 1) ?_
  refine ev_sld (pc := 426) (zj := 6 * zn + 1) hX (by omega) hz dL_law_426 ?_
  refine ev_aload_n (pc := 427) dL_law_427 rfl ?_
  refine ev_iload_n (pc := 428) dL_law_428 rfl ?_
  refine ev_iconst (pc := 429) (v := 2) dL_law_429 (by decide) ?_
  refine ev_iadd (pc := 430) dL_law_430 ?_
  refine ev_eqI (e' := nI (6 * zn + 2)) (show nI (6 * zn) + 2 = nI (6 * zn + 2) from nI_add (6 * zn) 2) ?_
  refine ev_sld (pc := 431) (zj := 6 * zn + 2) hX (by omega) hz dL_law_431 ?_
  refine ev_st1 (pc := 432) (st_put E hi hn (zs (6 * zn + 1)) (zs (6 * zn + 2))) (Nat.le_of_ble_eq_true rfl) dL_law_432 kX10_put lL_48 vX10_put rfl hi.1 rfl rfl (Nat.le_of_ble_eq_true rfl) (Nat.le_of_ble_eq_true rfl) (Nat.le_of_ble_eq_true rfl) (fun zx h1 w1 q1 => ?_)
  refine ev_aload_n (pc := 435) dL_law_435 rfl ?_
  refine ev_aload_n (pc := 436) dL_law_436 rfl ?_
  refine ev_iload_n (pc := 437) dL_law_437 rfl ?_
  refine ev_iconst (pc := 438) (v := 1) dL_law_438 (by decide) ?_
  refine ev_iadd (pc := 439) dL_law_439 ?_
  refine ev_eqI (e' := nI (6 * zn + 1)) (show nI (6 * zn) + 1 = nI (6 * zn + 1) from nI_add (6 * zn) 1) ?_
  refine ev_sld (pc := 440) (zj := 6 * zn + 1) hX (by omega) hz dL_law_440 ?_
  refine ev_aload_n (pc := 441) dL_law_441 rfl ?_
  refine ev_iload_n (pc := 442) dL_law_442 rfl ?_
  refine ev_iconst (pc := 443) (v := 2) dL_law_443 (by decide) ?_
  refine ev_iadd (pc := 444) dL_law_444 ?_
  refine ev_eqI (e' := nI (6 * zn + 2)) (show nI (6 * zn) + 2 = nI (6 * zn + 2) from nI_add (6 * zn) 2) ?_
  refine ev_sld (pc := 445) (zj := 6 * zn + 2) hX (by omega) hz dL_law_445 ?_
  refine ev_st2 (pc := 446) q1 (Nat.le_of_ble_eq_true rfl) dL_law_446 kX11_put lL_51 vX11_put rfl w1 rfl rfl (Nat.le_of_ble_eq_true rfl) (Nat.le_of_ble_eq_true rfl) (Nat.le_of_ble_eq_true rfl) (fun h2 i2 => ?_)
  exact ev_icmp_eq (pc := 449) (tgt := 1502) dL_law_449 (by decide) (fun _ => K h2 i2) (fun z => absurd rfl z)
theorem lw_c8 (E : ME) (zq : String) {zb zl zn : Nat} {zs : Nat → Int32} {h : AH} (hE : XOK E) (hX : XSc E zb zl zs) (hz : zl ≤ 3072) (hj : 6 * zn + 5 < zl) (hi : InV zn h) (K : ∀ h2 : AH, InV (zn + 1) h2 → Ev E (mLn zq) room_1 (QXL E zb) 76 16412 1502 [some (.ref 4000), some (.ref 0), some (.ref 49), some (.int (nI (6 * zn)))] [] h2) : Ev E (mLn zq) room_1 (QXL E zb) 76 16412 454 [some (.ref 4000), some (.ref 0), some (.ref 49), some (.int (nI (6 * zn)))] [] h := by
  have hn : zn ≤ 512 := by omega
  refine ev_aload_n (pc := 454) dL_law_454 rfl ?_
  refine ev_aload_n (pc := 455) dL_law_455 rfl ?_
  refine ev_iload_n (pc := 456) dL_law_456 rfl ?_
  refine ev_iconst (pc := 457) (v := 1) dL_law_457 (by decide) ?_
  refine ev_iadd (pc := 458) dL_law_458 ?_
  refine ev_eqI (e' := nI (6 * zn + 1)) (show nI (6 * zn) + 1 = nI (6 * zn + 1) from nI_add (6 * zn) 1) ?_
  refine ev_sld (pc := 459) (zj := 6 * zn + 1) hX (by omega) hz dL_law_459 ?_
  refine ev_st1 (pc := 460) (st_at E hi (zs (6 * zn + 1))) (Nat.le_of_ble_eq_true rfl) dL_law_460 kX10_at lL_52 vX10_at rfl hi.1 rfl rfl (Nat.le_of_ble_eq_true rfl) (Nat.le_of_ble_eq_true rfl) (Nat.le_of_ble_eq_true rfl) (fun zx h1 w1 q1 => ?_)
  refine ev_aload_n (pc := 463) dL_law_463 rfl ?_
  refine ev_aload_n (pc := 464) dL_law_464 rfl ?_
  refine ev_iload_n (pc := 465) dL_law_465 rfl ?_
  refine ev_iconst (pc := 466) (v := 1) dL_law_466 (by decide) ?_
  refine ev_iadd (pc := 467) dL_law_467 ?_
  refine ev_eqI (e' := nI (6 * zn + 1)) (show nI (6 * zn) + 1 = nI (6 * zn + 1) from nI_add (6 * zn) 1) ?_
  refine ev_sld (pc := 468) (zj := 6 * zn + 1) hX (by omega) hz dL_law_468 ?_
  refine ev_st2 (pc := 469) q1 (Nat.le_of_ble_eq_true rfl) dL_law_469 kX11_at lL_55 vX11_at rfl w1 rfl rfl (Nat.le_of_ble_eq_true rfl) (Nat.le_of_ble_eq_true rfl) (Nat.le_of_ble_eq_true rfl) (fun h2 i2 => ?_)
  exact ev_icmp_eq (pc := 472) (tgt := 1502) dL_law_472 (by decide) (fun _ => K h2 i2) (fun z => absurd rfl z)
theorem lw_c9 (E : ME) (zq : String) {zb zl zn : Nat} {zs : Nat → Int32} {h : AH} (hE : XOK E) (hX : XSc E zb zl zs) (hz : zl ≤ 3072) (hj : 6 * zn + 5 < zl) (hi : InV zn h) (K : ∀ h2 : AH, InV (zn + 1) h2 → Ev E (mLn zq) room_1 (QXL E zb) 76 16412 1502 [some (.ref 4000), some (.ref 0), some (.ref 49), some (.int (nI (6 * zn)))] [] h2) : Ev E (mLn zq) room_1 (QXL E zb) 76 16412 477 [some (.ref 4000), some (.ref 0), some (.ref 49), some (.int (nI (6 * zn)))] [] h := by
  have hn : zn ≤ 512 := by omega
  refine ev_aload_n (pc := 477) dL_law_477 rfl ?_
  refine ev_aload_n (pc := 478) dL_law_478 rfl ?_
  refine ev_iload_n (pc := 479) dL_law_479 rfl ?_
  refine ev_iconst (pc := 480) (v := 1) dL_law_480 (by decide) ?_
  refine ev_iadd (pc := 481) dL_law_481 ?_
  refine ev_eqI (e' := nI (6 * zn + 1)) (show nI (6 * zn) + 1 = nI (6 * zn + 1) from nI_add (6 * zn) 1) ?_
  refine ev_sld (pc := 482) (zj := 6 * zn + 1) hX (by omega) hz dL_law_482 ?_
  refine ev_aload_n (pc := 483) dL_law_483 rfl ?_
  refine ev_iload_n (pc := 484) dL_law_484 rfl ?_
  refine ev_iconst (pc := 485) (v := 2) dL_law_485 (by decide) ?_
  refine ev_iadd (pc := 486) dL_law_486 ?_
  refine ev_eqI (e' := nI (6 * zn + 2)) (show nI (6 * zn) + 2 = nI (6 * zn + 2) from nI_add (6 * zn) 2) ?_
  refine ev_sld (pc := 487) (zj := 6 * zn + 2) hX (by omega) hz dL_law_487 ?_
  refine ev_aload_n (pc := 488) dL_law_488 rfl ?_
  refine ev_iload_n (pc := 489) dL_law_489 rfl ?_
  refine ev_iconst (pc := 490) (v := 3) dL_law_490 (by decide) ?_
  refine ev_iadd (pc := 491) dL_law_491 ?_
  refine ev_eqI (e' := nI (6 * zn + 3)) (show nI (6 * zn) + 3 = nI (6 * zn + 3) from nI_add (6 * zn) 3) ?_
  refine ev_sld (pc := 492) (zj := 6 * zn + 3) hX (by omega) hz dL_law_492 ?_
  refine ev_aload_n (pc := 493) dL_law_493 rfl ?_
  refine ev_iload_n (pc := 494) dL_law_494 rfl ?_
  refine ev_iconst (pc := 495) (v := 4) dL_law_495 (by decide) ?_
  refine ev_iadd (pc := 496) dL_law_496 ?_
  refine ev_eqI (e' := nI (6 * zn + 4)) (show nI (6 * zn) + 4 = nI (6 * zn + 4) from nI_add (6 * zn) 4) ?_
  refine ev_sld (pc := 497) (zj := 6 * zn + 4) hX (by omega) hz dL_law_497 ?_
  refine ev_st1 (pc := 498) (st_lay E hi hn (zs (6 * zn + 1)) (zs (6 * zn + 2)) (zs (6 * zn + 3)) (zs (6 * zn + 4))) (Nat.le_of_ble_eq_true rfl) dL_law_498 kX10_lay lL_56 vX10_lay rfl hi.1 rfl rfl (Nat.le_of_ble_eq_true rfl) (Nat.le_of_ble_eq_true rfl) (Nat.le_of_ble_eq_true rfl) (fun zx h1 w1 q1 => ?_)
  refine ev_aload_n (pc := 501) dL_law_501 rfl ?_
  refine ev_aload_n (pc := 502) dL_law_502 rfl ?_
  refine ev_iload_n (pc := 503) dL_law_503 rfl ?_
  refine ev_iconst (pc := 504) (v := 1) dL_law_504 (by decide) ?_
  refine ev_iadd (pc := 505) dL_law_505 ?_
  refine ev_eqI (e' := nI (6 * zn + 1)) (show nI (6 * zn) + 1 = nI (6 * zn + 1) from nI_add (6 * zn) 1) ?_
  refine ev_sld (pc := 506) (zj := 6 * zn + 1) hX (by omega) hz dL_law_506 ?_
  refine ev_aload_n (pc := 507) dL_law_507 rfl ?_
  refine ev_iload_n (pc := 508) dL_law_508 rfl ?_
  refine ev_iconst (pc := 509) (v := 2) dL_law_509 (by decide) ?_
  refine ev_iadd (pc := 510) dL_law_510 ?_
  refine ev_eqI (e' := nI (6 * zn + 2)) (show nI (6 * zn) + 2 = nI (6 * zn + 2) from nI_add (6 * zn) 2) ?_
  refine ev_sld (pc := 511) (zj := 6 * zn + 2) hX (by omega) hz dL_law_511 ?_
  refine ev_aload_n (pc := 512) dL_law_512 rfl ?_
  refine ev_iload_n (pc := 513) dL_law_513 rfl ?_
  refine ev_iconst (pc := 514) (v := 3) dL_law_514 (by decide) ?_
  refine ev_iadd (pc := 515) dL_law_515 ?_
  refine ev_eqI (e' := nI (6 * zn + 3)) (show nI (6 * zn) + 3 = nI (6 * zn + 3) from nI_add (6 * zn) 3) ?_
  refine ev_sld (pc := 516) (zj := 6 * zn + 3) hX (by omega) hz dL_law_516 ?_
  refine ev_aload_n (pc := 517) dL_law_517 rfl ?_
  refine ev_iload_n (pc := 518) dL_law_518 rfl ?_
  refine ev_iconst (pc := 519) (v := 4) dL_law_519 (by decide) ?_
  refine ev_iadd (pc := 520) dL_law_520 ?_
  refine ev_eqI (e' := nI (6 * zn + 4)) (show nI (6 * zn) + 4 = nI (6 * zn + 4) from nI_add (6 * zn) 4) ?_
  refine ev_sld (pc := 521) (zj := 6 * zn + 4) hX (by omega) hz dL_law_521 ?_
  refine ev_st2 (pc := 522) q1 (Nat.le_of_ble_eq_true rfl) dL_law_522 kX11_lay lL_60 vX11_lay rfl w1 rfl rfl (Nat.le_of_ble_eq_true rfl) (Nat.le_of_ble_eq_true rfl) (Nat.le_of_ble_eq_true rfl) (fun h2 i2 => ?_)
  exact ev_icmp_eq (pc := 525) (tgt := 1502) dL_law_525 (by decide) (fun _ => K h2 i2) (fun z => absurd rfl z)
theorem lw_c10 (E : ME) (zq : String) {zb zl zn : Nat} {zs : Nat → Int32} {h : AH} (hE : XOK E) (hX : XSc E zb zl zs) (hz : zl ≤ 3072) (hj : 6 * zn + 5 < zl) (hi : InV zn h) (K : ∀ h2 : AH, InV (zn + 1) h2 → Ev E (mLn zq) room_1 (QXL E zb) 76 16412 1502 [some (.ref 4000), some (.ref 0), some (.ref 49), some (.int (nI (6 * zn)))] [] h2) : Ev E (mLn zq) room_1 (QXL E zb) 76 16412 530 [some (.ref 4000), some (.ref 0), some (.ref 49), some (.int (nI (6 * zn)))] [] h := by
  have hn : zn ≤ 512 := by omega
  refine ev_aload_n (pc := 530) dL_law_530 rfl ?_
  refine ev_aload_n (pc := 531) dL_law_531 rfl ?_
  refine ev_iload_n (pc := 532) dL_law_532 rfl ?_
  refine ev_iconst (pc := 533) (v := 1) dL_law_533 (by decide) ?_
  refine ev_iadd (pc := 534) dL_law_534 ?_
  refine ev_eqI (e' := nI (6 * zn + 1)) (show nI (6 * zn) + 1 = nI (6 * zn + 1) from nI_add (6 * zn) 1) ?_
  refine ev_sld (pc := 535) (zj := 6 * zn + 1) hX (by omega) hz dL_law_535 ?_
  refine ev_aload_n (pc := 536) dL_law_536 rfl ?_
  refine ev_iload_n (pc := 537) dL_law_537 rfl ?_
  refine ev_iconst (pc := 538) (v := 2) dL_law_538 (by decide) ?_
  refine ev_iadd (pc := 539) dL_law_539 ?_
  refine ev_eqI (e' := nI (6 * zn + 2)) (show nI (6 * zn) + 2 = nI (6 * zn + 2) from nI_add (6 * zn) 2) ?_
  refine ev_sld (pc := 540) (zj := 6 * zn + 2) hX (by omega) hz dL_law_540 ?_
  refine ev_st1 (pc := 541) (st_ahead E hi (zs (6 * zn + 1)) (zs (6 * zn + 2))) (Nat.le_of_ble_eq_true rfl) dL_law_541 kX10_ahead lL_61 vX10_ahead rfl hi.1 rfl rfl (Nat.le_of_ble_eq_true rfl) (Nat.le_of_ble_eq_true rfl) (Nat.le_of_ble_eq_true rfl) (fun zx h1 w1 q1 => ?_)
  refine ev_aload_n (pc := 544) dL_law_544 rfl ?_
  refine ev_aload_n (pc := 545) dL_law_545 rfl ?_
  refine ev_iload_n (pc := 546) dL_law_546 rfl ?_
  refine ev_iconst (pc := 547) (v := 1) dL_law_547 (by decide) ?_
  refine ev_iadd (pc := 548) dL_law_548 ?_
  refine ev_eqI (e' := nI (6 * zn + 1)) (show nI (6 * zn) + 1 = nI (6 * zn + 1) from nI_add (6 * zn) 1) ?_
  refine ev_sld (pc := 549) (zj := 6 * zn + 1) hX (by omega) hz dL_law_549 ?_
  refine ev_aload_n (pc := 550) dL_law_550 rfl ?_
  refine ev_iload_n (pc := 551) dL_law_551 rfl ?_
  refine ev_iconst (pc := 552) (v := 2) dL_law_552 (by decide) ?_
  refine ev_iadd (pc := 553) dL_law_553 ?_
  refine ev_eqI (e' := nI (6 * zn + 2)) (show nI (6 * zn) + 2 = nI (6 * zn + 2) from nI_add (6 * zn) 2) ?_
  refine ev_sld (pc := 554) (zj := 6 * zn + 2) hX (by omega) hz dL_law_554 ?_
  refine ev_st2 (pc := 555) q1 (Nat.le_of_ble_eq_true rfl) dL_law_555 kX11_ahead lL_64 vX11_ahead rfl w1 rfl rfl (Nat.le_of_ble_eq_true rfl) (Nat.le_of_ble_eq_true rfl) (Nat.le_of_ble_eq_true rfl) (fun h2 i2 => ?_)
  exact ev_icmp_eq (pc := 558) (tgt := 1502) dL_law_558 (by decide) (fun _ => K h2 i2) (fun z => absurd rfl z)
theorem lw_c11 (E : ME) (zq : String) {zb zl zn : Nat} {zs : Nat → Int32} {h : AH} (hE : XOK E) (hX : XSc E zb zl zs) (hz : zl ≤ 3072) (hj : 6 * zn + 5 < zl) (hi : InV zn h) (K : ∀ h2 : AH, InV (zn + 1) h2 → Ev E (mLn zq) room_1 (QXL E zb) 76 16412 1502 [some (.ref 4000), some (.ref 0), some (.ref 49), some (.int (nI (6 * zn)))] [] h2) : Ev E (mLn zq) room_1 (QXL E zb) 76 16412 563 [some (.ref 4000), some (.ref 0), some (.ref 49), some (.int (nI (6 * zn)))] [] h := by
  have hn : zn ≤ 512 := by omega
  refine ev_aload_n (pc := 563) dL_law_563 rfl ?_
  refine ev_aload_n (pc := 564) dL_law_564 rfl ?_
  refine ev_iload_n (pc := 565) dL_law_565 rfl ?_
  refine ev_iconst (pc := 566) (v := 1) dL_law_566 (by decide) ?_
  refine ev_iadd (pc := 567) dL_law_567 ?_
  refine ev_eqI (e' := nI (6 * zn + 1)) (show nI (6 * zn) + 1 = nI (6 * zn + 1) from nI_add (6 * zn) 1) ?_
  refine ev_sld (pc := 568) (zj := 6 * zn + 1) hX (by omega) hz dL_law_568 ?_
  refine ev_st1 (pc := 569) (st_rings E hi (zs (6 * zn + 1))) (Nat.le_of_ble_eq_true rfl) dL_law_569 kX10_rings lL_65 vX10_rings rfl hi.1 rfl rfl (Nat.le_of_ble_eq_true rfl) (Nat.le_of_ble_eq_true rfl) (Nat.le_of_ble_eq_true rfl) (fun zx h1 w1 q1 => ?_)
  refine ev_aload_n (pc := 572) dL_law_572 rfl ?_
  refine ev_aload_n (pc := 573) dL_law_573 rfl ?_
  refine ev_iload_n (pc := 574) dL_law_574 rfl ?_
  refine ev_iconst (pc := 575) (v := 1) dL_law_575 (by decide) ?_
  refine ev_iadd (pc := 576) dL_law_576 ?_
  refine ev_eqI (e' := nI (6 * zn + 1)) (show nI (6 * zn) + 1 = nI (6 * zn + 1) from nI_add (6 * zn) 1) ?_
  refine ev_sld (pc := 577) (zj := 6 * zn + 1) hX (by omega) hz dL_law_577 ?_
  refine ev_st2 (pc := 578) q1 (Nat.le_of_ble_eq_true rfl) dL_law_578 kX11_rings lL_68 vX11_rings rfl w1 rfl rfl (Nat.le_of_ble_eq_true rfl) (Nat.le_of_ble_eq_true rfl) (Nat.le_of_ble_eq_true rfl) (fun h2 i2 => ?_)
  exact ev_icmp_eq (pc := 581) (tgt := 1502) dL_law_581 (by decide) (fun _ => K h2 i2) (fun z => absurd rfl z)
theorem lw_c12 (E : ME) (zq : String) {zb zl zn : Nat} {zs : Nat → Int32} {h : AH} (hE : XOK E) (hX : XSc E zb zl zs) (hz : zl ≤ 3072) (hj : 6 * zn + 5 < zl) (hi : InV zn h) (K : ∀ h2 : AH, InV (zn + 1) h2 → Ev E (mLn zq) room_1 (QXL E zb) 76 16412 1502 [some (.ref 4000), some (.ref 0), some (.ref 49), some (.int (nI (6 * zn)))] [] h2) : Ev E (mLn zq) room_1 (QXL E zb) 76 16412 586 [some (.ref 4000), some (.ref 0), some (.ref 49), some (.int (nI (6 * zn)))] [] h := by
  have hn : zn ≤ 512 := by omega
  refine ev_aload_n (pc := 586) dL_law_586 rfl ?_
  refine ev_aload_n (pc := 587) dL_law_587 rfl ?_
  refine ev_iload_n (pc := 588) dL_law_588 rfl ?_
  refine ev_iconst (pc := 589) (v := 1) dL_law_589 (by decide) ?_
  refine ev_iadd (pc := 590) dL_law_590 ?_
  refine ev_eqI (e' := nI (6 * zn + 1)) (show nI (6 * zn) + 1 = nI (6 * zn + 1) from nI_add (6 * zn) 1) ?_
  refine ev_sld (pc := 591) (zj := 6 * zn + 1) hX (by omega) hz dL_law_591 ?_
  refine ev_aload_n (pc := 592) dL_law_592 rfl ?_
  refine ev_iload_n (pc := 593) dL_law_593 rfl ?_
  refine ev_iconst (pc := 594) (v := 2) dL_law_594 (by decide) ?_
  refine ev_iadd (pc := 595) dL_law_595 ?_
  refine ev_eqI (e' := nI (6 * zn + 2)) (show nI (6 * zn) + 2 = nI (6 * zn + 2) from nI_add (6 * zn) 2) ?_
  refine ev_sld (pc := 596) (zj := 6 * zn + 2) hX (by omega) hz dL_law_596 ?_
  refine ev_st1 (pc := 597) (st_rank E hi (zs (6 * zn + 1)) (zs (6 * zn + 2))) (Nat.le_of_ble_eq_true rfl) dL_law_597 kX10_rank lL_69 vX10_rank rfl hi.1 rfl rfl (Nat.le_of_ble_eq_true rfl) (Nat.le_of_ble_eq_true rfl) (Nat.le_of_ble_eq_true rfl) (fun zx h1 w1 q1 => ?_)
  refine ev_aload_n (pc := 600) dL_law_600 rfl ?_
  refine ev_aload_n (pc := 601) dL_law_601 rfl ?_
  refine ev_iload_n (pc := 602) dL_law_602 rfl ?_
  refine ev_iconst (pc := 603) (v := 1) dL_law_603 (by decide) ?_
  refine ev_iadd (pc := 604) dL_law_604 ?_
  refine ev_eqI (e' := nI (6 * zn + 1)) (show nI (6 * zn) + 1 = nI (6 * zn + 1) from nI_add (6 * zn) 1) ?_
  refine ev_sld (pc := 605) (zj := 6 * zn + 1) hX (by omega) hz dL_law_605 ?_
  refine ev_aload_n (pc := 606) dL_law_606 rfl ?_
  refine ev_iload_n (pc := 607) dL_law_607 rfl ?_
  refine ev_iconst (pc := 608) (v := 2) dL_law_608 (by decide) ?_
  refine ev_iadd (pc := 609) dL_law_609 ?_
  refine ev_eqI (e' := nI (6 * zn + 2)) (show nI (6 * zn) + 2 = nI (6 * zn + 2) from nI_add (6 * zn) 2) ?_
  refine ev_sld (pc := 610) (zj := 6 * zn + 2) hX (by omega) hz dL_law_610 ?_
  refine ev_st2 (pc := 611) q1 (Nat.le_of_ble_eq_true rfl) dL_law_611 kX11_rank lL_72 vX11_rank rfl w1 rfl rfl (Nat.le_of_ble_eq_true rfl) (Nat.le_of_ble_eq_true rfl) (Nat.le_of_ble_eq_true rfl) (fun h2 i2 => ?_)
  exact ev_icmp_eq (pc := 614) (tgt := 1502) dL_law_614 (by decide) (fun _ => K h2 i2) (fun z => absurd rfl z)
theorem lw_c13 (E : ME) (zq : String) {zb zl zn : Nat} {zs : Nat → Int32} {h : AH} (hE : XOK E) (hX : XSc E zb zl zs) (hz : zl ≤ 3072) (hj : 6 * zn + 5 < zl) (hi : InV zn h) (K : ∀ h2 : AH, InV (zn + 1) h2 → Ev E (mLn zq) room_1 (QXL E zb) 76 16412 1502 [some (.ref 4000), some (.ref 0), some (.ref 49), some (.int (nI (6 * zn)))] [] h2) : Ev E (mLn zq) room_1 (QXL E zb) 76 16412 619 [some (.ref 4000), some (.ref 0), some (.ref 49), some (.int (nI (6 * zn)))] [] h := by
  have hn : zn ≤ 512 := by omega
  refine ev_aload_n (pc := 619) dL_law_619 rfl ?_
  refine ev_sj1 (pc := 620) (st_orders E hi) (Nat.le_of_ble_eq_true rfl) dL_law_620 kX10_orders lL_73 vX10_orders rfl hi.1 rfl rfl (Nat.le_of_ble_eq_true rfl) (Nat.le_of_ble_eq_true rfl) (Nat.le_of_ble_eq_true rfl) (fun zx h1 w1 q1 => ?_)
  refine ev_aload_n (pc := 623) dL_law_623 rfl ?_
  refine ev_sj2 (pc := 624) q1 (Nat.le_of_ble_eq_true rfl) dL_law_624 kX11_orders lL_77 vX11_orders rfl w1 rfl rfl (Nat.le_of_ble_eq_true rfl) (Nat.le_of_ble_eq_true rfl) (Nat.le_of_ble_eq_true rfl) (fun h2 i2 => ?_)
  refine ev_lcmp (pc := 627) dL_law_627 ?_
  exact ev_if_eq (pc := 628) (tgt := 1502) dL_law_628 (by decide) (fun _ => K h2 i2) (fun z => absurd ((lc_eq zx zx).mpr rfl) z)
theorem lw_c14 (E : ME) (zq : String) {zb zl zn : Nat} {zs : Nat → Int32} {h : AH} (hE : XOK E) (hX : XSc E zb zl zs) (hz : zl ≤ 3072) (hj : 6 * zn + 5 < zl) (hi : InV zn h) (K : ∀ h2 : AH, InV (zn + 1) h2 → Ev E (mLn zq) room_1 (QXL E zb) 76 16412 1502 [some (.ref 4000), some (.ref 0), some (.ref 49), some (.int (nI (6 * zn)))] [] h2) : Ev E (mLn zq) room_1 (QXL E zb) 76 16412 633 [some (.ref 4000), some (.ref 0), some (.ref 49), some (.int (nI (6 * zn)))] [] h := by
  have hn : zn ≤ 512 := by omega
  refine ev_aload_n (pc := 633) dL_law_633 rfl ?_
  refine ev_aload_n (pc := 634) dL_law_634 rfl ?_
  refine ev_iload_n (pc := 635) dL_law_635 rfl ?_
  refine ev_iconst (pc := 636) (v := 1) dL_law_636 (by decide) ?_
  refine ev_iadd (pc := 637) dL_law_637 ?_
  refine ev_eqI (e' := nI (6 * zn + 1)) (show nI (6 * zn) + 1 = nI (6 * zn + 1) from nI_add (6 * zn) 1) ?_
  refine ev_sld (pc := 638) (zj := 6 * zn + 1) hX (by omega) hz dL_law_638 ?_
  refine ev_aload_n (pc := 639) dL_law_639 rfl ?_
  refine ev_iload_n (pc := 640) dL_law_640 rfl ?_
  refine ev_iconst (pc := 641) (v := 2) dL_law_641 (by decide) ?_
  refine ev_iadd (pc := 642) dL_law_642 ?_
  refine ev_eqI (e' := nI (6 * zn + 2)) (show nI (6 * zn) + 2 = nI (6 * zn + 2) from nI_add (6 * zn) 2) ?_
  refine ev_sld (pc := 643) (zj := 6 * zn + 2) hX (by omega) hz dL_law_643 ?_
  refine ev_aload_n (pc := 644) dL_law_644 rfl ?_
  refine ev_iload_n (pc := 645) dL_law_645 rfl ?_
  refine ev_iconst (pc := 646) (v := 3) dL_law_646 (by decide) ?_
  refine ev_iadd (pc := 647) dL_law_647 ?_
  refine ev_eqI (e' := nI (6 * zn + 3)) (show nI (6 * zn) + 3 = nI (6 * zn + 3) from nI_add (6 * zn) 3) ?_
  refine ev_sld (pc := 648) (zj := 6 * zn + 3) hX (by omega) hz dL_law_648 ?_
  refine ev_sj1 (pc := 649) (st_likely E hi (zs (6 * zn + 1)) (zs (6 * zn + 2)) (zs (6 * zn + 3))) (Nat.le_of_ble_eq_true rfl) dL_law_649 kX10_likely lL_78 vX10_likely rfl hi.1 rfl rfl (Nat.le_of_ble_eq_true rfl) (Nat.le_of_ble_eq_true rfl) (Nat.le_of_ble_eq_true rfl) (fun zx h1 w1 q1 => ?_)
  refine ev_aload_n (pc := 652) dL_law_652 rfl ?_
  refine ev_aload_n (pc := 653) dL_law_653 rfl ?_
  refine ev_iload_n (pc := 654) dL_law_654 rfl ?_
  refine ev_iconst (pc := 655) (v := 1) dL_law_655 (by decide) ?_
  refine ev_iadd (pc := 656) dL_law_656 ?_
  refine ev_eqI (e' := nI (6 * zn + 1)) (show nI (6 * zn) + 1 = nI (6 * zn + 1) from nI_add (6 * zn) 1) ?_
  refine ev_sld (pc := 657) (zj := 6 * zn + 1) hX (by omega) hz dL_law_657 ?_
  refine ev_aload_n (pc := 658) dL_law_658 rfl ?_
  refine ev_iload_n (pc := 659) dL_law_659 rfl ?_
  refine ev_iconst (pc := 660) (v := 2) dL_law_660 (by decide) ?_
  refine ev_iadd (pc := 661) dL_law_661 ?_
  refine ev_eqI (e' := nI (6 * zn + 2)) (show nI (6 * zn) + 2 = nI (6 * zn + 2) from nI_add (6 * zn) 2) ?_
  refine ev_sld (pc := 662) (zj := 6 * zn + 2) hX (by omega) hz dL_law_662 ?_
  refine ev_aload_n (pc := 663) dL_law_663 rfl ?_
  refine ev_iload_n (pc := 664) dL_law_664 rfl ?_
  refine ev_iconst (pc := 665) (v := 3) dL_law_665 (by decide) ?_
  refine ev_iadd (pc := 666) dL_law_666 ?_
  refine ev_eqI (e' := nI (6 * zn + 3)) (show nI (6 * zn) + 3 = nI (6 * zn + 3) from nI_add (6 * zn) 3) ?_
  refine ev_sld (pc := 667) (zj := 6 * zn + 3) hX (by omega) hz dL_law_667 ?_
  refine ev_sj2 (pc := 668) q1 (Nat.le_of_ble_eq_true rfl) dL_law_668 kX11_likely lL_82 vX11_likely rfl w1 rfl rfl (Nat.le_of_ble_eq_true rfl) (Nat.le_of_ble_eq_true rfl) (Nat.le_of_ble_eq_true rfl) (fun h2 i2 => ?_)
  refine ev_lcmp (pc := 671) dL_law_671 ?_
  exact ev_if_eq (pc := 672) (tgt := 1502) dL_law_672 (by decide) (fun _ => K h2 i2) (fun z => absurd ((lc_eq zx zx).mpr rfl) z)
theorem lw_c15 (E : ME) (zq : String) {zb zl zn : Nat} {zs : Nat → Int32} {h : AH} (hE : XOK E) (hX : XSc E zb zl zs) (hz : zl ≤ 3072) (hj : 6 * zn + 5 < zl) (hi : InV zn h) (K : ∀ h2 : AH, InV (zn + 1) h2 → Ev E (mLn zq) room_1 (QXL E zb) 76 16412 1502 [some (.ref 4000), some (.ref 0), some (.ref 49), some (.int (nI (6 * zn)))] [] h2) : Ev E (mLn zq) room_1 (QXL E zb) 76 16412 677 [some (.ref 4000), some (.ref 0), some (.ref 49), some (.int (nI (6 * zn)))] [] h := by
  have hn : zn ≤ 512 := by omega
  refine ev_aload_n (pc := 677) dL_law_677 rfl ?_
  refine ev_aload_n (pc := 678) dL_law_678 rfl ?_
  refine ev_iload_n (pc := 679) dL_law_679 rfl ?_
  refine ev_iconst (pc := 680) (v := 1) dL_law_680 (by decide) ?_
  refine ev_iadd (pc := 681) dL_law_681 ?_
  refine ev_eqI (e' := nI (6 * zn + 1)) (show nI (6 * zn) + 1 = nI (6 * zn + 1) from nI_add (6 * zn) 1) ?_
  refine ev_sld (pc := 682) (zj := 6 * zn + 1) hX (by omega) hz dL_law_682 ?_
  refine ev_st1 (pc := 683) (st_begins E hi (zs (6 * zn + 1))) (Nat.le_of_ble_eq_true rfl) dL_law_683 kX10_begins lL_83 vX10_begins rfl hi.1 rfl rfl (Nat.le_of_ble_eq_true rfl) (Nat.le_of_ble_eq_true rfl) (Nat.le_of_ble_eq_true rfl) (fun zx h1 w1 q1 => ?_)
  refine ev_aload_n (pc := 686) dL_law_686 rfl ?_
  refine ev_aload_n (pc := 687) dL_law_687 rfl ?_
  refine ev_iload_n (pc := 688) dL_law_688 rfl ?_
  refine ev_iconst (pc := 689) (v := 1) dL_law_689 (by decide) ?_
  refine ev_iadd (pc := 690) dL_law_690 ?_
  refine ev_eqI (e' := nI (6 * zn + 1)) (show nI (6 * zn) + 1 = nI (6 * zn + 1) from nI_add (6 * zn) 1) ?_
  refine ev_sld (pc := 691) (zj := 6 * zn + 1) hX (by omega) hz dL_law_691 ?_
  refine ev_st2 (pc := 692) q1 (Nat.le_of_ble_eq_true rfl) dL_law_692 kX11_begins lL_86 vX11_begins rfl w1 rfl rfl (Nat.le_of_ble_eq_true rfl) (Nat.le_of_ble_eq_true rfl) (Nat.le_of_ble_eq_true rfl) (fun h2 i2 => ?_)
  exact ev_icmp_eq (pc := 695) (tgt := 1502) dL_law_695 (by decide) (fun _ => K h2 i2) (fun z => absurd rfl z)
theorem lw_c16 (E : ME) (zq : String) {zb zl zn : Nat} {zs : Nat → Int32} {h : AH} (hE : XOK E) (hX : XSc E zb zl zs) (hz : zl ≤ 3072) (hj : 6 * zn + 5 < zl) (hi : InV zn h) (K : ∀ h2 : AH, InV (zn + 1) h2 → Ev E (mLn zq) room_1 (QXL E zb) 76 16412 1502 [some (.ref 4000), some (.ref 0), some (.ref 49), some (.int (nI (6 * zn)))] [] h2) : Ev E (mLn zq) room_1 (QXL E zb) 76 16412 700 [some (.ref 4000), some (.ref 0), some (.ref 49), some (.int (nI (6 * zn)))] [] h := by
  have hn : zn ≤ 512 := by omega
  refine ev_aload_n (pc := 700) dL_law_700 rfl ?_
  refine ev_aload_n (pc := 701) dL_law_701 rfl ?_
  refine ev_iload_n (pc := 702) dL_law_702 rfl ?_
  refine ev_iconst (pc := 703) (v := 1) dL_law_703 (by decide) ?_
  refine ev_iadd (pc := 704) dL_law_704 ?_
  refine ev_eqI (e' := nI (6 * zn + 1)) (show nI (6 * zn) + 1 = nI (6 * zn + 1) from nI_add (6 * zn) 1) ?_
  refine ev_sld (pc := 705) (zj := 6 * zn + 1) hX (by omega) hz dL_law_705 ?_
  refine ev_i2l (pc := 706) dL_law_706 ?_
  refine ev_bipush (pc := 707) (v := 32) dL_law_707 (by decide) ?_
  refine ev_lshl (pc := 709) dL_law_709 ?_
  refine ev_aload_n (pc := 710) dL_law_710 rfl ?_
  refine ev_iload_n (pc := 711) dL_law_711 rfl ?_
  refine ev_iconst (pc := 712) (v := 2) dL_law_712 (by decide) ?_
  refine ev_iadd (pc := 713) dL_law_713 ?_
  refine ev_eqI (e' := nI (6 * zn + 2)) (show nI (6 * zn) + 2 = nI (6 * zn + 2) from nI_add (6 * zn) 2) ?_
  refine ev_sld (pc := 714) (zj := 6 * zn + 2) hX (by omega) hz dL_law_714 ?_
  refine ev_i2l (pc := 715) dL_law_715 ?_
  refine ev_ldc2 (pc := 716) (v := 4294967295) dL_law_716 kcL_13 ?_
  refine ev_land (pc := 719) dL_law_719 ?_
  refine ev_lor (pc := 720) dL_law_720 ?_
  refine ev_aload_n (pc := 721) dL_law_721 rfl ?_
  refine ev_iload_n (pc := 722) dL_law_722 rfl ?_
  refine ev_iconst (pc := 723) (v := 3) dL_law_723 (by decide) ?_
  refine ev_iadd (pc := 724) dL_law_724 ?_
  refine ev_eqI (e' := nI (6 * zn + 3)) (show nI (6 * zn) + 3 = nI (6 * zn + 3) from nI_add (6 * zn) 3) ?_
  refine ev_sld (pc := 725) (zj := 6 * zn + 3) hX (by omega) hz dL_law_725 ?_
  refine ev_st1 (pc := 726) (st_order E hi (((Int32.toInt64 (zs (6 * zn + 1))) <<< (Int32.toInt64 32 &&& 63)) ||| ((Int32.toInt64 (zs (6 * zn + 2))) &&& (4294967295))) (zs (6 * zn + 3))) (Nat.le_of_ble_eq_true rfl) dL_law_726 kX10_order lL_87 vX10_order rfl hi.1 rfl rfl (Nat.le_of_ble_eq_true rfl) (Nat.le_of_ble_eq_true rfl) (Nat.le_of_ble_eq_true rfl) (fun zx h1 w1 q1 => ?_)
  refine ev_aload_n (pc := 729) dL_law_729 rfl ?_
  refine ev_aload_n (pc := 730) dL_law_730 rfl ?_
  refine ev_iload_n (pc := 731) dL_law_731 rfl ?_
  refine ev_iconst (pc := 732) (v := 1) dL_law_732 (by decide) ?_
  refine ev_iadd (pc := 733) dL_law_733 ?_
  refine ev_eqI (e' := nI (6 * zn + 1)) (show nI (6 * zn) + 1 = nI (6 * zn + 1) from nI_add (6 * zn) 1) ?_
  refine ev_sld (pc := 734) (zj := 6 * zn + 1) hX (by omega) hz dL_law_734 ?_
  refine ev_i2l (pc := 735) dL_law_735 ?_
  refine ev_bipush (pc := 736) (v := 32) dL_law_736 (by decide) ?_
  refine ev_lshl (pc := 738) dL_law_738 ?_
  refine ev_aload_n (pc := 739) dL_law_739 rfl ?_
  refine ev_iload_n (pc := 740) dL_law_740 rfl ?_
  refine ev_iconst (pc := 741) (v := 2) dL_law_741 (by decide) ?_
  refine ev_iadd (pc := 742) dL_law_742 ?_
  refine ev_eqI (e' := nI (6 * zn + 2)) (show nI (6 * zn) + 2 = nI (6 * zn + 2) from nI_add (6 * zn) 2) ?_
  refine ev_sld (pc := 743) (zj := 6 * zn + 2) hX (by omega) hz dL_law_743 ?_
  refine ev_i2l (pc := 744) dL_law_744 ?_
  refine ev_ldc2 (pc := 745) (v := 4294967295) dL_law_745 kcL_13 ?_
  refine ev_land (pc := 748) dL_law_748 ?_
  refine ev_lor (pc := 749) dL_law_749 ?_
  refine ev_aload_n (pc := 750) dL_law_750 rfl ?_
  refine ev_iload_n (pc := 751) dL_law_751 rfl ?_
  refine ev_iconst (pc := 752) (v := 3) dL_law_752 (by decide) ?_
  refine ev_iadd (pc := 753) dL_law_753 ?_
  refine ev_eqI (e' := nI (6 * zn + 3)) (show nI (6 * zn) + 3 = nI (6 * zn + 3) from nI_add (6 * zn) 3) ?_
  refine ev_sld (pc := 754) (zj := 6 * zn + 3) hX (by omega) hz dL_law_754 ?_
  refine ev_st2 (pc := 755) q1 (Nat.le_of_ble_eq_true rfl) dL_law_755 kX11_order lL_91 vX11_order rfl w1 rfl rfl (Nat.le_of_ble_eq_true rfl) (Nat.le_of_ble_eq_true rfl) (Nat.le_of_ble_eq_true rfl) (fun h2 i2 => ?_)
  exact ev_icmp_eq (pc := 758) (tgt := 1502) dL_law_758 (by decide) (fun _ => K h2 i2) (fun z => absurd rfl z)
theorem lw_c17 (E : ME) (zq : String) {zb zl zn : Nat} {zs : Nat → Int32} {h : AH} (hE : XOK E) (hX : XSc E zb zl zs) (hz : zl ≤ 3072) (hj : 6 * zn + 5 < zl) (hi : InV zn h) (K : ∀ h2 : AH, InV (zn + 1) h2 → Ev E (mLn zq) room_1 (QXL E zb) 76 16412 1502 [some (.ref 4000), some (.ref 0), some (.ref 49), some (.int (nI (6 * zn)))] [] h2) : Ev E (mLn zq) room_1 (QXL E zb) 76 16412 763 [some (.ref 4000), some (.ref 0), some (.ref 49), some (.int (nI (6 * zn)))] [] h := by
  have hn : zn ≤ 512 := by omega
  refine ev_aload_n (pc := 763) dL_law_763 rfl ?_
  refine ev_aload_n (pc := 764) dL_law_764 rfl ?_
  refine ev_iload_n (pc := 765) dL_law_765 rfl ?_
  refine ev_iconst (pc := 766) (v := 1) dL_law_766 (by decide) ?_
  refine ev_iadd (pc := 767) dL_law_767 ?_
  refine ev_eqI (e' := nI (6 * zn + 1)) (show nI (6 * zn) + 1 = nI (6 * zn + 1) from nI_add (6 * zn) 1) ?_
  refine ev_sld (pc := 768) (zj := 6 * zn + 1) hX (by omega) hz dL_law_768 ?_
  refine ev_aload_n (pc := 769) dL_law_769 rfl ?_
  refine ev_iload_n (pc := 770) dL_law_770 rfl ?_
  refine ev_iconst (pc := 771) (v := 2) dL_law_771 (by decide) ?_
  refine ev_iadd (pc := 772) dL_law_772 ?_
  refine ev_eqI (e' := nI (6 * zn + 2)) (show nI (6 * zn) + 2 = nI (6 * zn + 2) from nI_add (6 * zn) 2) ?_
  refine ev_sld (pc := 773) (zj := 6 * zn + 2) hX (by omega) hz dL_law_773 ?_
  refine ev_st1 (pc := 774) (st_size E hi (zs (6 * zn + 1)) (zs (6 * zn + 2))) (Nat.le_of_ble_eq_true rfl) dL_law_774 kX10_size lL_92 vX10_size rfl hi.1 rfl rfl (Nat.le_of_ble_eq_true rfl) (Nat.le_of_ble_eq_true rfl) (Nat.le_of_ble_eq_true rfl) (fun zx h1 w1 q1 => ?_)
  refine ev_aload_n (pc := 777) dL_law_777 rfl ?_
  refine ev_aload_n (pc := 778) dL_law_778 rfl ?_
  refine ev_iload_n (pc := 779) dL_law_779 rfl ?_
  refine ev_iconst (pc := 780) (v := 1) dL_law_780 (by decide) ?_
  refine ev_iadd (pc := 781) dL_law_781 ?_
  refine ev_eqI (e' := nI (6 * zn + 1)) (show nI (6 * zn) + 1 = nI (6 * zn + 1) from nI_add (6 * zn) 1) ?_
  refine ev_sld (pc := 782) (zj := 6 * zn + 1) hX (by omega) hz dL_law_782 ?_
  refine ev_aload_n (pc := 783) dL_law_783 rfl ?_
  refine ev_iload_n (pc := 784) dL_law_784 rfl ?_
  refine ev_iconst (pc := 785) (v := 2) dL_law_785 (by decide) ?_
  refine ev_iadd (pc := 786) dL_law_786 ?_
  refine ev_eqI (e' := nI (6 * zn + 2)) (show nI (6 * zn) + 2 = nI (6 * zn + 2) from nI_add (6 * zn) 2) ?_
  refine ev_sld (pc := 787) (zj := 6 * zn + 2) hX (by omega) hz dL_law_787 ?_
  refine ev_st2 (pc := 788) q1 (Nat.le_of_ble_eq_true rfl) dL_law_788 kX11_size lL_95 vX11_size rfl w1 rfl rfl (Nat.le_of_ble_eq_true rfl) (Nat.le_of_ble_eq_true rfl) (Nat.le_of_ble_eq_true rfl) (fun h2 i2 => ?_)
  exact ev_icmp_eq (pc := 791) (tgt := 1502) dL_law_791 (by decide) (fun _ => K h2 i2) (fun z => absurd rfl z)
theorem lw_c18 (E : ME) (zq : String) {zb zl zn : Nat} {zs : Nat → Int32} {h : AH} (hE : XOK E) (hX : XSc E zb zl zs) (hz : zl ≤ 3072) (hj : 6 * zn + 5 < zl) (hi : InV zn h) (K : ∀ h2 : AH, InV (zn + 1) h2 → Ev E (mLn zq) room_1 (QXL E zb) 76 16412 1502 [some (.ref 4000), some (.ref 0), some (.ref 49), some (.int (nI (6 * zn)))] [] h2) : Ev E (mLn zq) room_1 (QXL E zb) 76 16412 796 [some (.ref 4000), some (.ref 0), some (.ref 49), some (.int (nI (6 * zn)))] [] h := by
  have hn : zn ≤ 512 := by omega
  refine ev_aload_n (pc := 796) dL_law_796 rfl ?_
  refine ev_aload_n (pc := 797) dL_law_797 rfl ?_
  refine ev_iload_n (pc := 798) dL_law_798 rfl ?_
  refine ev_iconst (pc := 799) (v := 1) dL_law_799 (by decide) ?_
  refine ev_iadd (pc := 800) dL_law_800 ?_
  refine ev_eqI (e' := nI (6 * zn + 1)) (show nI (6 * zn) + 1 = nI (6 * zn + 1) from nI_add (6 * zn) 1) ?_
  refine ev_sld (pc := 801) (zj := 6 * zn + 1) hX (by omega) hz dL_law_801 ?_
  refine ev_aload_n (pc := 802) dL_law_802 rfl ?_
  refine ev_iload_n (pc := 803) dL_law_803 rfl ?_
  refine ev_iconst (pc := 804) (v := 2) dL_law_804 (by decide) ?_
  refine ev_iadd (pc := 805) dL_law_805 ?_
  refine ev_eqI (e' := nI (6 * zn + 2)) (show nI (6 * zn) + 2 = nI (6 * zn + 2) from nI_add (6 * zn) 2) ?_
  refine ev_sld (pc := 806) (zj := 6 * zn + 2) hX (by omega) hz dL_law_806 ?_
  refine ev_st1 (pc := 807) (st_sure E hi (zs (6 * zn + 1)) (zs (6 * zn + 2))) (Nat.le_of_ble_eq_true rfl) dL_law_807 kX10_sure lL_96 vX10_sure rfl hi.1 rfl rfl (Nat.le_of_ble_eq_true rfl) (Nat.le_of_ble_eq_true rfl) (Nat.le_of_ble_eq_true rfl) (fun zx h1 w1 q1 => ?_)
  refine ev_aload_n (pc := 810) dL_law_810 rfl ?_
  refine ev_aload_n (pc := 811) dL_law_811 rfl ?_
  refine ev_iload_n (pc := 812) dL_law_812 rfl ?_
  refine ev_iconst (pc := 813) (v := 1) dL_law_813 (by decide) ?_
  refine ev_iadd (pc := 814) dL_law_814 ?_
  refine ev_eqI (e' := nI (6 * zn + 1)) (show nI (6 * zn) + 1 = nI (6 * zn + 1) from nI_add (6 * zn) 1) ?_
  refine ev_sld (pc := 815) (zj := 6 * zn + 1) hX (by omega) hz dL_law_815 ?_
  refine ev_aload_n (pc := 816) dL_law_816 rfl ?_
  refine ev_iload_n (pc := 817) dL_law_817 rfl ?_
  refine ev_iconst (pc := 818) (v := 2) dL_law_818 (by decide) ?_
  refine ev_iadd (pc := 819) dL_law_819 ?_
  refine ev_eqI (e' := nI (6 * zn + 2)) (show nI (6 * zn) + 2 = nI (6 * zn + 2) from nI_add (6 * zn) 2) ?_
  refine ev_sld (pc := 820) (zj := 6 * zn + 2) hX (by omega) hz dL_law_820 ?_
  refine ev_st2 (pc := 821) q1 (Nat.le_of_ble_eq_true rfl) dL_law_821 kX11_sure lL_99 vX11_sure rfl w1 rfl rfl (Nat.le_of_ble_eq_true rfl) (Nat.le_of_ble_eq_true rfl) (Nat.le_of_ble_eq_true rfl) (fun h2 i2 => ?_)
  exact ev_icmp_eq (pc := 824) (tgt := 1502) dL_law_824 (by decide) (fun _ => K h2 i2) (fun z => absurd rfl z)
theorem lw_c19 (E : ME) (zq : String) {zb zl zn : Nat} {zs : Nat → Int32} {h : AH} (hE : XOK E) (hX : XSc E zb zl zs) (hz : zl ≤ 3072) (hj : 6 * zn + 5 < zl) (hi : InV zn h) (K : ∀ h2 : AH, InV (zn + 1) h2 → Ev E (mLn zq) room_1 (QXL E zb) 76 16412 1502 [some (.ref 4000), some (.ref 0), some (.ref 49), some (.int (nI (6 * zn)))] [] h2) : Ev E (mLn zq) room_1 (QXL E zb) 76 16412 829 [some (.ref 4000), some (.ref 0), some (.ref 49), some (.int (nI (6 * zn)))] [] h := by
  have hn : zn ≤ 512 := by omega
  refine ev_aload_n (pc := 829) dL_law_829 rfl ?_
  refine ev_aload_n (pc := 830) dL_law_830 rfl ?_
  refine ev_iload_n (pc := 831) dL_law_831 rfl ?_
  refine ev_iconst (pc := 832) (v := 1) dL_law_832 (by decide) ?_
  refine ev_iadd (pc := 833) dL_law_833 ?_
  refine ev_eqI (e' := nI (6 * zn + 1)) (show nI (6 * zn) + 1 = nI (6 * zn + 1) from nI_add (6 * zn) 1) ?_
  refine ev_sld (pc := 834) (zj := 6 * zn + 1) hX (by omega) hz dL_law_834 ?_
  refine ev_st1 (pc := 835) (st_hands E hi (zs (6 * zn + 1))) (Nat.le_of_ble_eq_true rfl) dL_law_835 kX10_hands lL_100 vX10_hands rfl hi.1 rfl rfl (Nat.le_of_ble_eq_true rfl) (Nat.le_of_ble_eq_true rfl) (Nat.le_of_ble_eq_true rfl) (fun zx h1 w1 q1 => ?_)
  refine ev_aload_n (pc := 838) dL_law_838 rfl ?_
  refine ev_aload_n (pc := 839) dL_law_839 rfl ?_
  refine ev_iload_n (pc := 840) dL_law_840 rfl ?_
  refine ev_iconst (pc := 841) (v := 1) dL_law_841 (by decide) ?_
  refine ev_iadd (pc := 842) dL_law_842 ?_
  refine ev_eqI (e' := nI (6 * zn + 1)) (show nI (6 * zn) + 1 = nI (6 * zn + 1) from nI_add (6 * zn) 1) ?_
  refine ev_sld (pc := 843) (zj := 6 * zn + 1) hX (by omega) hz dL_law_843 ?_
  refine ev_st2 (pc := 844) q1 (Nat.le_of_ble_eq_true rfl) dL_law_844 kX11_hands lL_103 vX11_hands rfl w1 rfl rfl (Nat.le_of_ble_eq_true rfl) (Nat.le_of_ble_eq_true rfl) (Nat.le_of_ble_eq_true rfl) (fun h2 i2 => ?_)
  exact ev_icmp_eq (pc := 847) (tgt := 1502) dL_law_847 (by decide) (fun _ => K h2 i2) (fun z => absurd rfl z)
theorem lw_c20 (E : ME) (zq : String) {zb zl zn : Nat} {zs : Nat → Int32} {h : AH} (hE : XOK E) (hX : XSc E zb zl zs) (hz : zl ≤ 3072) (hj : 6 * zn + 5 < zl) (hi : InV zn h) (K : ∀ h2 : AH, InV (zn + 1) h2 → Ev E (mLn zq) room_1 (QXL E zb) 76 16412 1502 [some (.ref 4000), some (.ref 0), some (.ref 49), some (.int (nI (6 * zn)))] [] h2) : Ev E (mLn zq) room_1 (QXL E zb) 76 16412 852 [some (.ref 4000), some (.ref 0), some (.ref 49), some (.int (nI (6 * zn)))] [] h := by
  have hn : zn ≤ 512 := by omega
  refine ev_aload_n (pc := 852) dL_law_852 rfl ?_
  refine ev_aload_n (pc := 853) dL_law_853 rfl ?_
  refine ev_iload_n (pc := 854) dL_law_854 rfl ?_
  refine ev_iconst (pc := 855) (v := 1) dL_law_855 (by decide) ?_
  refine ev_iadd (pc := 856) dL_law_856 ?_
  refine ev_eqI (e' := nI (6 * zn + 1)) (show nI (6 * zn) + 1 = nI (6 * zn + 1) from nI_add (6 * zn) 1) ?_
  refine ev_sld (pc := 857) (zj := 6 * zn + 1) hX (by omega) hz dL_law_857 ?_
  refine ev_st1 (pc := 858) (st_knot E hi (zs (6 * zn + 1))) (Nat.le_of_ble_eq_true rfl) dL_law_858 kX10_knot lL_104 vX10_knot rfl hi.1 rfl rfl (Nat.le_of_ble_eq_true rfl) (Nat.le_of_ble_eq_true rfl) (Nat.le_of_ble_eq_true rfl) (fun zx h1 w1 q1 => ?_)
  refine ev_aload_n (pc := 861) dL_law_861 rfl ?_
  refine ev_aload_n (pc := 862) dL_law_862 rfl ?_
  refine ev_iload_n (pc := 863) dL_law_863 rfl ?_
  refine ev_iconst (pc := 864) (v := 1) dL_law_864 (by decide) ?_
  refine ev_iadd (pc := 865) dL_law_865 ?_
  refine ev_eqI (e' := nI (6 * zn + 1)) (show nI (6 * zn) + 1 = nI (6 * zn + 1) from nI_add (6 * zn) 1) ?_
  refine ev_sld (pc := 866) (zj := 6 * zn + 1) hX (by omega) hz dL_law_866 ?_
  refine ev_st2 (pc := 867) q1 (Nat.le_of_ble_eq_true rfl) dL_law_867 kX11_knot lL_107 vX11_knot rfl w1 rfl rfl (Nat.le_of_ble_eq_true rfl) (Nat.le_of_ble_eq_true rfl) (Nat.le_of_ble_eq_true rfl) (fun h2 i2 => ?_)
  exact ev_icmp_eq (pc := 870) (tgt := 1502) dL_law_870 (by decide) (fun _ => K h2 i2) (fun z => absurd rfl z)
theorem lw_c21 (E : ME) (zq : String) {zb zl zn : Nat} {zs : Nat → Int32} {h : AH} (hE : XOK E) (hX : XSc E zb zl zs) (hz : zl ≤ 3072) (hj : 6 * zn + 5 < zl) (hi : InV zn h) (K : ∀ h2 : AH, InV (zn + 1) h2 → Ev E (mLn zq) room_1 (QXL E zb) 76 16412 1502 [some (.ref 4000), some (.ref 0), some (.ref 49), some (.int (nI (6 * zn)))] [] h2) : Ev E (mLn zq) room_1 (QXL E zb) 76 16412 875 [some (.ref 4000), some (.ref 0), some (.ref 49), some (.int (nI (6 * zn)))] [] h := by
  have hn : zn ≤ 512 := by omega
  refine ev_aload_n (pc := 875) dL_law_875 rfl ?_
  refine ev_st1 (pc := 876) (st_wipe E hi) (Nat.le_of_ble_eq_true rfl) dL_law_876 kX10_wipe lL_108 vX10_wipe rfl hi.1 rfl rfl (Nat.le_of_ble_eq_true rfl) (Nat.le_of_ble_eq_true rfl) (Nat.le_of_ble_eq_true rfl) (fun zx h1 w1 q1 => ?_)
  refine ev_aload_n (pc := 879) dL_law_879 rfl ?_
  refine ev_st2 (pc := 880) q1 (Nat.le_of_ble_eq_true rfl) dL_law_880 kX11_wipe lL_111 vX11_wipe rfl w1 rfl rfl (Nat.le_of_ble_eq_true rfl) (Nat.le_of_ble_eq_true rfl) (Nat.le_of_ble_eq_true rfl) (fun h2 i2 => ?_)
  exact ev_icmp_eq (pc := 883) (tgt := 1502) dL_law_883 (by decide) (fun _ => K h2 i2) (fun z => absurd rfl z)
theorem lw_c22 (E : ME) (zq : String) {zb zl zn : Nat} {zs : Nat → Int32} {h : AH} (hE : XOK E) (hX : XSc E zb zl zs) (hz : zl ≤ 3072) (hj : 6 * zn + 5 < zl) (hi : InV zn h) (K : ∀ h2 : AH, InV (zn + 1) h2 → Ev E (mLn zq) room_1 (QXL E zb) 76 16412 1502 [some (.ref 4000), some (.ref 0), some (.ref 49), some (.int (nI (6 * zn)))] [] h2) : Ev E (mLn zq) room_1 (QXL E zb) 76 16412 888 [some (.ref 4000), some (.ref 0), some (.ref 49), some (.int (nI (6 * zn)))] [] h := by
  have hn : zn ≤ 512 := by omega
  refine ev_aload_n (pc := 888) dL_law_888 rfl ?_
  refine ev_aload_n (pc := 889) dL_law_889 rfl ?_
  refine ev_iload_n (pc := 890) dL_law_890 rfl ?_
  refine ev_iconst (pc := 891) (v := 1) dL_law_891 (by decide) ?_
  refine ev_iadd (pc := 892) dL_law_892 ?_
  refine ev_eqI (e' := nI (6 * zn + 1)) (show nI (6 * zn) + 1 = nI (6 * zn + 1) from nI_add (6 * zn) 1) ?_
  refine ev_sld (pc := 893) (zj := 6 * zn + 1) hX (by omega) hz dL_law_893 ?_
  refine ev_aload_n (pc := 894) dL_law_894 rfl ?_
  refine ev_iload_n (pc := 895) dL_law_895 rfl ?_
  refine ev_iconst (pc := 896) (v := 2) dL_law_896 (by decide) ?_
  refine ev_iadd (pc := 897) dL_law_897 ?_
  refine ev_eqI (e' := nI (6 * zn + 2)) (show nI (6 * zn) + 2 = nI (6 * zn + 2) from nI_add (6 * zn) 2) ?_
  refine ev_sld (pc := 898) (zj := 6 * zn + 2) hX (by omega) hz dL_law_898 ?_
  refine ev_st1 (pc := 899) (st_slips E hi (zs (6 * zn + 1)) (zs (6 * zn + 2))) (Nat.le_of_ble_eq_true rfl) dL_law_899 kX10_slips lL_112 vX10_slips rfl hi.1 rfl rfl (Nat.le_of_ble_eq_true rfl) (Nat.le_of_ble_eq_true rfl) (Nat.le_of_ble_eq_true rfl) (fun zx h1 w1 q1 => ?_)
  refine ev_aload_n (pc := 902) dL_law_902 rfl ?_
  refine ev_aload_n (pc := 903) dL_law_903 rfl ?_
  refine ev_iload_n (pc := 904) dL_law_904 rfl ?_
  refine ev_iconst (pc := 905) (v := 1) dL_law_905 (by decide) ?_
  refine ev_iadd (pc := 906) dL_law_906 ?_
  refine ev_eqI (e' := nI (6 * zn + 1)) (show nI (6 * zn) + 1 = nI (6 * zn + 1) from nI_add (6 * zn) 1) ?_
  refine ev_sld (pc := 907) (zj := 6 * zn + 1) hX (by omega) hz dL_law_907 ?_
  refine ev_aload_n (pc := 908) dL_law_908 rfl ?_
  refine ev_iload_n (pc := 909) dL_law_909 rfl ?_
  refine ev_iconst (pc := 910) (v := 2) dL_law_910 (by decide) ?_
  refine ev_iadd (pc := 911) dL_law_911 ?_
  refine ev_eqI (e' := nI (6 * zn + 2)) (show nI (6 * zn) + 2 = nI (6 * zn + 2) from nI_add (6 * zn) 2) ?_
  refine ev_sld (pc := 912) (zj := 6 * zn + 2) hX (by omega) hz dL_law_912 ?_
  refine ev_st2 (pc := 913) q1 (Nat.le_of_ble_eq_true rfl) dL_law_913 kX11_slips lL_115 vX11_slips rfl w1 rfl rfl (Nat.le_of_ble_eq_true rfl) (Nat.le_of_ble_eq_true rfl) (Nat.le_of_ble_eq_true rfl) (fun h2 i2 => ?_)
  exact ev_icmp_eq (pc := 916) (tgt := 1502) dL_law_916 (by decide) (fun _ => K h2 i2) (fun z => absurd rfl z)
theorem lw_c23 (E : ME) (zq : String) {zb zl zn : Nat} {zs : Nat → Int32} {h : AH} (hE : XOK E) (hX : XSc E zb zl zs) (hz : zl ≤ 3072) (hj : 6 * zn + 5 < zl) (hi : InV zn h) (K : ∀ h2 : AH, InV (zn + 1) h2 → Ev E (mLn zq) room_1 (QXL E zb) 76 16412 1502 [some (.ref 4000), some (.ref 0), some (.ref 49), some (.int (nI (6 * zn)))] [] h2) : Ev E (mLn zq) room_1 (QXL E zb) 76 16412 921 [some (.ref 4000), some (.ref 0), some (.ref 49), some (.int (nI (6 * zn)))] [] h := by
  have hn : zn ≤ 512 := by omega
  refine ev_aload_n (pc := 921) dL_law_921 rfl ?_
  refine ev_st1 (pc := 922) (st_knots E hi) (Nat.le_of_ble_eq_true rfl) dL_law_922 kX10_knots lL_116 vX10_knots rfl hi.1 rfl rfl (Nat.le_of_ble_eq_true rfl) (Nat.le_of_ble_eq_true rfl) (Nat.le_of_ble_eq_true rfl) (fun zx h1 w1 q1 => ?_)
  refine ev_aload_n (pc := 925) dL_law_925 rfl ?_
  refine ev_st2 (pc := 926) q1 (Nat.le_of_ble_eq_true rfl) dL_law_926 kX11_knots lL_119 vX11_knots rfl w1 rfl rfl (Nat.le_of_ble_eq_true rfl) (Nat.le_of_ble_eq_true rfl) (Nat.le_of_ble_eq_true rfl) (fun h2 i2 => ?_)
  exact ev_icmp_eq (pc := 929) (tgt := 1502) dL_law_929 (by decide) (fun _ => K h2 i2) (fun z => absurd rfl z)
theorem lw_c24 (E : ME) (zq : String) {zb zl zn : Nat} {zs : Nat → Int32} {h : AH} (hE : XOK E) (hX : XSc E zb zl zs) (hz : zl ≤ 3072) (hj : 6 * zn + 5 < zl) (hi : InV zn h) (K : ∀ h2 : AH, InV (zn + 1) h2 → Ev E (mLn zq) room_1 (QXL E zb) 76 16412 1502 [some (.ref 4000), some (.ref 0), some (.ref 49), some (.int (nI (6 * zn)))] [] h2) : Ev E (mLn zq) room_1 (QXL E zb) 76 16412 934 [some (.ref 4000), some (.ref 0), some (.ref 49), some (.int (nI (6 * zn)))] [] h := by
  have hn : zn ≤ 512 := by omega
  refine ev_aload_n (pc := 934) dL_law_934 rfl ?_
  refine ev_aload_n (pc := 935) dL_law_935 rfl ?_
  refine ev_iload_n (pc := 936) dL_law_936 rfl ?_
  refine ev_iconst (pc := 937) (v := 1) dL_law_937 (by decide) ?_
  refine ev_iadd (pc := 938) dL_law_938 ?_
  refine ev_eqI (e' := nI (6 * zn + 1)) (show nI (6 * zn) + 1 = nI (6 * zn + 1) from nI_add (6 * zn) 1) ?_
  refine ev_sld (pc := 939) (zj := 6 * zn + 1) hX (by omega) hz dL_law_939 ?_
  refine ev_aload_n (pc := 940) dL_law_940 rfl ?_
  refine ev_iload_n (pc := 941) dL_law_941 rfl ?_
  refine ev_iconst (pc := 942) (v := 2) dL_law_942 (by decide) ?_
  refine ev_iadd (pc := 943) dL_law_943 ?_
  refine ev_eqI (e' := nI (6 * zn + 2)) (show nI (6 * zn) + 2 = nI (6 * zn + 2) from nI_add (6 * zn) 2) ?_
  refine ev_sld (pc := 944) (zj := 6 * zn + 2) hX (by omega) hz dL_law_944 ?_
  refine ev_aload_n (pc := 945) dL_law_945 rfl ?_
  refine ev_iload_n (pc := 946) dL_law_946 rfl ?_
  refine ev_iconst (pc := 947) (v := 3) dL_law_947 (by decide) ?_
  refine ev_iadd (pc := 948) dL_law_948 ?_
  refine ev_eqI (e' := nI (6 * zn + 3)) (show nI (6 * zn) + 3 = nI (6 * zn + 3) from nI_add (6 * zn) 3) ?_
  refine ev_sld (pc := 949) (zj := 6 * zn + 3) hX (by omega) hz dL_law_949 ?_
  refine ev_aload_n (pc := 950) dL_law_950 rfl ?_
  refine ev_iload_n (pc := 951) dL_law_951 rfl ?_
  refine ev_iconst (pc := 952) (v := 4) dL_law_952 (by decide) ?_
  refine ev_iadd (pc := 953) dL_law_953 ?_
  refine ev_eqI (e' := nI (6 * zn + 4)) (show nI (6 * zn) + 4 = nI (6 * zn + 4) from nI_add (6 * zn) 4) ?_
  refine ev_sld (pc := 954) (zj := 6 * zn + 4) hX (by omega) hz dL_law_954 ?_
  refine ev_st1 (pc := 955) (st_fits E hi (zs (6 * zn + 1)) (zs (6 * zn + 2)) (zs (6 * zn + 3)) (zs (6 * zn + 4))) (Nat.le_of_ble_eq_true rfl) dL_law_955 kX10_fits lL_120 vX10_fits rfl hi.1 rfl rfl (Nat.le_of_ble_eq_true rfl) (Nat.le_of_ble_eq_true rfl) (Nat.le_of_ble_eq_true rfl) (fun zx h1 w1 q1 => ?_)
  refine ev_aload_n (pc := 958) dL_law_958 rfl ?_
  refine ev_aload_n (pc := 959) dL_law_959 rfl ?_
  refine ev_iload_n (pc := 960) dL_law_960 rfl ?_
  refine ev_iconst (pc := 961) (v := 1) dL_law_961 (by decide) ?_
  refine ev_iadd (pc := 962) dL_law_962 ?_
  refine ev_eqI (e' := nI (6 * zn + 1)) (show nI (6 * zn) + 1 = nI (6 * zn + 1) from nI_add (6 * zn) 1) ?_
  refine ev_sld (pc := 963) (zj := 6 * zn + 1) hX (by omega) hz dL_law_963 ?_
  refine ev_aload_n (pc := 964) dL_law_964 rfl ?_
  refine ev_iload_n (pc := 965) dL_law_965 rfl ?_
  refine ev_iconst (pc := 966) (v := 2) dL_law_966 (by decide) ?_
  refine ev_iadd (pc := 967) dL_law_967 ?_
  refine ev_eqI (e' := nI (6 * zn + 2)) (show nI (6 * zn) + 2 = nI (6 * zn + 2) from nI_add (6 * zn) 2) ?_
  refine ev_sld (pc := 968) (zj := 6 * zn + 2) hX (by omega) hz dL_law_968 ?_
  refine ev_aload_n (pc := 969) dL_law_969 rfl ?_
  refine ev_iload_n (pc := 970) dL_law_970 rfl ?_
  refine ev_iconst (pc := 971) (v := 3) dL_law_971 (by decide) ?_
  refine ev_iadd (pc := 972) dL_law_972 ?_
  refine ev_eqI (e' := nI (6 * zn + 3)) (show nI (6 * zn) + 3 = nI (6 * zn + 3) from nI_add (6 * zn) 3) ?_
  refine ev_sld (pc := 973) (zj := 6 * zn + 3) hX (by omega) hz dL_law_973 ?_
  refine ev_aload_n (pc := 974) dL_law_974 rfl ?_
  refine ev_iload_n (pc := 975) dL_law_975 rfl ?_
  refine ev_iconst (pc := 976) (v := 4) dL_law_976 (by decide) ?_
  refine ev_iadd (pc := 977) dL_law_977 ?_
  refine ev_eqI (e' := nI (6 * zn + 4)) (show nI (6 * zn) + 4 = nI (6 * zn + 4) from nI_add (6 * zn) 4) ?_
  refine ev_sld (pc := 978) (zj := 6 * zn + 4) hX (by omega) hz dL_law_978 ?_
  refine ev_st2 (pc := 979) q1 (Nat.le_of_ble_eq_true rfl) dL_law_979 kX11_fits lL_123 vX11_fits rfl w1 rfl rfl (Nat.le_of_ble_eq_true rfl) (Nat.le_of_ble_eq_true rfl) (Nat.le_of_ble_eq_true rfl) (fun h2 i2 => ?_)
  exact ev_icmp_eq (pc := 982) (tgt := 1502) dL_law_982 (by decide) (fun _ => K h2 i2) (fun z => absurd rfl z)
theorem lw_c25 (E : ME) (zq : String) {zb zl zn : Nat} {zs : Nat → Int32} {h : AH} (hE : XOK E) (hX : XSc E zb zl zs) (hz : zl ≤ 3072) (hj : 6 * zn + 5 < zl) (hi : InV zn h) (K : ∀ h2 : AH, InV (zn + 1) h2 → Ev E (mLn zq) room_1 (QXL E zb) 76 16412 1502 [some (.ref 4000), some (.ref 0), some (.ref 49), some (.int (nI (6 * zn)))] [] h2) : Ev E (mLn zq) room_1 (QXL E zb) 76 16412 987 [some (.ref 4000), some (.ref 0), some (.ref 49), some (.int (nI (6 * zn)))] [] h := by
  have hn : zn ≤ 512 := by omega
  refine ev_aload_n (pc := 987) dL_law_987 rfl ?_
  refine ev_aload_n (pc := 988) dL_law_988 rfl ?_
  refine ev_iload_n (pc := 989) dL_law_989 rfl ?_
  refine ev_iconst (pc := 990) (v := 1) dL_law_990 (by decide) ?_
  refine ev_iadd (pc := 991) dL_law_991 ?_
  refine ev_eqI (e' := nI (6 * zn + 1)) (show nI (6 * zn) + 1 = nI (6 * zn + 1) from nI_add (6 * zn) 1) ?_
  refine ev_sld (pc := 992) (zj := 6 * zn + 1) hX (by omega) hz dL_law_992 ?_
  refine ev_aload_n (pc := 993) dL_law_993 rfl ?_
  refine ev_iload_n (pc := 994) dL_law_994 rfl ?_
  refine ev_iconst (pc := 995) (v := 2) dL_law_995 (by decide) ?_
  refine ev_iadd (pc := 996) dL_law_996 ?_
  refine ev_eqI (e' := nI (6 * zn + 2)) (show nI (6 * zn) + 2 = nI (6 * zn + 2) from nI_add (6 * zn) 2) ?_
  refine ev_sld (pc := 997) (zj := 6 * zn + 2) hX (by omega) hz dL_law_997 ?_
  refine ev_aload_n (pc := 998) dL_law_998 rfl ?_
  refine ev_iload_n (pc := 999) dL_law_999 rfl ?_
  refine ev_iconst (pc := 1000) (v := 3) dL_law_1000 (by decide) ?_
  refine ev_iadd (pc := 1001) dL_law_1001 ?_
  refine ev_eqI (e' := nI (6 * zn + 3)) (show nI (6 * zn) + 3 = nI (6 * zn + 3) from nI_add (6 * zn) 3) ?_
  refine ev_sld (pc := 1002) (zj := 6 * zn + 3) hX (by omega) hz dL_law_1002 ?_
  refine ev_aload_n (pc := 1003) dL_law_1003 rfl ?_
  refine ev_iload_n (pc := 1004) dL_law_1004 rfl ?_
  refine ev_iconst (pc := 1005) (v := 4) dL_law_1005 (by decide) ?_
  refine ev_iadd (pc := 1006) dL_law_1006 ?_
  refine ev_eqI (e' := nI (6 * zn + 4)) (show nI (6 * zn) + 4 = nI (6 * zn + 4) from nI_add (6 * zn) 4) ?_
  refine ev_sld (pc := 1007) (zj := 6 * zn + 4) hX (by omega) hz dL_law_1007 ?_
  refine ev_aload_n (pc := 1008) dL_law_1008 rfl ?_
  refine ev_iload_n (pc := 1009) dL_law_1009 rfl ?_
  refine ev_iconst (pc := 1010) (v := 5) dL_law_1010 (by decide) ?_
  refine ev_iadd (pc := 1011) dL_law_1011 ?_
  refine ev_eqI (e' := nI (6 * zn + 5)) (show nI (6 * zn) + 5 = nI (6 * zn + 5) from nI_add (6 * zn) 5) ?_
  refine ev_sld (pc := 1012) (zj := 6 * zn + 5) hX (by omega) hz dL_law_1012 ?_
  refine ev_st1 (pc := 1013) (st_copy E hi (zs (6 * zn + 1)) (zs (6 * zn + 2)) (zs (6 * zn + 3)) (zs (6 * zn + 4)) (zs (6 * zn + 5))) (Nat.le_of_ble_eq_true rfl) dL_law_1013 kX10_copy lL_124 vX10_copy rfl hi.1 rfl rfl (Nat.le_of_ble_eq_true rfl) (Nat.le_of_ble_eq_true rfl) (Nat.le_of_ble_eq_true rfl) (fun zx h1 w1 q1 => ?_)
  refine ev_aload_n (pc := 1016) dL_law_1016 rfl ?_
  refine ev_aload_n (pc := 1017) dL_law_1017 rfl ?_
  refine ev_iload_n (pc := 1018) dL_law_1018 rfl ?_
  refine ev_iconst (pc := 1019) (v := 1) dL_law_1019 (by decide) ?_
  refine ev_iadd (pc := 1020) dL_law_1020 ?_
  refine ev_eqI (e' := nI (6 * zn + 1)) (show nI (6 * zn) + 1 = nI (6 * zn + 1) from nI_add (6 * zn) 1) ?_
  refine ev_sld (pc := 1021) (zj := 6 * zn + 1) hX (by omega) hz dL_law_1021 ?_
  refine ev_aload_n (pc := 1022) dL_law_1022 rfl ?_
  refine ev_iload_n (pc := 1023) dL_law_1023 rfl ?_
  refine ev_iconst (pc := 1024) (v := 2) dL_law_1024 (by decide) ?_
  refine ev_iadd (pc := 1025) dL_law_1025 ?_
  refine ev_eqI (e' := nI (6 * zn + 2)) (show nI (6 * zn) + 2 = nI (6 * zn + 2) from nI_add (6 * zn) 2) ?_
  refine ev_sld (pc := 1026) (zj := 6 * zn + 2) hX (by omega) hz dL_law_1026 ?_
  refine ev_aload_n (pc := 1027) dL_law_1027 rfl ?_
  refine ev_iload_n (pc := 1028) dL_law_1028 rfl ?_
  refine ev_iconst (pc := 1029) (v := 3) dL_law_1029 (by decide) ?_
  refine ev_iadd (pc := 1030) dL_law_1030 ?_
  refine ev_eqI (e' := nI (6 * zn + 3)) (show nI (6 * zn) + 3 = nI (6 * zn + 3) from nI_add (6 * zn) 3) ?_
  refine ev_sld (pc := 1031) (zj := 6 * zn + 3) hX (by omega) hz dL_law_1031 ?_
  refine ev_aload_n (pc := 1032) dL_law_1032 rfl ?_
  refine ev_iload_n (pc := 1033) dL_law_1033 rfl ?_
  refine ev_iconst (pc := 1034) (v := 4) dL_law_1034 (by decide) ?_
  refine ev_iadd (pc := 1035) dL_law_1035 ?_
  refine ev_eqI (e' := nI (6 * zn + 4)) (show nI (6 * zn) + 4 = nI (6 * zn + 4) from nI_add (6 * zn) 4) ?_
  refine ev_sld (pc := 1036) (zj := 6 * zn + 4) hX (by omega) hz dL_law_1036 ?_
  refine ev_aload_n (pc := 1037) dL_law_1037 rfl ?_
  refine ev_iload_n (pc := 1038) dL_law_1038 rfl ?_
  refine ev_iconst (pc := 1039) (v := 5) dL_law_1039 (by decide) ?_
  refine ev_iadd (pc := 1040) dL_law_1040 ?_
  refine ev_eqI (e' := nI (6 * zn + 5)) (show nI (6 * zn) + 5 = nI (6 * zn + 5) from nI_add (6 * zn) 5) ?_
  refine ev_sld (pc := 1041) (zj := 6 * zn + 5) hX (by omega) hz dL_law_1041 ?_
  refine ev_st2 (pc := 1042) q1 (Nat.le_of_ble_eq_true rfl) dL_law_1042 kX11_copy lL_128 vX11_copy rfl w1 rfl rfl (Nat.le_of_ble_eq_true rfl) (Nat.le_of_ble_eq_true rfl) (Nat.le_of_ble_eq_true rfl) (fun h2 i2 => ?_)
  exact ev_icmp_eq (pc := 1045) (tgt := 1502) dL_law_1045 (by decide) (fun _ => K h2 i2) (fun z => absurd rfl z)
theorem lw_c26 (E : ME) (zq : String) {zb zl zn : Nat} {zs : Nat → Int32} {h : AH} (hE : XOK E) (hX : XSc E zb zl zs) (hz : zl ≤ 3072) (hj : 6 * zn + 5 < zl) (hi : InV zn h) (K : ∀ h2 : AH, InV (zn + 1) h2 → Ev E (mLn zq) room_1 (QXL E zb) 76 16412 1502 [some (.ref 4000), some (.ref 0), some (.ref 49), some (.int (nI (6 * zn)))] [] h2) : Ev E (mLn zq) room_1 (QXL E zb) 76 16412 1050 [some (.ref 4000), some (.ref 0), some (.ref 49), some (.int (nI (6 * zn)))] [] h := by
  have hn : zn ≤ 512 := by omega
  refine ev_aload_n (pc := 1050) dL_law_1050 rfl ?_
  refine ev_aload_n (pc := 1051) dL_law_1051 rfl ?_
  refine ev_iload_n (pc := 1052) dL_law_1052 rfl ?_
  refine ev_iconst (pc := 1053) (v := 1) dL_law_1053 (by decide) ?_
  refine ev_iadd (pc := 1054) dL_law_1054 ?_
  refine ev_eqI (e' := nI (6 * zn + 1)) (show nI (6 * zn) + 1 = nI (6 * zn + 1) from nI_add (6 * zn) 1) ?_
  refine ev_sld (pc := 1055) (zj := 6 * zn + 1) hX (by omega) hz dL_law_1055 ?_
  refine ev_st1 (pc := 1056) (st_best E hi (zs (6 * zn + 1))) (Nat.le_of_ble_eq_true rfl) dL_law_1056 kX10_best lL_129 vX10_best rfl hi.1 rfl rfl (Nat.le_of_ble_eq_true rfl) (Nat.le_of_ble_eq_true rfl) (Nat.le_of_ble_eq_true rfl) (fun zx h1 w1 q1 => ?_)
  refine ev_aload_n (pc := 1059) dL_law_1059 rfl ?_
  refine ev_aload_n (pc := 1060) dL_law_1060 rfl ?_
  refine ev_iload_n (pc := 1061) dL_law_1061 rfl ?_
  refine ev_iconst (pc := 1062) (v := 1) dL_law_1062 (by decide) ?_
  refine ev_iadd (pc := 1063) dL_law_1063 ?_
  refine ev_eqI (e' := nI (6 * zn + 1)) (show nI (6 * zn) + 1 = nI (6 * zn + 1) from nI_add (6 * zn) 1) ?_
  refine ev_sld (pc := 1064) (zj := 6 * zn + 1) hX (by omega) hz dL_law_1064 ?_
  refine ev_st2 (pc := 1065) q1 (Nat.le_of_ble_eq_true rfl) dL_law_1065 kX11_best lL_132 vX11_best rfl w1 rfl rfl (Nat.le_of_ble_eq_true rfl) (Nat.le_of_ble_eq_true rfl) (Nat.le_of_ble_eq_true rfl) (fun h2 i2 => ?_)
  exact ev_icmp_eq (pc := 1068) (tgt := 1502) dL_law_1068 (by decide) (fun _ => K h2 i2) (fun z => absurd rfl z)
theorem lw_c27 (E : ME) (zq : String) {zb zl zn : Nat} {zs : Nat → Int32} {h : AH} (hE : XOK E) (hX : XSc E zb zl zs) (hz : zl ≤ 3072) (hj : 6 * zn + 5 < zl) (hi : InV zn h) (K : ∀ h2 : AH, InV (zn + 1) h2 → Ev E (mLn zq) room_1 (QXL E zb) 76 16412 1502 [some (.ref 4000), some (.ref 0), some (.ref 49), some (.int (nI (6 * zn)))] [] h2) : Ev E (mLn zq) room_1 (QXL E zb) 76 16412 1073 [some (.ref 4000), some (.ref 0), some (.ref 49), some (.int (nI (6 * zn)))] [] h := by
  have hn : zn ≤ 512 := by omega
  refine ev_aload_n (pc := 1073) dL_law_1073 rfl ?_
  refine ev_aload_n (pc := 1074) dL_law_1074 rfl ?_
  refine ev_iload_n (pc := 1075) dL_law_1075 rfl ?_
  refine ev_iconst (pc := 1076) (v := 1) dL_law_1076 (by decide) ?_
  refine ev_iadd (pc := 1077) dL_law_1077 ?_
  refine ev_eqI (e' := nI (6 * zn + 1)) (show nI (6 * zn) + 1 = nI (6 * zn + 1) from nI_add (6 * zn) 1) ?_
  refine ev_sld (pc := 1078) (zj := 6 * zn + 1) hX (by omega) hz dL_law_1078 ?_
  refine ev_aload_n (pc := 1079) dL_law_1079 rfl ?_
  refine ev_iload_n (pc := 1080) dL_law_1080 rfl ?_
  refine ev_iconst (pc := 1081) (v := 2) dL_law_1081 (by decide) ?_
  refine ev_iadd (pc := 1082) dL_law_1082 ?_
  refine ev_eqI (e' := nI (6 * zn + 2)) (show nI (6 * zn) + 2 = nI (6 * zn + 2) from nI_add (6 * zn) 2) ?_
  refine ev_sld (pc := 1083) (zj := 6 * zn + 2) hX (by omega) hz dL_law_1083 ?_
  refine ev_st1 (pc := 1084) (st_copies E hi (zs (6 * zn + 1)) (zs (6 * zn + 2))) (Nat.le_of_ble_eq_true rfl) dL_law_1084 kX10_copies lL_133 vX10_copies rfl hi.1 rfl rfl (Nat.le_of_ble_eq_true rfl) (Nat.le_of_ble_eq_true rfl) (Nat.le_of_ble_eq_true rfl) (fun zx h1 w1 q1 => ?_)
  refine ev_aload_n (pc := 1087) dL_law_1087 rfl ?_
  refine ev_aload_n (pc := 1088) dL_law_1088 rfl ?_
  refine ev_iload_n (pc := 1089) dL_law_1089 rfl ?_
  refine ev_iconst (pc := 1090) (v := 1) dL_law_1090 (by decide) ?_
  refine ev_iadd (pc := 1091) dL_law_1091 ?_
  refine ev_eqI (e' := nI (6 * zn + 1)) (show nI (6 * zn) + 1 = nI (6 * zn + 1) from nI_add (6 * zn) 1) ?_
  refine ev_sld (pc := 1092) (zj := 6 * zn + 1) hX (by omega) hz dL_law_1092 ?_
  refine ev_aload_n (pc := 1093) dL_law_1093 rfl ?_
  refine ev_iload_n (pc := 1094) dL_law_1094 rfl ?_
  refine ev_iconst (pc := 1095) (v := 2) dL_law_1095 (by decide) ?_
  refine ev_iadd (pc := 1096) dL_law_1096 ?_
  refine ev_eqI (e' := nI (6 * zn + 2)) (show nI (6 * zn) + 2 = nI (6 * zn + 2) from nI_add (6 * zn) 2) ?_
  refine ev_sld (pc := 1097) (zj := 6 * zn + 2) hX (by omega) hz dL_law_1097 ?_
  refine ev_st2 (pc := 1098) q1 (Nat.le_of_ble_eq_true rfl) dL_law_1098 kX11_copies lL_136 vX11_copies rfl w1 rfl rfl (Nat.le_of_ble_eq_true rfl) (Nat.le_of_ble_eq_true rfl) (Nat.le_of_ble_eq_true rfl) (fun h2 i2 => ?_)
  exact ev_icmp_eq (pc := 1101) (tgt := 1502) dL_law_1101 (by decide) (fun _ => K h2 i2) (fun z => absurd rfl z)
theorem lw_c28 (E : ME) (zq : String) {zb zl zn : Nat} {zs : Nat → Int32} {h : AH} (hE : XOK E) (hX : XSc E zb zl zs) (hz : zl ≤ 3072) (hj : 6 * zn + 5 < zl) (hi : InV zn h) (K : ∀ h2 : AH, InV (zn + 1) h2 → Ev E (mLn zq) room_1 (QXL E zb) 76 16412 1502 [some (.ref 4000), some (.ref 0), some (.ref 49), some (.int (nI (6 * zn)))] [] h2) : Ev E (mLn zq) room_1 (QXL E zb) 76 16412 1106 [some (.ref 4000), some (.ref 0), some (.ref 49), some (.int (nI (6 * zn)))] [] h := by
  have hn : zn ≤ 512 := by omega
  refine ev_aload_n (pc := 1106) dL_law_1106 rfl ?_
  refine ev_st1 (pc := 1107) (st_symmetries E hi) (Nat.le_of_ble_eq_true rfl) dL_law_1107 kX10_symmetries lL_137 vX10_symmetries rfl hi.1 rfl rfl (Nat.le_of_ble_eq_true rfl) (Nat.le_of_ble_eq_true rfl) (Nat.le_of_ble_eq_true rfl) (fun zx h1 w1 q1 => ?_)
  refine ev_aload_n (pc := 1110) dL_law_1110 rfl ?_
  refine ev_st2 (pc := 1111) q1 (Nat.le_of_ble_eq_true rfl) dL_law_1111 kX11_symmetries lL_140 vX11_symmetries rfl w1 rfl rfl (Nat.le_of_ble_eq_true rfl) (Nat.le_of_ble_eq_true rfl) (Nat.le_of_ble_eq_true rfl) (fun h2 i2 => ?_)
  exact ev_icmp_eq (pc := 1114) (tgt := 1502) dL_law_1114 (by decide) (fun _ => K h2 i2) (fun z => absurd rfl z)
theorem lw_c29 (E : ME) (zq : String) {zb zl zn : Nat} {zs : Nat → Int32} {h : AH} (hE : XOK E) (hX : XSc E zb zl zs) (hz : zl ≤ 3072) (hj : 6 * zn + 5 < zl) (hi : InV zn h) (K : ∀ h2 : AH, InV (zn + 1) h2 → Ev E (mLn zq) room_1 (QXL E zb) 76 16412 1502 [some (.ref 4000), some (.ref 0), some (.ref 49), some (.int (nI (6 * zn)))] [] h2) : Ev E (mLn zq) room_1 (QXL E zb) 76 16412 1119 [some (.ref 4000), some (.ref 0), some (.ref 49), some (.int (nI (6 * zn)))] [] h := by
  have hn : zn ≤ 512 := by omega
  refine ev_aload_n (pc := 1119) dL_law_1119 rfl ?_
  refine ev_aload_n (pc := 1120) dL_law_1120 rfl ?_
  refine ev_iload_n (pc := 1121) dL_law_1121 rfl ?_
  refine ev_iconst (pc := 1122) (v := 1) dL_law_1122 (by decide) ?_
  refine ev_iadd (pc := 1123) dL_law_1123 ?_
  refine ev_eqI (e' := nI (6 * zn + 1)) (show nI (6 * zn) + 1 = nI (6 * zn + 1) from nI_add (6 * zn) 1) ?_
  refine ev_sld (pc := 1124) (zj := 6 * zn + 1) hX (by omega) hz dL_law_1124 ?_
  refine ev_aload_n (pc := 1125) dL_law_1125 rfl ?_
  refine ev_iload_n (pc := 1126) dL_law_1126 rfl ?_
  refine ev_iconst (pc := 1127) (v := 2) dL_law_1127 (by decide) ?_
  refine ev_iadd (pc := 1128) dL_law_1128 ?_
  refine ev_eqI (e' := nI (6 * zn + 2)) (show nI (6 * zn) + 2 = nI (6 * zn + 2) from nI_add (6 * zn) 2) ?_
  refine ev_sld (pc := 1129) (zj := 6 * zn + 2) hX (by omega) hz dL_law_1129 ?_
  refine ev_st1 (pc := 1130) (st_may E hi (zs (6 * zn + 1)) (zs (6 * zn + 2))) (Nat.le_of_ble_eq_true rfl) dL_law_1130 kX10_may lL_141 vX10_may rfl hi.1 rfl rfl (Nat.le_of_ble_eq_true rfl) (Nat.le_of_ble_eq_true rfl) (Nat.le_of_ble_eq_true rfl) (fun zx h1 w1 q1 => ?_)
  refine ev_aload_n (pc := 1133) dL_law_1133 rfl ?_
  refine ev_aload_n (pc := 1134) dL_law_1134 rfl ?_
  refine ev_iload_n (pc := 1135) dL_law_1135 rfl ?_
  refine ev_iconst (pc := 1136) (v := 1) dL_law_1136 (by decide) ?_
  refine ev_iadd (pc := 1137) dL_law_1137 ?_
  refine ev_eqI (e' := nI (6 * zn + 1)) (show nI (6 * zn) + 1 = nI (6 * zn + 1) from nI_add (6 * zn) 1) ?_
  refine ev_sld (pc := 1138) (zj := 6 * zn + 1) hX (by omega) hz dL_law_1138 ?_
  refine ev_aload_n (pc := 1139) dL_law_1139 rfl ?_
  refine ev_iload_n (pc := 1140) dL_law_1140 rfl ?_
  refine ev_iconst (pc := 1141) (v := 2) dL_law_1141 (by decide) ?_
  refine ev_iadd (pc := 1142) dL_law_1142 ?_
  refine ev_eqI (e' := nI (6 * zn + 2)) (show nI (6 * zn) + 2 = nI (6 * zn + 2) from nI_add (6 * zn) 2) ?_
  refine ev_sld (pc := 1143) (zj := 6 * zn + 2) hX (by omega) hz dL_law_1143 ?_
  refine ev_st2 (pc := 1144) q1 (Nat.le_of_ble_eq_true rfl) dL_law_1144 kX11_may lL_144 vX11_may rfl w1 rfl rfl (Nat.le_of_ble_eq_true rfl) (Nat.le_of_ble_eq_true rfl) (Nat.le_of_ble_eq_true rfl) (fun h2 i2 => ?_)
  exact ev_icmp_eq (pc := 1147) (tgt := 1502) dL_law_1147 (by decide) (fun _ => K h2 i2) (fun z => absurd rfl z)
theorem lw_c30 (E : ME) (zq : String) {zb zl zn : Nat} {zs : Nat → Int32} {h : AH} (hE : XOK E) (hX : XSc E zb zl zs) (hz : zl ≤ 3072) (hj : 6 * zn + 5 < zl) (hi : InV zn h) (K : ∀ h2 : AH, InV (zn + 1) h2 → Ev E (mLn zq) room_1 (QXL E zb) 76 16412 1502 [some (.ref 4000), some (.ref 0), some (.ref 49), some (.int (nI (6 * zn)))] [] h2) : Ev E (mLn zq) room_1 (QXL E zb) 76 16412 1152 [some (.ref 4000), some (.ref 0), some (.ref 49), some (.int (nI (6 * zn)))] [] h := by
  have hn : zn ≤ 512 := by omega
  refine ev_aload_n (pc := 1152) dL_law_1152 rfl ?_
  refine ev_aload_n (pc := 1153) dL_law_1153 rfl ?_
  refine ev_iload_n (pc := 1154) dL_law_1154 rfl ?_
  refine ev_iconst (pc := 1155) (v := 1) dL_law_1155 (by decide) ?_
  refine ev_iadd (pc := 1156) dL_law_1156 ?_
  refine ev_eqI (e' := nI (6 * zn + 1)) (show nI (6 * zn) + 1 = nI (6 * zn + 1) from nI_add (6 * zn) 1) ?_
  refine ev_sld (pc := 1157) (zj := 6 * zn + 1) hX (by omega) hz dL_law_1157 ?_
  refine ev_st1 (pc := 1158) (st_lost E hi (zs (6 * zn + 1))) (Nat.le_of_ble_eq_true rfl) dL_law_1158 kX10_lost lL_145 vX10_lost rfl hi.1 rfl rfl (Nat.le_of_ble_eq_true rfl) (Nat.le_of_ble_eq_true rfl) (Nat.le_of_ble_eq_true rfl) (fun zx h1 w1 q1 => ?_)
  refine ev_aload_n (pc := 1161) dL_law_1161 rfl ?_
  refine ev_aload_n (pc := 1162) dL_law_1162 rfl ?_
  refine ev_iload_n (pc := 1163) dL_law_1163 rfl ?_
  refine ev_iconst (pc := 1164) (v := 1) dL_law_1164 (by decide) ?_
  refine ev_iadd (pc := 1165) dL_law_1165 ?_
  refine ev_eqI (e' := nI (6 * zn + 1)) (show nI (6 * zn) + 1 = nI (6 * zn + 1) from nI_add (6 * zn) 1) ?_
  refine ev_sld (pc := 1166) (zj := 6 * zn + 1) hX (by omega) hz dL_law_1166 ?_
  refine ev_st2 (pc := 1167) q1 (Nat.le_of_ble_eq_true rfl) dL_law_1167 kX11_lost lL_148 vX11_lost rfl w1 rfl rfl (Nat.le_of_ble_eq_true rfl) (Nat.le_of_ble_eq_true rfl) (Nat.le_of_ble_eq_true rfl) (fun h2 i2 => ?_)
  exact ev_icmp_eq (pc := 1170) (tgt := 1502) dL_law_1170 (by decide) (fun _ => K h2 i2) (fun z => absurd rfl z)
theorem lw_c31 (E : ME) (zq : String) {zb zl zn : Nat} {zs : Nat → Int32} {h : AH} (hE : XOK E) (hX : XSc E zb zl zs) (hz : zl ≤ 3072) (hj : 6 * zn + 5 < zl) (hi : InV zn h) (K : ∀ h2 : AH, InV (zn + 1) h2 → Ev E (mLn zq) room_1 (QXL E zb) 76 16412 1502 [some (.ref 4000), some (.ref 0), some (.ref 49), some (.int (nI (6 * zn)))] [] h2) : Ev E (mLn zq) room_1 (QXL E zb) 76 16412 1175 [some (.ref 4000), some (.ref 0), some (.ref 49), some (.int (nI (6 * zn)))] [] h := by
  have hn : zn ≤ 512 := by omega
  refine ev_aload_n (pc := 1175) dL_law_1175 rfl ?_
  refine ev_st1 (pc := 1176) (st_fill E hi hn) (Nat.le_of_ble_eq_true rfl) dL_law_1176 kX10_fill lL_149 vX10_fill rfl hi.1 rfl rfl (Nat.le_of_ble_eq_true rfl) (Nat.le_of_ble_eq_true rfl) (Nat.le_of_ble_eq_true rfl) (fun zx h1 w1 q1 => ?_)
  refine ev_aload_n (pc := 1179) dL_law_1179 rfl ?_
  refine ev_st2 (pc := 1180) q1 (Nat.le_of_ble_eq_true rfl) dL_law_1180 kX11_fill lL_152 vX11_fill rfl w1 rfl rfl (Nat.le_of_ble_eq_true rfl) (Nat.le_of_ble_eq_true rfl) (Nat.le_of_ble_eq_true rfl) (fun h2 i2 => ?_)
  exact ev_icmp_eq (pc := 1183) (tgt := 1502) dL_law_1183 (by decide) (fun _ => K h2 i2) (fun z => absurd rfl z)
theorem lw_c32 (E : ME) (zq : String) {zb zl zn : Nat} {zs : Nat → Int32} {h : AH} (hE : XOK E) (hX : XSc E zb zl zs) (hz : zl ≤ 3072) (hj : 6 * zn + 5 < zl) (hi : InV zn h) (K : ∀ h2 : AH, InV (zn + 1) h2 → Ev E (mLn zq) room_1 (QXL E zb) 76 16412 1502 [some (.ref 4000), some (.ref 0), some (.ref 49), some (.int (nI (6 * zn)))] [] h2) : Ev E (mLn zq) room_1 (QXL E zb) 76 16412 1188 [some (.ref 4000), some (.ref 0), some (.ref 49), some (.int (nI (6 * zn)))] [] h := by
  have hn : zn ≤ 512 := by omega
  refine ev_aload_n (pc := 1188) dL_law_1188 rfl ?_
  refine ev_st1 (pc := 1189) (st_undo E hi hn) (Nat.le_of_ble_eq_true rfl) dL_law_1189 kX10_undo lL_153 vX10_undo rfl hi.1 rfl rfl (Nat.le_of_ble_eq_true rfl) (Nat.le_of_ble_eq_true rfl) (Nat.le_of_ble_eq_true rfl) (fun zx h1 w1 q1 => ?_)
  refine ev_aload_n (pc := 1192) dL_law_1192 rfl ?_
  refine ev_st2 (pc := 1193) q1 (Nat.le_of_ble_eq_true rfl) dL_law_1193 kX11_undo lL_156 vX11_undo rfl w1 rfl rfl (Nat.le_of_ble_eq_true rfl) (Nat.le_of_ble_eq_true rfl) (Nat.le_of_ble_eq_true rfl) (fun h2 i2 => ?_)
  exact ev_icmp_eq (pc := 1196) (tgt := 1502) dL_law_1196 (by decide) (fun _ => K h2 i2) (fun z => absurd rfl z)
theorem lw_c33 (E : ME) (zq : String) {zb zl zn : Nat} {zs : Nat → Int32} {h : AH} (hE : XOK E) (hX : XSc E zb zl zs) (hz : zl ≤ 3072) (hj : 6 * zn + 5 < zl) (hi : InV zn h) (K : ∀ h2 : AH, InV (zn + 1) h2 → Ev E (mLn zq) room_1 (QXL E zb) 76 16412 1502 [some (.ref 4000), some (.ref 0), some (.ref 49), some (.int (nI (6 * zn)))] [] h2) : Ev E (mLn zq) room_1 (QXL E zb) 76 16412 1201 [some (.ref 4000), some (.ref 0), some (.ref 49), some (.int (nI (6 * zn)))] [] h := by
  have hn : zn ≤ 512 := by omega
  refine ev_aload_n (pc := 1201) dL_law_1201 rfl ?_
  refine ev_aload_n (pc := 1202) dL_law_1202 rfl ?_
  refine ev_iload_n (pc := 1203) dL_law_1203 rfl ?_
  refine ev_iconst (pc := 1204) (v := 1) dL_law_1204 (by decide) ?_
  refine ev_iadd (pc := 1205) dL_law_1205 ?_
  refine ev_eqI (e' := nI (6 * zn + 1)) (show nI (6 * zn) + 1 = nI (6 * zn + 1) from nI_add (6 * zn) 1) ?_
  refine ev_sld (pc := 1206) (zj := 6 * zn + 1) hX (by omega) hz dL_law_1206 ?_
  refine ev_st1 (pc := 1207) (st_stones E hi (zs (6 * zn + 1))) (Nat.le_of_ble_eq_true rfl) dL_law_1207 kX10_stones lL_157 vX10_stones rfl hi.1 rfl rfl (Nat.le_of_ble_eq_true rfl) (Nat.le_of_ble_eq_true rfl) (Nat.le_of_ble_eq_true rfl) (fun zx h1 w1 q1 => ?_)
  refine ev_aload_n (pc := 1210) dL_law_1210 rfl ?_
  refine ev_aload_n (pc := 1211) dL_law_1211 rfl ?_
  refine ev_iload_n (pc := 1212) dL_law_1212 rfl ?_
  refine ev_iconst (pc := 1213) (v := 1) dL_law_1213 (by decide) ?_
  refine ev_iadd (pc := 1214) dL_law_1214 ?_
  refine ev_eqI (e' := nI (6 * zn + 1)) (show nI (6 * zn) + 1 = nI (6 * zn + 1) from nI_add (6 * zn) 1) ?_
  refine ev_sld (pc := 1215) (zj := 6 * zn + 1) hX (by omega) hz dL_law_1215 ?_
  refine ev_st2 (pc := 1216) q1 (Nat.le_of_ble_eq_true rfl) dL_law_1216 kX11_stones lL_160 vX11_stones rfl w1 rfl rfl (Nat.le_of_ble_eq_true rfl) (Nat.le_of_ble_eq_true rfl) (Nat.le_of_ble_eq_true rfl) (fun h2 i2 => ?_)
  exact ev_icmp_eq (pc := 1219) (tgt := 1502) dL_law_1219 (by decide) (fun _ => K h2 i2) (fun z => absurd rfl z)
theorem lw_c34 (E : ME) (zq : String) {zb zl zn : Nat} {zs : Nat → Int32} {h : AH} (hE : XOK E) (hX : XSc E zb zl zs) (hz : zl ≤ 3072) (hj : 6 * zn + 5 < zl) (hi : InV zn h) (K : ∀ h2 : AH, InV (zn + 1) h2 → Ev E (mLn zq) room_1 (QXL E zb) 76 16412 1502 [some (.ref 4000), some (.ref 0), some (.ref 49), some (.int (nI (6 * zn)))] [] h2) : Ev E (mLn zq) room_1 (QXL E zb) 76 16412 1224 [some (.ref 4000), some (.ref 0), some (.ref 49), some (.int (nI (6 * zn)))] [] h := by
  have hn : zn ≤ 512 := by omega
  refine ev_aload_n (pc := 1224) dL_law_1224 rfl ?_
  refine ev_aload_n (pc := 1225) dL_law_1225 rfl ?_
  refine ev_iload_n (pc := 1226) dL_law_1226 rfl ?_
  refine ev_iconst (pc := 1227) (v := 1) dL_law_1227 (by decide) ?_
  refine ev_iadd (pc := 1228) dL_law_1228 ?_
  refine ev_eqI (e' := nI (6 * zn + 1)) (show nI (6 * zn) + 1 = nI (6 * zn + 1) from nI_add (6 * zn) 1) ?_
  refine ev_sld (pc := 1229) (zj := 6 * zn + 1) hX (by omega) hz dL_law_1229 ?_
  refine ev_sj1 (pc := 1230) (st_works E hi (zs (6 * zn + 1))) (Nat.le_of_ble_eq_true rfl) dL_law_1230 kX10_works lL_161 vX10_works rfl hi.1 rfl rfl (Nat.le_of_ble_eq_true rfl) (Nat.le_of_ble_eq_true rfl) (Nat.le_of_ble_eq_true rfl) (fun zx h1 w1 q1 => ?_)
  refine ev_aload_n (pc := 1233) dL_law_1233 rfl ?_
  refine ev_aload_n (pc := 1234) dL_law_1234 rfl ?_
  refine ev_iload_n (pc := 1235) dL_law_1235 rfl ?_
  refine ev_iconst (pc := 1236) (v := 1) dL_law_1236 (by decide) ?_
  refine ev_iadd (pc := 1237) dL_law_1237 ?_
  refine ev_eqI (e' := nI (6 * zn + 1)) (show nI (6 * zn) + 1 = nI (6 * zn + 1) from nI_add (6 * zn) 1) ?_
  refine ev_sld (pc := 1238) (zj := 6 * zn + 1) hX (by omega) hz dL_law_1238 ?_
  refine ev_sj2 (pc := 1239) q1 (Nat.le_of_ble_eq_true rfl) dL_law_1239 kX11_works lL_165 vX11_works rfl w1 rfl rfl (Nat.le_of_ble_eq_true rfl) (Nat.le_of_ble_eq_true rfl) (Nat.le_of_ble_eq_true rfl) (fun h2 i2 => ?_)
  refine ev_lcmp (pc := 1242) dL_law_1242 ?_
  exact ev_if_eq (pc := 1243) (tgt := 1502) dL_law_1243 (by decide) (fun _ => K h2 i2) (fun z => absurd ((lc_eq zx zx).mpr rfl) z)
theorem lw_c35 (E : ME) (zq : String) {zb zl zn : Nat} {zs : Nat → Int32} {h : AH} (hE : XOK E) (hX : XSc E zb zl zs) (hz : zl ≤ 3072) (hj : 6 * zn + 5 < zl) (hi : InV zn h) (K : ∀ h2 : AH, InV (zn + 1) h2 → Ev E (mLn zq) room_1 (QXL E zb) 76 16412 1502 [some (.ref 4000), some (.ref 0), some (.ref 49), some (.int (nI (6 * zn)))] [] h2) : Ev E (mLn zq) room_1 (QXL E zb) 76 16412 1248 [some (.ref 4000), some (.ref 0), some (.ref 49), some (.int (nI (6 * zn)))] [] h := by
  have hn : zn ≤ 512 := by omega
  refine ev_aload_n (pc := 1248) dL_law_1248 rfl ?_
  refine ev_aload_n (pc := 1249) dL_law_1249 rfl ?_
  refine ev_iload_n (pc := 1250) dL_law_1250 rfl ?_
  refine ev_iconst (pc := 1251) (v := 1) dL_law_1251 (by decide) ?_
  refine ev_iadd (pc := 1252) dL_law_1252 ?_
  refine ev_eqI (e' := nI (6 * zn + 1)) (show nI (6 * zn) + 1 = nI (6 * zn + 1) from nI_add (6 * zn) 1) ?_
  refine ev_sld (pc := 1253) (zj := 6 * zn + 1) hX (by omega) hz dL_law_1253 ?_
  refine ev_aload_n (pc := 1254) dL_law_1254 rfl ?_
  refine ev_iload_n (pc := 1255) dL_law_1255 rfl ?_
  refine ev_iconst (pc := 1256) (v := 2) dL_law_1256 (by decide) ?_
  refine ev_iadd (pc := 1257) dL_law_1257 ?_
  refine ev_eqI (e' := nI (6 * zn + 2)) (show nI (6 * zn) + 2 = nI (6 * zn + 2) from nI_add (6 * zn) 2) ?_
  refine ev_sld (pc := 1258) (zj := 6 * zn + 2) hX (by omega) hz dL_law_1258 ?_
  refine ev_st1 (pc := 1259) (st_mix E hi hn (zs (6 * zn + 1)) (zs (6 * zn + 2))) (Nat.le_of_ble_eq_true rfl) dL_law_1259 kX10_mix lL_166 vX10_mix rfl hi.1 rfl rfl (Nat.le_of_ble_eq_true rfl) (Nat.le_of_ble_eq_true rfl) (Nat.le_of_ble_eq_true rfl) (fun zx h1 w1 q1 => ?_)
  refine ev_aload_n (pc := 1262) dL_law_1262 rfl ?_
  refine ev_aload_n (pc := 1263) dL_law_1263 rfl ?_
  refine ev_iload_n (pc := 1264) dL_law_1264 rfl ?_
  refine ev_iconst (pc := 1265) (v := 1) dL_law_1265 (by decide) ?_
  refine ev_iadd (pc := 1266) dL_law_1266 ?_
  refine ev_eqI (e' := nI (6 * zn + 1)) (show nI (6 * zn) + 1 = nI (6 * zn + 1) from nI_add (6 * zn) 1) ?_
  refine ev_sld (pc := 1267) (zj := 6 * zn + 1) hX (by omega) hz dL_law_1267 ?_
  refine ev_aload_n (pc := 1268) dL_law_1268 rfl ?_
  refine ev_iload_n (pc := 1269) dL_law_1269 rfl ?_
  refine ev_iconst (pc := 1270) (v := 2) dL_law_1270 (by decide) ?_
  refine ev_iadd (pc := 1271) dL_law_1271 ?_
  refine ev_eqI (e' := nI (6 * zn + 2)) (show nI (6 * zn) + 2 = nI (6 * zn + 2) from nI_add (6 * zn) 2) ?_
  refine ev_sld (pc := 1272) (zj := 6 * zn + 2) hX (by omega) hz dL_law_1272 ?_
  refine ev_st2 (pc := 1273) q1 (Nat.le_of_ble_eq_true rfl) dL_law_1273 kX11_mix lL_169 vX11_mix rfl w1 rfl rfl (Nat.le_of_ble_eq_true rfl) (Nat.le_of_ble_eq_true rfl) (Nat.le_of_ble_eq_true rfl) (fun h2 i2 => ?_)
  exact ev_icmp_eq (pc := 1276) (tgt := 1502) dL_law_1276 (by decide) (fun _ => K h2 i2) (fun z => absurd rfl z)
theorem lw_c36 (E : ME) (zq : String) {zb zl zn : Nat} {zs : Nat → Int32} {h : AH} (hE : XOK E) (hX : XSc E zb zl zs) (hz : zl ≤ 3072) (hj : 6 * zn + 5 < zl) (hi : InV zn h) (K : ∀ h2 : AH, InV (zn + 1) h2 → Ev E (mLn zq) room_1 (QXL E zb) 76 16412 1502 [some (.ref 4000), some (.ref 0), some (.ref 49), some (.int (nI (6 * zn)))] [] h2) : Ev E (mLn zq) room_1 (QXL E zb) 76 16412 1281 [some (.ref 4000), some (.ref 0), some (.ref 49), some (.int (nI (6 * zn)))] [] h := by
  have hn : zn ≤ 512 := by omega
  refine ev_aload_n (pc := 1281) dL_law_1281 rfl ?_
  refine ev_st1 (pc := 1282) (st_seams E hi) (Nat.le_of_ble_eq_true rfl) dL_law_1282 kX10_seams lL_170 vX10_seams rfl hi.1 rfl rfl (Nat.le_of_ble_eq_true rfl) (Nat.le_of_ble_eq_true rfl) (Nat.le_of_ble_eq_true rfl) (fun zx h1 w1 q1 => ?_)
  refine ev_aload_n (pc := 1285) dL_law_1285 rfl ?_
  refine ev_st2 (pc := 1286) q1 (Nat.le_of_ble_eq_true rfl) dL_law_1286 kX11_seams lL_173 vX11_seams rfl w1 rfl rfl (Nat.le_of_ble_eq_true rfl) (Nat.le_of_ble_eq_true rfl) (Nat.le_of_ble_eq_true rfl) (fun h2 i2 => ?_)
  exact ev_icmp_eq (pc := 1289) (tgt := 1502) dL_law_1289 (by decide) (fun _ => K h2 i2) (fun z => absurd rfl z)
theorem lw_c37 (E : ME) (zq : String) {zb zl zn : Nat} {zs : Nat → Int32} {h : AH} (hE : XOK E) (hX : XSc E zb zl zs) (hz : zl ≤ 3072) (hj : 6 * zn + 5 < zl) (hi : InV zn h) (K : ∀ h2 : AH, InV (zn + 1) h2 → Ev E (mLn zq) room_1 (QXL E zb) 76 16412 1502 [some (.ref 4000), some (.ref 0), some (.ref 49), some (.int (nI (6 * zn)))] [] h2) : Ev E (mLn zq) room_1 (QXL E zb) 76 16412 1294 [some (.ref 4000), some (.ref 0), some (.ref 49), some (.int (nI (6 * zn)))] [] h := by
  have hn : zn ≤ 512 := by omega
  refine ev_aload_n (pc := 1294) dL_law_1294 rfl ?_
  refine ev_aload_n (pc := 1295) dL_law_1295 rfl ?_
  refine ev_iload_n (pc := 1296) dL_law_1296 rfl ?_
  refine ev_iconst (pc := 1297) (v := 1) dL_law_1297 (by decide) ?_
  refine ev_iadd (pc := 1298) dL_law_1298 ?_
  refine ev_eqI (e' := nI (6 * zn + 1)) (show nI (6 * zn) + 1 = nI (6 * zn + 1) from nI_add (6 * zn) 1) ?_
  refine ev_sld (pc := 1299) (zj := 6 * zn + 1) hX (by omega) hz dL_law_1299 ?_
  refine ev_st1 (pc := 1300) (st_together E hi (zs (6 * zn + 1))) (Nat.le_of_ble_eq_true rfl) dL_law_1300 kX10_together lL_174 vX10_together rfl hi.1 rfl rfl (Nat.le_of_ble_eq_true rfl) (Nat.le_of_ble_eq_true rfl) (Nat.le_of_ble_eq_true rfl) (fun zx h1 w1 q1 => ?_)
  refine ev_aload_n (pc := 1303) dL_law_1303 rfl ?_
  refine ev_aload_n (pc := 1304) dL_law_1304 rfl ?_
  refine ev_iload_n (pc := 1305) dL_law_1305 rfl ?_
  refine ev_iconst (pc := 1306) (v := 1) dL_law_1306 (by decide) ?_
  refine ev_iadd (pc := 1307) dL_law_1307 ?_
  refine ev_eqI (e' := nI (6 * zn + 1)) (show nI (6 * zn) + 1 = nI (6 * zn + 1) from nI_add (6 * zn) 1) ?_
  refine ev_sld (pc := 1308) (zj := 6 * zn + 1) hX (by omega) hz dL_law_1308 ?_
  refine ev_st2 (pc := 1309) q1 (Nat.le_of_ble_eq_true rfl) dL_law_1309 kX11_together lL_177 vX11_together rfl w1 rfl rfl (Nat.le_of_ble_eq_true rfl) (Nat.le_of_ble_eq_true rfl) (Nat.le_of_ble_eq_true rfl) (fun h2 i2 => ?_)
  exact ev_icmp_eq (pc := 1312) (tgt := 1502) dL_law_1312 (by decide) (fun _ => K h2 i2) (fun z => absurd rfl z)
theorem lw_c38 (E : ME) (zq : String) {zb zl zn : Nat} {zs : Nat → Int32} {h : AH} (hE : XOK E) (hX : XSc E zb zl zs) (hz : zl ≤ 3072) (hj : 6 * zn + 5 < zl) (hi : InV zn h) (K : ∀ h2 : AH, InV (zn + 1) h2 → Ev E (mLn zq) room_1 (QXL E zb) 76 16412 1502 [some (.ref 4000), some (.ref 0), some (.ref 49), some (.int (nI (6 * zn)))] [] h2) : Ev E (mLn zq) room_1 (QXL E zb) 76 16412 1317 [some (.ref 4000), some (.ref 0), some (.ref 49), some (.int (nI (6 * zn)))] [] h := by
  have hn : zn ≤ 512 := by omega
  refine ev_aload_n (pc := 1317) dL_law_1317 rfl ?_
  refine ev_aload_n (pc := 1318) dL_law_1318 rfl ?_
  refine ev_iload_n (pc := 1319) dL_law_1319 rfl ?_
  refine ev_iconst (pc := 1320) (v := 1) dL_law_1320 (by decide) ?_
  refine ev_iadd (pc := 1321) dL_law_1321 ?_
  refine ev_eqI (e' := nI (6 * zn + 1)) (show nI (6 * zn) + 1 = nI (6 * zn + 1) from nI_add (6 * zn) 1) ?_
  refine ev_sld (pc := 1322) (zj := 6 * zn + 1) hX (by omega) hz dL_law_1322 ?_
  refine ev_aload_n (pc := 1323) dL_law_1323 rfl ?_
  refine ev_iload_n (pc := 1324) dL_law_1324 rfl ?_
  refine ev_iconst (pc := 1325) (v := 2) dL_law_1325 (by decide) ?_
  refine ev_iadd (pc := 1326) dL_law_1326 ?_
  refine ev_eqI (e' := nI (6 * zn + 2)) (show nI (6 * zn) + 2 = nI (6 * zn + 2) from nI_add (6 * zn) 2) ?_
  refine ev_sld (pc := 1327) (zj := 6 * zn + 2) hX (by omega) hz dL_law_1327 ?_
  refine ev_aload_n (pc := 1328) dL_law_1328 rfl ?_
  refine ev_iload_n (pc := 1329) dL_law_1329 rfl ?_
  refine ev_iconst (pc := 1330) (v := 3) dL_law_1330 (by decide) ?_
  refine ev_iadd (pc := 1331) dL_law_1331 ?_
  refine ev_eqI (e' := nI (6 * zn + 3)) (show nI (6 * zn) + 3 = nI (6 * zn + 3) from nI_add (6 * zn) 3) ?_
  refine ev_sld (pc := 1332) (zj := 6 * zn + 3) hX (by omega) hz dL_law_1332 ?_
  refine ev_st1 (pc := 1333) (st_sheet E hi (zs (6 * zn + 1)) (zs (6 * zn + 2)) (zs (6 * zn + 3))) (Nat.le_of_ble_eq_true rfl) dL_law_1333 kX10_sheet lL_178 vX10_sheet rfl hi.1 rfl rfl (Nat.le_of_ble_eq_true rfl) (Nat.le_of_ble_eq_true rfl) (Nat.le_of_ble_eq_true rfl) (fun zx h1 w1 q1 => ?_)
  refine ev_aload_n (pc := 1336) dL_law_1336 rfl ?_
  refine ev_aload_n (pc := 1337) dL_law_1337 rfl ?_
  refine ev_iload_n (pc := 1338) dL_law_1338 rfl ?_
  refine ev_iconst (pc := 1339) (v := 1) dL_law_1339 (by decide) ?_
  refine ev_iadd (pc := 1340) dL_law_1340 ?_
  refine ev_eqI (e' := nI (6 * zn + 1)) (show nI (6 * zn) + 1 = nI (6 * zn + 1) from nI_add (6 * zn) 1) ?_
  refine ev_sld (pc := 1341) (zj := 6 * zn + 1) hX (by omega) hz dL_law_1341 ?_
  refine ev_aload_n (pc := 1342) dL_law_1342 rfl ?_
  refine ev_iload_n (pc := 1343) dL_law_1343 rfl ?_
  refine ev_iconst (pc := 1344) (v := 2) dL_law_1344 (by decide) ?_
  refine ev_iadd (pc := 1345) dL_law_1345 ?_
  refine ev_eqI (e' := nI (6 * zn + 2)) (show nI (6 * zn) + 2 = nI (6 * zn + 2) from nI_add (6 * zn) 2) ?_
  refine ev_sld (pc := 1346) (zj := 6 * zn + 2) hX (by omega) hz dL_law_1346 ?_
  refine ev_aload_n (pc := 1347) dL_law_1347 rfl ?_
  refine ev_iload_n (pc := 1348) dL_law_1348 rfl ?_
  refine ev_iconst (pc := 1349) (v := 3) dL_law_1349 (by decide) ?_
  refine ev_iadd (pc := 1350) dL_law_1350 ?_
  refine ev_eqI (e' := nI (6 * zn + 3)) (show nI (6 * zn) + 3 = nI (6 * zn + 3) from nI_add (6 * zn) 3) ?_
  refine ev_sld (pc := 1351) (zj := 6 * zn + 3) hX (by omega) hz dL_law_1351 ?_
  refine ev_st2 (pc := 1352) q1 (Nat.le_of_ble_eq_true rfl) dL_law_1352 kX11_sheet lL_181 vX11_sheet rfl w1 rfl rfl (Nat.le_of_ble_eq_true rfl) (Nat.le_of_ble_eq_true rfl) (Nat.le_of_ble_eq_true rfl) (fun h2 i2 => ?_)
  exact ev_icmp_eq (pc := 1355) (tgt := 1502) dL_law_1355 (by decide) (fun _ => K h2 i2) (fun z => absurd rfl z)
theorem lw_c39 (E : ME) (zq : String) {zb zl zn : Nat} {zs : Nat → Int32} {h : AH} (hE : XOK E) (hX : XSc E zb zl zs) (hz : zl ≤ 3072) (hj : 6 * zn + 5 < zl) (hi : InV zn h) (K : ∀ h2 : AH, InV (zn + 1) h2 → Ev E (mLn zq) room_1 (QXL E zb) 76 16412 1502 [some (.ref 4000), some (.ref 0), some (.ref 49), some (.int (nI (6 * zn)))] [] h2) : Ev E (mLn zq) room_1 (QXL E zb) 76 16412 1360 [some (.ref 4000), some (.ref 0), some (.ref 49), some (.int (nI (6 * zn)))] [] h := by
  have hn : zn ≤ 512 := by omega
  refine ev_aload_n (pc := 1360) dL_law_1360 rfl ?_
  refine ev_aload_n (pc := 1361) dL_law_1361 rfl ?_
  refine ev_iload_n (pc := 1362) dL_law_1362 rfl ?_
  refine ev_iconst (pc := 1363) (v := 1) dL_law_1363 (by decide) ?_
  refine ev_iadd (pc := 1364) dL_law_1364 ?_
  refine ev_eqI (e' := nI (6 * zn + 1)) (show nI (6 * zn) + 1 = nI (6 * zn + 1) from nI_add (6 * zn) 1) ?_
  refine ev_sld (pc := 1365) (zj := 6 * zn + 1) hX (by omega) hz dL_law_1365 ?_
  refine ev_aload_n (pc := 1366) dL_law_1366 rfl ?_
  refine ev_iload_n (pc := 1367) dL_law_1367 rfl ?_
  refine ev_iconst (pc := 1368) (v := 2) dL_law_1368 (by decide) ?_
  refine ev_iadd (pc := 1369) dL_law_1369 ?_
  refine ev_eqI (e' := nI (6 * zn + 2)) (show nI (6 * zn) + 2 = nI (6 * zn + 2) from nI_add (6 * zn) 2) ?_
  refine ev_sld (pc := 1370) (zj := 6 * zn + 2) hX (by omega) hz dL_law_1370 ?_
  refine ev_aload_n (pc := 1371) dL_law_1371 rfl ?_
  refine ev_iload_n (pc := 1372) dL_law_1372 rfl ?_
  refine ev_iconst (pc := 1373) (v := 3) dL_law_1373 (by decide) ?_
  refine ev_iadd (pc := 1374) dL_law_1374 ?_
  refine ev_eqI (e' := nI (6 * zn + 3)) (show nI (6 * zn) + 3 = nI (6 * zn + 3) from nI_add (6 * zn) 3) ?_
  refine ev_sld (pc := 1375) (zj := 6 * zn + 3) hX (by omega) hz dL_law_1375 ?_
  obtain ⟨zd, ze, y1, y2, hs⟩ := st_write E hi (zs (6 * zn + 1)) (zs (6 * zn + 2)) (zs (6 * zn + 3))
  refine ev_st1 (pc := 1376) (hs) y1 dL_law_1376 kX10_write lL_182 vX10_write rfl hi.1 rfl rfl (Nat.le_of_ble_eq_true rfl) (Nat.le_of_ble_eq_true rfl) (Nat.le_of_ble_eq_true rfl) (fun zx h1 w1 q1 => ?_)
  refine ev_aload_n (pc := 1379) dL_law_1379 rfl ?_
  refine ev_aload_n (pc := 1380) dL_law_1380 rfl ?_
  refine ev_iload_n (pc := 1381) dL_law_1381 rfl ?_
  refine ev_iconst (pc := 1382) (v := 1) dL_law_1382 (by decide) ?_
  refine ev_iadd (pc := 1383) dL_law_1383 ?_
  refine ev_eqI (e' := nI (6 * zn + 1)) (show nI (6 * zn) + 1 = nI (6 * zn + 1) from nI_add (6 * zn) 1) ?_
  refine ev_sld (pc := 1384) (zj := 6 * zn + 1) hX (by omega) hz dL_law_1384 ?_
  refine ev_aload_n (pc := 1385) dL_law_1385 rfl ?_
  refine ev_iload_n (pc := 1386) dL_law_1386 rfl ?_
  refine ev_iconst (pc := 1387) (v := 2) dL_law_1387 (by decide) ?_
  refine ev_iadd (pc := 1388) dL_law_1388 ?_
  refine ev_eqI (e' := nI (6 * zn + 2)) (show nI (6 * zn) + 2 = nI (6 * zn + 2) from nI_add (6 * zn) 2) ?_
  refine ev_sld (pc := 1389) (zj := 6 * zn + 2) hX (by omega) hz dL_law_1389 ?_
  refine ev_aload_n (pc := 1390) dL_law_1390 rfl ?_
  refine ev_iload_n (pc := 1391) dL_law_1391 rfl ?_
  refine ev_iconst (pc := 1392) (v := 3) dL_law_1392 (by decide) ?_
  refine ev_iadd (pc := 1393) dL_law_1393 ?_
  refine ev_eqI (e' := nI (6 * zn + 3)) (show nI (6 * zn) + 3 = nI (6 * zn + 3) from nI_add (6 * zn) 3) ?_
  refine ev_sld (pc := 1394) (zj := 6 * zn + 3) hX (by omega) hz dL_law_1394 ?_
  refine ev_st2 (pc := 1395) q1 y2 dL_law_1395 kX11_write lL_185 vX11_write rfl w1 rfl rfl (Nat.le_of_ble_eq_true rfl) (Nat.le_of_ble_eq_true rfl) (Nat.le_of_ble_eq_true rfl) (fun h2 i2 => ?_)
  exact ev_icmp_eq (pc := 1398) (tgt := 1502) dL_law_1398 (by decide) (fun _ => K h2 i2) (fun z => absurd rfl z)
theorem lw_c40 (E : ME) (zq : String) {zb zl zn : Nat} {zs : Nat → Int32} {h : AH} (hE : XOK E) (hX : XSc E zb zl zs) (hz : zl ≤ 3072) (hj : 6 * zn + 5 < zl) (hi : InV zn h) (K : ∀ h2 : AH, InV (zn + 1) h2 → Ev E (mLn zq) room_1 (QXL E zb) 76 16412 1502 [some (.ref 4000), some (.ref 0), some (.ref 49), some (.int (nI (6 * zn)))] [] h2) : Ev E (mLn zq) room_1 (QXL E zb) 76 16412 1403 [some (.ref 4000), some (.ref 0), some (.ref 49), some (.int (nI (6 * zn)))] [] h := by
  have hn : zn ≤ 512 := by omega
  refine ev_aload_n (pc := 1403) dL_law_1403 rfl ?_
  refine ev_aload_n (pc := 1404) dL_law_1404 rfl ?_
  refine ev_iload_n (pc := 1405) dL_law_1405 rfl ?_
  refine ev_iconst (pc := 1406) (v := 1) dL_law_1406 (by decide) ?_
  refine ev_iadd (pc := 1407) dL_law_1407 ?_
  refine ev_eqI (e' := nI (6 * zn + 1)) (show nI (6 * zn) + 1 = nI (6 * zn + 1) from nI_add (6 * zn) 1) ?_
  refine ev_sld (pc := 1408) (zj := 6 * zn + 1) hX (by omega) hz dL_law_1408 ?_
  refine ev_aload_n (pc := 1409) dL_law_1409 rfl ?_
  refine ev_iload_n (pc := 1410) dL_law_1410 rfl ?_
  refine ev_iconst (pc := 1411) (v := 2) dL_law_1411 (by decide) ?_
  refine ev_iadd (pc := 1412) dL_law_1412 ?_
  refine ev_eqI (e' := nI (6 * zn + 2)) (show nI (6 * zn) + 2 = nI (6 * zn + 2) from nI_add (6 * zn) 2) ?_
  refine ev_sld (pc := 1413) (zj := 6 * zn + 2) hX (by omega) hz dL_law_1413 ?_
  refine ev_aload_n (pc := 1414) dL_law_1414 rfl ?_
  refine ev_iload_n (pc := 1415) dL_law_1415 rfl ?_
  refine ev_iconst (pc := 1416) (v := 3) dL_law_1416 (by decide) ?_
  refine ev_iadd (pc := 1417) dL_law_1417 ?_
  refine ev_eqI (e' := nI (6 * zn + 3)) (show nI (6 * zn) + 3 = nI (6 * zn + 3) from nI_add (6 * zn) 3) ?_
  refine ev_sld (pc := 1418) (zj := 6 * zn + 3) hX (by omega) hz dL_law_1418 ?_
  refine ev_aload_n (pc := 1419) dL_law_1419 rfl ?_
  refine ev_iload_n (pc := 1420) dL_law_1420 rfl ?_
  refine ev_iconst (pc := 1421) (v := 4) dL_law_1421 (by decide) ?_
  refine ev_iadd (pc := 1422) dL_law_1422 ?_
  refine ev_eqI (e' := nI (6 * zn + 4)) (show nI (6 * zn) + 4 = nI (6 * zn + 4) from nI_add (6 * zn) 4) ?_
  refine ev_sld (pc := 1423) (zj := 6 * zn + 4) hX (by omega) hz dL_law_1423 ?_
  refine ev_aload_n (pc := 1424) dL_law_1424 rfl ?_
  refine ev_iload_n (pc := 1425) dL_law_1425 rfl ?_
  refine ev_iconst (pc := 1426) (v := 5) dL_law_1426 (by decide) ?_
  refine ev_iadd (pc := 1427) dL_law_1427 ?_
  refine ev_eqI (e' := nI (6 * zn + 5)) (show nI (6 * zn) + 5 = nI (6 * zn + 5) from nI_add (6 * zn) 5) ?_
  refine ev_sld (pc := 1428) (zj := 6 * zn + 5) hX (by omega) hz dL_law_1428 ?_
  refine ev_st1 (pc := 1429) (st_read E hi hn (zs (6 * zn + 1)) (zs (6 * zn + 2)) (zs (6 * zn + 3)) (zs (6 * zn + 4)) (zs (6 * zn + 5))) (Nat.le_of_ble_eq_true rfl) dL_law_1429 kX10_read lL_186 vX10_read rfl hi.1 rfl rfl (Nat.le_of_ble_eq_true rfl) (Nat.le_of_ble_eq_true rfl) (Nat.le_of_ble_eq_true rfl) (fun zx h1 w1 q1 => ?_)
  refine ev_aload_n (pc := 1432) dL_law_1432 rfl ?_
  refine ev_aload_n (pc := 1433) dL_law_1433 rfl ?_
  refine ev_iload_n (pc := 1434) dL_law_1434 rfl ?_
  refine ev_iconst (pc := 1435) (v := 1) dL_law_1435 (by decide) ?_
  refine ev_iadd (pc := 1436) dL_law_1436 ?_
  refine ev_eqI (e' := nI (6 * zn + 1)) (show nI (6 * zn) + 1 = nI (6 * zn + 1) from nI_add (6 * zn) 1) ?_
  refine ev_sld (pc := 1437) (zj := 6 * zn + 1) hX (by omega) hz dL_law_1437 ?_
  refine ev_aload_n (pc := 1438) dL_law_1438 rfl ?_
  refine ev_iload_n (pc := 1439) dL_law_1439 rfl ?_
  refine ev_iconst (pc := 1440) (v := 2) dL_law_1440 (by decide) ?_
  refine ev_iadd (pc := 1441) dL_law_1441 ?_
  refine ev_eqI (e' := nI (6 * zn + 2)) (show nI (6 * zn) + 2 = nI (6 * zn + 2) from nI_add (6 * zn) 2) ?_
  refine ev_sld (pc := 1442) (zj := 6 * zn + 2) hX (by omega) hz dL_law_1442 ?_
  refine ev_aload_n (pc := 1443) dL_law_1443 rfl ?_
  refine ev_iload_n (pc := 1444) dL_law_1444 rfl ?_
  refine ev_iconst (pc := 1445) (v := 3) dL_law_1445 (by decide) ?_
  refine ev_iadd (pc := 1446) dL_law_1446 ?_
  refine ev_eqI (e' := nI (6 * zn + 3)) (show nI (6 * zn) + 3 = nI (6 * zn + 3) from nI_add (6 * zn) 3) ?_
  refine ev_sld (pc := 1447) (zj := 6 * zn + 3) hX (by omega) hz dL_law_1447 ?_
  refine ev_aload_n (pc := 1448) dL_law_1448 rfl ?_
  refine ev_iload_n (pc := 1449) dL_law_1449 rfl ?_
  refine ev_iconst (pc := 1450) (v := 4) dL_law_1450 (by decide) ?_
  refine ev_iadd (pc := 1451) dL_law_1451 ?_
  refine ev_eqI (e' := nI (6 * zn + 4)) (show nI (6 * zn) + 4 = nI (6 * zn + 4) from nI_add (6 * zn) 4) ?_
  refine ev_sld (pc := 1452) (zj := 6 * zn + 4) hX (by omega) hz dL_law_1452 ?_
  refine ev_aload_n (pc := 1453) dL_law_1453 rfl ?_
  refine ev_iload_n (pc := 1454) dL_law_1454 rfl ?_
  refine ev_iconst (pc := 1455) (v := 5) dL_law_1455 (by decide) ?_
  refine ev_iadd (pc := 1456) dL_law_1456 ?_
  refine ev_eqI (e' := nI (6 * zn + 5)) (show nI (6 * zn) + 5 = nI (6 * zn + 5) from nI_add (6 * zn) 5) ?_
  refine ev_sld (pc := 1457) (zj := 6 * zn + 5) hX (by omega) hz dL_law_1457 ?_
  refine ev_st2 (pc := 1458) q1 (Nat.le_of_ble_eq_true rfl) dL_law_1458 kX11_read lL_189 vX11_read rfl w1 rfl rfl (Nat.le_of_ble_eq_true rfl) (Nat.le_of_ble_eq_true rfl) (Nat.le_of_ble_eq_true rfl) (fun h2 i2 => ?_)
  exact ev_icmp_eq (pc := 1461) (tgt := 1502) dL_law_1461 (by decide) (fun _ => K h2 i2) (fun z => absurd rfl z)
theorem lw_c41 (E : ME) (zq : String) {zb zl zn : Nat} {zs : Nat → Int32} {h : AH} (hE : XOK E) (hX : XSc E zb zl zs) (hz : zl ≤ 3072) (hj : 6 * zn + 5 < zl) (hi : InV zn h) (K : ∀ h2 : AH, InV (zn + 1) h2 → Ev E (mLn zq) room_1 (QXL E zb) 76 16412 1502 [some (.ref 4000), some (.ref 0), some (.ref 49), some (.int (nI (6 * zn)))] [] h2) : Ev E (mLn zq) room_1 (QXL E zb) 76 16412 1466 [some (.ref 4000), some (.ref 0), some (.ref 49), some (.int (nI (6 * zn)))] [] h := by
  have hn : zn ≤ 512 := by omega
  refine ev_aload_n (pc := 1466) dL_law_1466 rfl ?_
  refine ev_st1 (pc := 1467) (st_torn E hi) (Nat.le_of_ble_eq_true rfl) dL_law_1467 kX10_torn lL_190 vX10_torn rfl hi.1 rfl rfl (Nat.le_of_ble_eq_true rfl) (Nat.le_of_ble_eq_true rfl) (Nat.le_of_ble_eq_true rfl) (fun zx h1 w1 q1 => ?_)
  refine ev_aload_n (pc := 1470) dL_law_1470 rfl ?_
  refine ev_st2 (pc := 1471) q1 (Nat.le_of_ble_eq_true rfl) dL_law_1471 kX11_torn lL_193 vX11_torn rfl w1 rfl rfl (Nat.le_of_ble_eq_true rfl) (Nat.le_of_ble_eq_true rfl) (Nat.le_of_ble_eq_true rfl) (fun h2 i2 => ?_)
  exact ev_icmp_eq (pc := 1474) (tgt := 1502) dL_law_1474 (by decide) (fun _ => K h2 i2) (fun z => absurd rfl z)
theorem lw_c42 (E : ME) (zq : String) {zb zl zn : Nat} {zs : Nat → Int32} {h : AH} (hE : XOK E) (hX : XSc E zb zl zs) (hz : zl ≤ 3072) (hj : 6 * zn + 5 < zl) (hi : InV zn h) (K : ∀ h2 : AH, InV (zn + 1) h2 → Ev E (mLn zq) room_1 (QXL E zb) 76 16412 1502 [some (.ref 4000), some (.ref 0), some (.ref 49), some (.int (nI (6 * zn)))] [] h2) : Ev E (mLn zq) room_1 (QXL E zb) 76 16412 1479 [some (.ref 4000), some (.ref 0), some (.ref 49), some (.int (nI (6 * zn)))] [] h := by
  have hn : zn ≤ 512 := by omega
  refine ev_aload_n (pc := 1479) dL_law_1479 rfl ?_
  refine ev_aload_n (pc := 1480) dL_law_1480 rfl ?_
  refine ev_iload_n (pc := 1481) dL_law_1481 rfl ?_
  refine ev_iconst (pc := 1482) (v := 1) dL_law_1482 (by decide) ?_
  refine ev_iadd (pc := 1483) dL_law_1483 ?_
  refine ev_eqI (e' := nI (6 * zn + 1)) (show nI (6 * zn) + 1 = nI (6 * zn + 1) from nI_add (6 * zn) 1) ?_
  refine ev_sld (pc := 1484) (zj := 6 * zn + 1) hX (by omega) hz dL_law_1484 ?_
  refine ev_st1 (pc := 1485) (st_count E hi (zs (6 * zn + 1))) (Nat.le_of_ble_eq_true rfl) dL_law_1485 kX10_count lL_194 vX10_count rfl hi.1 rfl rfl (Nat.le_of_ble_eq_true rfl) (Nat.le_of_ble_eq_true rfl) (Nat.le_of_ble_eq_true rfl) (fun zx h1 w1 q1 => ?_)
  refine ev_aload_n (pc := 1488) dL_law_1488 rfl ?_
  refine ev_aload_n (pc := 1489) dL_law_1489 rfl ?_
  refine ev_iload_n (pc := 1490) dL_law_1490 rfl ?_
  refine ev_iconst (pc := 1491) (v := 1) dL_law_1491 (by decide) ?_
  refine ev_iadd (pc := 1492) dL_law_1492 ?_
  refine ev_eqI (e' := nI (6 * zn + 1)) (show nI (6 * zn) + 1 = nI (6 * zn + 1) from nI_add (6 * zn) 1) ?_
  refine ev_sld (pc := 1493) (zj := 6 * zn + 1) hX (by omega) hz dL_law_1493 ?_
  refine ev_st2 (pc := 1494) q1 (Nat.le_of_ble_eq_true rfl) dL_law_1494 kX11_count lL_197 vX11_count rfl w1 rfl rfl (Nat.le_of_ble_eq_true rfl) (Nat.le_of_ble_eq_true rfl) (Nat.le_of_ble_eq_true rfl) (fun h2 i2 => ?_)
  exact ev_icmp_eq (pc := 1497) (tgt := 1502) dL_law_1497 (by decide) (fun _ => K h2 i2) (fun z => absurd rfl z)
