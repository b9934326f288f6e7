/-! THE LAW'S LOOP -/
theorem Cp.wr {m : St} {h : Hp} (c : Cp m h) : ∃ R : Rm, WR m R ∧ CR m h R := c.c12
set_option maxRecDepth 8000 in
set_option maxHeartbeats 4000000 in
theorem law_loop {E : En} (hok : EOK E) {L : Nat} {xs : Nat → Int32} (hX : XS E L xs) (hL : L ≤ 3072) {h0 : Hp} {Q : Option V → Hp → Prop} (hQ : ∀ h2, Q (some (vI (nI 1))) h2) : ∀ (n c i : Nat) (m : St) (h1 : Hp) (cu su : Nat), i = 6 * c → 512 - c < n → In c m → Cp m h1 → mo h1 = m → (c ≤ 512 ∧ cu + 5 * (512 - c) ≤ 500000) → su + 83 * (512 - c) ≤ 7000000 → G E m_L_law 1300 600000 7302250 Q h0 18 [some (vR (90, 0)), some (vR TH), some (vR MO), some (vI (nI i))] [] h1 cu su := by
  intro n
  induction n with
  | zero =>
    intro c i m h1 cu su hi hn
    omega
  | succ n ih =>
    intro c i m h1 cu su hic hn hin hc em hcu hsu
    obtain ⟨hw, hx, hg, -, -⟩ := id hin
    have hn512 := hcu.1
    have hn : Wn m := hin.n hn512
    have hXs := hX
    obtain ⟨R, hR, hCR⟩ := hc.wr
    skip
    refine g_iload_n (pc' := 19) dL_law_18 rfl rfl ?_
    refine g_aload_n (pc' := 20) dL_law_19 rfl rfl ?_
    refine g_slen (pc' := 21) dL_law_20 rfl hXs ?_
    refine g_bipushN (n := 6) (pc' := 23) dL_law_21 rfl (by decide) ?_
    refine g_isub (pc' := 24) dL_law_23 rfl ?_
    refine g_icmp_gt (tgt := 1554) (pc' := 27) dL_law_24 rfl (by decide) (fun c24 => ?_) (fun c24 => ?_)
    ·
      refine g_iconstN (n := 1) (pc' := 1555) dL_law_1554 rfl ?_
      refine g_zret dL_law_1555 rfl (by rfl) (by omega) (by omega) ?_
      exact hQ h1
    ·
      have i6 := ge6 hL (show i ≤ 4000 by omega) c24
      refine g_aload_n (pc' := 28) dL_law_27 rfl rfl ?_
      refine g_iload_n (pc' := 29) dL_law_28 rfl rfl ?_
      refine g_sld (pc' := 30) dL_law_29 rfl hXs (by omega) ?_
      refine g_bipushN (n := 63) (pc' := 32) dL_law_30 rfl (by decide) ?_
      refine g_iand (pc' := 33) dL_law_32 rfl ?_
      generalize xs (i) &&& nI 63 = sw
      rcases Classical.em (sw = nI 0) with rfl | w0
      ·
        refine g_tabIn (off := 175) (tgt := 208) dL_law_33 (by decide) (by decide) rfl (by decide) ?_
        refine g_aload_n (pc' := 209) dL_law_208 rfl rfl ?_
        refine g_aload_n (pc' := 210) dL_law_209 rfl rfl ?_
        refine g_iload_n (pc' := 211) dL_law_210 rfl rfl ?_
        refine g_iconstN (n := 1) (pc' := 212) dL_law_211 rfl ?_
        refine g_iaddN (pc' := 213) dL_law_212 rfl ?_
        refine g_sld (pc' := 214) dL_law_213 rfl hXs (by omega) ?_
        refine g_invV (pc' := 217) (cx_now hok hc hw (xs ((i + 1)))) dL_law_214 rfl rfl ck_12 rfl ml_L_13 im_X11_now sl_X11_now in_X11 co_X11_now pd_X11_now rfl (by omega) (by decide) ⟨by omega, by omega⟩ (Nat.le_of_ble_eq_true rfl) ?_
        rintro _ h2 ⟨rfl, hc2, em1⟩ -
        have em2 : mo h2 = m := em1.trans em
        refine g_aload_n (pc' := 218) dL_law_217 rfl rfl ?_
        refine g_aload_n (pc' := 219) dL_law_218 rfl rfl ?_
        refine g_iload_n (pc' := 220) dL_law_219 rfl rfl ?_
        refine g_iconstN (n := 1) (pc' := 221) dL_law_220 rfl ?_
        refine g_iaddN (pc' := 222) dL_law_221 rfl ?_
        refine g_sld (pc' := 223) dL_law_222 rfl hXs (by omega) ?_
        have cmq := cm_now (h := h2) hok hc2.s (by rw [em2]; exact hw) (xs (i + 1))
        rw [em2] at cmq
        refine g_invV (pc' := 226) (cmq) dL_law_223 rfl rfl ck_13 rfl ml_L_17 im_X12_now sl_X12_now in_X12 co_X12_now pd_X12_now rfl (by omega) (by decide) ⟨by omega, by omega⟩ (Nat.le_of_ble_eq_true rfl) ?_
        rintro _ h3 ⟨rfl, em3, mk3⟩ -
        refine g_icmp_eq (tgt := 1548) (pc' := 229) dL_law_226 rfl (by decide) (fun c226 => ?_) (fun c226 => ?_)
        ·
          refine g_iincN (k := 6) (pc' := 1551) dL_law_1548 rfl rfl (by decide) rfl ?_
          try simp only [List.set]
          refine g_goto (tgt := 18) dL_law_1551 (by decide) ?_
          exact ih (c + 1) (i + 6) _ h3 _ _ (by omega) (by omega) (in_now hin (by omega) (xs (i + 1))) (hc2.mk mk3) em3 (by omega) (by omega)
        · exact absurd rfl c226
      rcases Classical.em (sw = nI 1) with rfl | w1
      ·
        refine g_tabIn (off := 198) (tgt := 231) dL_law_33 (by decide) (by decide) rfl (by decide) ?_
        refine g_aload_n (pc' := 232) dL_law_231 rfl rfl ?_
        refine g_aload_n (pc' := 233) dL_law_232 rfl rfl ?_
        refine g_iload_n (pc' := 234) dL_law_233 rfl rfl ?_
        refine g_iconstN (n := 1) (pc' := 235) dL_law_234 rfl ?_
        refine g_iaddN (pc' := 236) dL_law_235 rfl ?_
        refine g_sld (pc' := 237) dL_law_236 rfl hXs (by omega) ?_
        refine g_aload_n (pc' := 238) dL_law_237 rfl rfl ?_
        refine g_iload_n (pc' := 239) dL_law_238 rfl rfl ?_
        refine g_iconstN (n := 2) (pc' := 240) dL_law_239 rfl ?_
        refine g_iaddN (pc' := 241) dL_law_240 rfl ?_
        refine g_sld (pc' := 242) dL_law_241 rfl hXs (by omega) ?_
        refine g_aload_n (pc' := 243) dL_law_242 rfl rfl ?_
        refine g_iload_n (pc' := 244) dL_law_243 rfl rfl ?_
        refine g_iconstN (n := 3) (pc' := 245) dL_law_244 rfl ?_
        refine g_iaddN (pc' := 246) dL_law_245 rfl ?_
        refine g_sld (pc' := 247) dL_law_246 rfl hXs (by omega) ?_
        refine g_aload_n (pc' := 248) dL_law_247 rfl rfl ?_
        refine g_iload_n (pc' := 249) dL_law_248 rfl rfl ?_
        refine g_iconstN (n := 4) (pc' := 250) dL_law_249 rfl ?_
        refine g_iaddN (pc' := 251) dL_law_250 rfl ?_
        refine g_sld (pc' := 252) dL_law_251 rfl hXs (by omega) ?_
        refine g_aload_n (pc' := 253) dL_law_252 rfl rfl ?_
        refine g_iload_n (pc' := 254) dL_law_253 rfl rfl ?_
        refine g_iconstN (n := 5) (pc' := 255) dL_law_254 rfl ?_
        refine g_iaddN (pc' := 256) dL_law_255 rfl ?_
        refine g_sld (pc' := 257) dL_law_256 rfl hXs (by omega) ?_
        refine g_invV (pc' := 260) (cx_kind hok hc hw hx (xs ((i + 1))) (xs ((i + 2))) (xs ((i + 3))) (xs ((i + 4))) (xs ((i + 5)))) dL_law_257 rfl rfl ck_12 rfl ml_L_18 im_X11_kind sl_X11_kind in_X11 co_X11_kind pd_X11_kind rfl (by omega) (by decide) ⟨by omega, by omega⟩ (Nat.le_of_ble_eq_true rfl) ?_
        rintro _ h2 ⟨rfl, hc2, em1⟩ -
        have em2 : mo h2 = m := em1.trans em
        refine g_aload_n (pc' := 261) dL_law_260 rfl rfl ?_
        refine g_aload_n (pc' := 262) dL_law_261 rfl rfl ?_
        refine g_iload_n (pc' := 263) dL_law_262 rfl rfl ?_
        refine g_iconstN (n := 1) (pc' := 264) dL_law_263 rfl ?_
        refine g_iaddN (pc' := 265) dL_law_264 rfl ?_
        refine g_sld (pc' := 266) dL_law_265 rfl hXs (by omega) ?_
        refine g_aload_n (pc' := 267) dL_law_266 rfl rfl ?_
        refine g_iload_n (pc' := 268) dL_law_267 rfl rfl ?_
        refine g_iconstN (n := 2) (pc' := 269) dL_law_268 rfl ?_
        refine g_iaddN (pc' := 270) dL_law_269 rfl ?_
        refine g_sld (pc' := 271) dL_law_270 rfl hXs (by omega) ?_
        refine g_aload_n (pc' := 272) dL_law_271 rfl rfl ?_
        refine g_iload_n (pc' := 273) dL_law_272 rfl rfl ?_
        refine g_iconstN (n := 3) (pc' := 274) dL_law_273 rfl ?_
        refine g_iaddN (pc' := 275) dL_law_274 rfl ?_
        refine g_sld (pc' := 276) dL_law_275 rfl hXs (by omega) ?_
        refine g_aload_n (pc' := 277) dL_law_276 rfl rfl ?_
        refine g_iload_n (pc' := 278) dL_law_277 rfl rfl ?_
        refine g_iconstN (n := 4) (pc' := 279) dL_law_278 rfl ?_
        refine g_iaddN (pc' := 280) dL_law_279 rfl ?_
        refine g_sld (pc' := 281) dL_law_280 rfl hXs (by omega) ?_
        refine g_aload_n (pc' := 282) dL_law_281 rfl rfl ?_
        refine g_iload_n (pc' := 283) dL_law_282 rfl rfl ?_
        refine g_iconstN (n := 5) (pc' := 284) dL_law_283 rfl ?_
        refine g_iaddN (pc' := 285) dL_law_284 rfl ?_
        refine g_sld (pc' := 286) dL_law_285 rfl hXs (by omega) ?_
        have cmq := cm_kind (h := h2) hok hc2.s (by rw [em2]; exact hw) (xs (i + 1)) (xs (i + 2)) (xs (i + 3)) (xs (i + 4)) (xs (i + 5))
        rw [em2] at cmq
        refine g_invV (pc' := 289) (cmq) dL_law_286 rfl rfl ck_13 rfl ml_L_22 im_X12_kind sl_X12_kind in_X12 co_X12_kind pd_X12_kind rfl (by omega) (by decide) ⟨by omega, by omega⟩ (Nat.le_of_ble_eq_true rfl) ?_
        rintro _ h3 ⟨rfl, em3, mk3⟩ -
        refine g_icmp_eq (tgt := 1548) (pc' := 292) dL_law_289 rfl (by decide) (fun c289 => ?_) (fun c289 => ?_)
        ·
          refine g_iincN (k := 6) (pc' := 1551) dL_law_1548 rfl rfl (by decide) rfl ?_
          try simp only [List.set]
          refine g_goto (tgt := 18) dL_law_1551 (by decide) ?_
          exact ih (c + 1) (i + 6) _ h3 _ _ (by omega) (by omega) (in_kind hin (by omega) (xs (i + 1)) (xs (i + 2)) (xs (i + 3)) (xs (i + 4)) (xs (i + 5))) (hc2.mk mk3) em3 (by omega) (by omega)
        · exact absurd rfl c289
      rcases Classical.em (sw = nI 2) with rfl | w2
      ·
        refine g_tabIn (off := 261) (tgt := 294) dL_law_33 (by decide) (by decide) rfl (by decide) ?_
        refine g_aload_n (pc' := 295) dL_law_294 rfl rfl ?_
        refine g_aload_n (pc' := 296) dL_law_295 rfl rfl ?_
        refine g_iload_n (pc' := 297) dL_law_296 rfl rfl ?_
        refine g_iconstN (n := 1) (pc' := 298) dL_law_297 rfl ?_
        refine g_iaddN (pc' := 299) dL_law_298 rfl ?_
        refine g_sld (pc' := 300) dL_law_299 rfl hXs (by omega) ?_
        refine g_aload_n (pc' := 301) dL_law_300 rfl rfl ?_
        refine g_iload_n (pc' := 302) dL_law_301 rfl rfl ?_
        refine g_iconstN (n := 2) (pc' := 303) dL_law_302 rfl ?_
        refine g_iaddN (pc' := 304) dL_law_303 rfl ?_
        refine g_sld (pc' := 305) dL_law_304 rfl hXs (by omega) ?_
        refine g_aload_n (pc' := 306) dL_law_305 rfl rfl ?_
        refine g_iload_n (pc' := 307) dL_law_306 rfl rfl ?_
        refine g_iconstN (n := 3) (pc' := 308) dL_law_307 rfl ?_
        refine g_iaddN (pc' := 309) dL_law_308 rfl ?_
        refine g_sld (pc' := 310) dL_law_309 rfl hXs (by omega) ?_
        refine g_aload_n (pc' := 311) dL_law_310 rfl rfl ?_
        refine g_iload_n (pc' := 312) dL_law_311 rfl rfl ?_
        refine g_iconstN (n := 4) (pc' := 313) dL_law_312 rfl ?_
        refine g_iaddN (pc' := 314) dL_law_313 rfl ?_
        refine g_sld (pc' := 315) dL_law_314 rfl hXs (by omega) ?_
        refine g_invV (pc' := 318) (cx_pieces hok hc hw (xs ((i + 1))) (xs ((i + 2))) (xs ((i + 3))) (xs ((i + 4)))) dL_law_315 rfl rfl ck_12 rfl ml_L_23 im_X11_pieces sl_X11_pieces in_X11 co_X11_pieces pd_X11_pieces rfl (by omega) (by decide) ⟨by omega, by omega⟩ (Nat.le_of_ble_eq_true rfl) ?_
        rintro _ h2 ⟨rfl, hc2, em1⟩ -
        have em2 : mo h2 = m := em1.trans em
        refine g_aload_n (pc' := 319) dL_law_318 rfl rfl ?_
        refine g_aload_n (pc' := 320) dL_law_319 rfl rfl ?_
        refine g_iload_n (pc' := 321) dL_law_320 rfl rfl ?_
        refine g_iconstN (n := 1) (pc' := 322) dL_law_321 rfl ?_
        refine g_iaddN (pc' := 323) dL_law_322 rfl ?_
        refine g_sld (pc' := 324) dL_law_323 rfl hXs (by omega) ?_
        refine g_aload_n (pc' := 325) dL_law_324 rfl rfl ?_
        refine g_iload_n (pc' := 326) dL_law_325 rfl rfl ?_
        refine g_iconstN (n := 2) (pc' := 327) dL_law_326 rfl ?_
        refine g_iaddN (pc' := 328) dL_law_327 rfl ?_
        refine g_sld (pc' := 329) dL_law_328 rfl hXs (by omega) ?_
        refine g_aload_n (pc' := 330) dL_law_329 rfl rfl ?_
        refine g_iload_n (pc' := 331) dL_law_330 rfl rfl ?_
        refine g_iconstN (n := 3) (pc' := 332) dL_law_331 rfl ?_
        refine g_iaddN (pc' := 333) dL_law_332 rfl ?_
        refine g_sld (pc' := 334) dL_law_333 rfl hXs (by omega) ?_
        refine g_aload_n (pc' := 335) dL_law_334 rfl rfl ?_
        refine g_iload_n (pc' := 336) dL_law_335 rfl rfl ?_
        refine g_iconstN (n := 4) (pc' := 337) dL_law_336 rfl ?_
        refine g_iaddN (pc' := 338) dL_law_337 rfl ?_
        refine g_sld (pc' := 339) dL_law_338 rfl hXs (by omega) ?_
        have cmq := cm_pieces (h := h2) hok hc2.s (by rw [em2]; exact hw) (xs (i + 1)) (xs (i + 2)) (xs (i + 3)) (xs (i + 4))
        rw [em2] at cmq
        refine g_invV (pc' := 342) (cmq) dL_law_339 rfl rfl ck_13 rfl ml_L_27 im_X12_pieces sl_X12_pieces in_X12 co_X12_pieces pd_X12_pieces rfl (by omega) (by decide) ⟨by omega, by omega⟩ (Nat.le_of_ble_eq_true rfl) ?_
        rintro _ h3 ⟨rfl, em3, mk3⟩ -
        refine g_icmp_eq (tgt := 1548) (pc' := 345) dL_law_342 rfl (by decide) (fun c342 => ?_) (fun c342 => ?_)
        ·
          refine g_iincN (k := 6) (pc' := 1551) dL_law_1548 rfl rfl (by decide) rfl ?_
          try simp only [List.set]
          refine g_goto (tgt := 18) dL_law_1551 (by decide) ?_
          exact ih (c + 1) (i + 6) _ h3 _ _ (by omega) (by omega) (in_pieces hin (by omega) (xs (i + 1)) (xs (i + 2)) (xs (i + 3)) (xs (i + 4))) (hc2.mk mk3) em3 (by omega) (by omega)
        · exact absurd rfl c342
      rcases Classical.em (sw = nI 3) with rfl | w3
      ·
        refine g_tabIn (off := 314) (tgt := 347) dL_law_33 (by decide) (by decide) rfl (by decide) ?_
        refine g_aload_n (pc' := 348) dL_law_347 rfl rfl ?_
        refine g_aload_n (pc' := 349) dL_law_348 rfl rfl ?_
        refine g_iload_n (pc' := 350) dL_law_349 rfl rfl ?_
        refine g_iconstN (n := 1) (pc' := 351) dL_law_350 rfl ?_
        refine g_iaddN (pc' := 352) dL_law_351 rfl ?_
        refine g_sld (pc' := 353) dL_law_352 rfl hXs (by omega) ?_
        refine g_aload_n (pc' := 354) dL_law_353 rfl rfl ?_
        refine g_iload_n (pc' := 355) dL_law_354 rfl rfl ?_
        refine g_iconstN (n := 2) (pc' := 356) dL_law_355 rfl ?_
        refine g_iaddN (pc' := 357) dL_law_356 rfl ?_
        refine g_sld (pc' := 358) dL_law_357 rfl hXs (by omega) ?_
        refine g_invV (pc' := 361) (cx_toy hok hc hw hx (xs ((i + 1))) (xs ((i + 2))) hg) dL_law_358 rfl rfl ck_12 rfl ml_L_28 im_X11_toy sl_X11_toy in_X11 co_X11_toy pd_X11_toy rfl (by omega) (by decide) ⟨by omega, by omega⟩ (Nat.le_of_ble_eq_true rfl) ?_
        rintro _ h2 ⟨rfl, hc2, em1⟩ -
        have em2 : mo h2 = m := em1.trans em
        refine g_aload_n (pc' := 362) dL_law_361 rfl rfl ?_
        refine g_aload_n (pc' := 363) dL_law_362 rfl rfl ?_
        refine g_iload_n (pc' := 364) dL_law_363 rfl rfl ?_
        refine g_iconstN (n := 1) (pc' := 365) dL_law_364 rfl ?_
        refine g_iaddN (pc' := 366) dL_law_365 rfl ?_
        refine g_sld (pc' := 367) dL_law_366 rfl hXs (by omega) ?_
        refine g_aload_n (pc' := 368) dL_law_367 rfl rfl ?_
        refine g_iload_n (pc' := 369) dL_law_368 rfl rfl ?_
        refine g_iconstN (n := 2) (pc' := 370) dL_law_369 rfl ?_
        refine g_iaddN (pc' := 371) dL_law_370 rfl ?_
        refine g_sld (pc' := 372) dL_law_371 rfl hXs (by omega) ?_
        have cmq := cm_toy (h := h2) hok hc2.s (by rw [em2]; exact hw) (xs (i + 1)) (xs (i + 2))
        rw [em2] at cmq
        refine g_invV (pc' := 375) (cmq) dL_law_372 rfl rfl ck_13 rfl ml_L_32 im_X12_toy sl_X12_toy in_X12 co_X12_toy pd_X12_toy rfl (by omega) (by decide) ⟨by omega, by omega⟩ (Nat.le_of_ble_eq_true rfl) ?_
        rintro _ h3 ⟨rfl, em3, mk3⟩ -
        refine g_icmp_eq (tgt := 1548) (pc' := 378) dL_law_375 rfl (by decide) (fun c375 => ?_) (fun c375 => ?_)
        ·
          refine g_iincN (k := 6) (pc' := 1551) dL_law_1548 rfl rfl (by decide) rfl ?_
          try simp only [List.set]
          refine g_goto (tgt := 18) dL_law_1551 (by decide) ?_
          exact ih (c + 1) (i + 6) _ h3 _ _ (by omega) (by omega) (in_toy hin (by omega) (xs (i + 1)) (xs (i + 2))) (hc2.mk mk3) em3 (by omega) (by omega)
        · exact absurd rfl c375
      rcases Classical.em (sw = nI 4) with rfl | w4
      ·
        refine g_tabIn (off := 347) (tgt := 380) dL_law_33 (by decide) (by decide) rfl (by decide) ?_
        refine g_aload_n (pc' := 381) dL_law_380 rfl rfl ?_
        refine g_aload_n (pc' := 382) dL_law_381 rfl rfl ?_
        refine g_iload_n (pc' := 383) dL_law_382 rfl rfl ?_
        refine g_iconstN (n := 1) (pc' := 384) dL_law_383 rfl ?_
        refine g_iaddN (pc' := 385) dL_law_384 rfl ?_
        refine g_sld (pc' := 386) dL_law_385 rfl hXs (by omega) ?_
        refine g_aload_n (pc' := 387) dL_law_386 rfl rfl ?_
        refine g_iload_n (pc' := 388) dL_law_387 rfl rfl ?_
        refine g_iconstN (n := 2) (pc' := 389) dL_law_388 rfl ?_
        refine g_iaddN (pc' := 390) dL_law_389 rfl ?_
        refine g_sld (pc' := 391) dL_law_390 rfl hXs (by omega) ?_
        refine g_aload_n (pc' := 392) dL_law_391 rfl rfl ?_
        refine g_iload_n (pc' := 393) dL_law_392 rfl rfl ?_
        refine g_iconstN (n := 3) (pc' := 394) dL_law_393 rfl ?_
        refine g_iaddN (pc' := 395) dL_law_394 rfl ?_
        refine g_sld (pc' := 396) dL_law_395 rfl hXs (by omega) ?_
        refine g_invV (pc' := 399) (cx_family hok hc hw hx (xs ((i + 1))) (xs ((i + 2))) (xs ((i + 3)))) dL_law_396 rfl rfl ck_12 rfl ml_L_33 im_X11_family sl_X11_family in_X11 co_X11_family pd_X11_family rfl (by omega) (by decide) ⟨by omega, by omega⟩ (Nat.le_of_ble_eq_true rfl) ?_
        rintro _ h2 ⟨rfl, hc2, em1⟩ -
        have em2 : mo h2 = m := em1.trans em
        refine g_aload_n (pc' := 400) dL_law_399 rfl rfl ?_
        refine g_aload_n (pc' := 401) dL_law_400 rfl rfl ?_
        refine g_iload_n (pc' := 402) dL_law_401 rfl rfl ?_
        refine g_iconstN (n := 1) (pc' := 403) dL_law_402 rfl ?_
        refine g_iaddN (pc' := 404) dL_law_403 rfl ?_
        refine g_sld (pc' := 405) dL_law_404 rfl hXs (by omega) ?_
        refine g_aload_n (pc' := 406) dL_law_405 rfl rfl ?_
        refine g_iload_n (pc' := 407) dL_law_406 rfl rfl ?_
        refine g_iconstN (n := 2) (pc' := 408) dL_law_407 rfl ?_
        refine g_iaddN (pc' := 409) dL_law_408 rfl ?_
        refine g_sld (pc' := 410) dL_law_409 rfl hXs (by omega) ?_
        refine g_aload_n (pc' := 411) dL_law_410 rfl rfl ?_
        refine g_iload_n (pc' := 412) dL_law_411 rfl rfl ?_
        refine g_iconstN (n := 3) (pc' := 413) dL_law_412 rfl ?_
        refine g_iaddN (pc' := 414) dL_law_413 rfl ?_
        refine g_sld (pc' := 415) dL_law_414 rfl hXs (by omega) ?_
        have cmq := cm_family (h := h2) hok hc2.s (by rw [em2]; exact hw) (xs (i + 1)) (xs (i + 2)) (xs (i + 3))
        rw [em2] at cmq
        refine g_invV (pc' := 418) (cmq) dL_law_415 rfl rfl ck_13 rfl ml_L_37 im_X12_family sl_X12_family in_X12 co_X12_family pd_X12_family rfl (by omega) (by decide) ⟨by omega, by omega⟩ (Nat.le_of_ble_eq_true rfl) ?_
        rintro _ h3 ⟨rfl, em3, mk3⟩ -
        refine g_icmp_eq (tgt := 1548) (pc' := 421) dL_law_418 rfl (by decide) (fun c418 => ?_) (fun c418 => ?_)
        ·
          refine g_iincN (k := 6) (pc' := 1551) dL_law_1548 rfl rfl (by decide) rfl ?_
          try simp only [List.set]
          refine g_goto (tgt := 18) dL_law_1551 (by decide) ?_
          exact ih (c + 1) (i + 6) _ h3 _ _ (by omega) (by omega) (in_family hin (by omega) (xs (i + 1)) (xs (i + 2)) (xs (i + 3))) (hc2.mk mk3) em3 (by omega) (by omega)
        · exact absurd rfl c418
      rcases Classical.em (sw = nI 5) with rfl | w5
      ·
        refine g_tabIn (off := 390) (tgt := 423) dL_law_33 (by decide) (by decide) rfl (by decide) ?_
        refine g_aload_n (pc' := 424) dL_law_423 rfl rfl ?_
        refine g_aload_n (pc' := 425) dL_law_424 rfl rfl ?_
        refine g_iload_n (pc' := 426) dL_law_425 rfl rfl ?_
        refine g_iconstN (n := 1) (pc' := 427) dL_law_426 rfl ?_
        refine g_iaddN (pc' := 428) dL_law_427 rfl ?_
        refine g_sld (pc' := 429) dL_law_428 rfl hXs (by omega) ?_
        refine g_invV (pc' := 432) (cx_bag hok hc hw (xs ((i + 1)))) dL_law_429 rfl rfl ck_12 rfl ml_L_38 im_X11_bag sl_X11_bag in_X11 co_X11_bag pd_X11_bag rfl (by omega) (by decide) ⟨by omega, by omega⟩ (Nat.le_of_ble_eq_true rfl) ?_
        rintro _ h2 ⟨rfl, hc2, em1⟩ -
        have em2 : mo h2 = m := em1.trans em
        refine g_aload_n (pc' := 433) dL_law_432 rfl rfl ?_
        refine g_aload_n (pc' := 434) dL_law_433 rfl rfl ?_
        refine g_iload_n (pc' := 435) dL_law_434 rfl rfl ?_
        refine g_iconstN (n := 1) (pc' := 436) dL_law_435 rfl ?_
        refine g_iaddN (pc' := 437) dL_law_436 rfl ?_
        refine g_sld (pc' := 438) dL_law_437 rfl hXs (by omega) ?_
        have cmq := cm_bag (h := h2) hok hc2.s (by rw [em2]; exact hw) (xs (i + 1))
        rw [em2] at cmq
        refine g_invV (pc' := 441) (cmq) dL_law_438 rfl rfl ck_13 rfl ml_L_41 im_X12_bag sl_X12_bag in_X12 co_X12_bag pd_X12_bag rfl (by omega) (by decide) ⟨by omega, by omega⟩ (Nat.le_of_ble_eq_true rfl) ?_
        rintro _ h3 ⟨rfl, em3, mk3⟩ -
        refine g_icmp_eq (tgt := 1548) (pc' := 444) dL_law_441 rfl (by decide) (fun c441 => ?_) (fun c441 => ?_)
        ·
          refine g_iincN (k := 6) (pc' := 1551) dL_law_1548 rfl rfl (by decide) rfl ?_
          try simp only [List.set]
          refine g_goto (tgt := 18) dL_law_1551 (by decide) ?_
          exact ih (c + 1) (i + 6) _ h3 _ _ (by omega) (by omega) (in_bag hin (by omega) (xs (i + 1))) (hc2.mk mk3) em3 (by omega) (by omega)
        · exact absurd rfl c441
      rcases Classical.em (sw = nI 6) with rfl | w6
      ·
        refine g_tabIn (off := 413) (tgt := 446) dL_law_33 (by decide) (by decide) rfl (by decide) ?_
        refine g_aload_n (pc' := 447) dL_law_446 rfl rfl ?_
        refine g_aload_n (pc' := 448) dL_law_447 rfl rfl ?_
        refine g_iload_n (pc' := 449) dL_law_448 rfl rfl ?_
        refine g_iconstN (n := 1) (pc' := 450) dL_law_449 rfl ?_
        refine g_iaddN (pc' := 451) dL_law_450 rfl ?_
        refine g_sld (pc' := 452) dL_law_451 rfl hXs (by omega) ?_
        refine g_invV (pc' := 455) (cx_telling hok hc hw (xs ((i + 1)))) dL_law_452 rfl rfl ck_12 rfl ml_L_42 im_X11_telling sl_X11_telling in_X11 co_X11_telling pd_X11_telling rfl (by omega) (by decide) ⟨by omega, by omega⟩ (Nat.le_of_ble_eq_true rfl) ?_
        rintro _ h2 ⟨rfl, hc2, em1⟩ -
        have em2 : mo h2 = m := em1.trans em
        refine g_aload_n (pc' := 456) dL_law_455 rfl rfl ?_
        refine g_aload_n (pc' := 457) dL_law_456 rfl rfl ?_
        refine g_iload_n (pc' := 458) dL_law_457 rfl rfl ?_
        refine g_iconstN (n := 1) (pc' := 459) dL_law_458 rfl ?_
        refine g_iaddN (pc' := 460) dL_law_459 rfl ?_
        refine g_sld (pc' := 461) dL_law_460 rfl hXs (by omega) ?_
        have cmq := cm_telling (h := h2) hok hc2.s (by rw [em2]; exact hw) (xs (i + 1))
        rw [em2] at cmq
        refine g_invV (pc' := 464) (cmq) dL_law_461 rfl rfl ck_13 rfl ml_L_45 im_X12_telling sl_X12_telling in_X12 co_X12_telling pd_X12_telling rfl (by omega) (by decide) ⟨by omega, by omega⟩ (Nat.le_of_ble_eq_true rfl) ?_
        rintro _ h3 ⟨rfl, em3, mk3⟩ -
        refine g_icmp_eq (tgt := 1548) (pc' := 467) dL_law_464 rfl (by decide) (fun c464 => ?_) (fun c464 => ?_)
        ·
          refine g_iincN (k := 6) (pc' := 1551) dL_law_1548 rfl rfl (by decide) rfl ?_
          try simp only [List.set]
          refine g_goto (tgt := 18) dL_law_1551 (by decide) ?_
          exact ih (c + 1) (i + 6) _ h3 _ _ (by omega) (by omega) (in_telling hin (by omega) (xs (i + 1))) (hc2.mk mk3) em3 (by omega) (by omega)
        · exact absurd rfl c464
      rcases Classical.em (sw = nI 7) with rfl | w7
      ·
        refine g_tabIn (off := 436) (tgt := 469) dL_law_33 (by decide) (by decide) rfl (by decide) ?_
        refine g_aload_n (pc' := 470) dL_law_469 rfl rfl ?_
        refine g_aload_n (pc' := 471) dL_law_470 rfl rfl ?_
        refine g_iload_n (pc' := 472) dL_law_471 rfl rfl ?_
        refine g_iconstN (n := 1) (pc' := 473) dL_law_472 rfl ?_
        refine g_iaddN (pc' := 474) dL_law_473 rfl ?_
        refine g_sld (pc' := 475) dL_law_474 rfl hXs (by omega) ?_
        refine g_aload_n (pc' := 476) dL_law_475 rfl rfl ?_
        refine g_iload_n (pc' := 477) dL_law_476 rfl rfl ?_
        refine g_iconstN (n := 2) (pc' := 478) dL_law_477 rfl ?_
        refine g_iaddN (pc' := 479) dL_law_478 rfl ?_
        refine g_sld (pc' := 480) dL_law_479 rfl hXs (by omega) ?_
        refine g_aload_n (pc' := 481) dL_law_480 rfl rfl ?_
        refine g_iload_n (pc' := 482) dL_law_481 rfl rfl ?_
        refine g_iconstN (n := 3) (pc' := 483) dL_law_482 rfl ?_
        refine g_iaddN (pc' := 484) dL_law_483 rfl ?_
        refine g_sld (pc' := 485) dL_law_484 rfl hXs (by omega) ?_
        refine g_aload_n (pc' := 486) dL_law_485 rfl rfl ?_
        refine g_iload_n (pc' := 487) dL_law_486 rfl rfl ?_
        refine g_iconstN (n := 4) (pc' := 488) dL_law_487 rfl ?_
        refine g_iaddN (pc' := 489) dL_law_488 rfl ?_
        refine g_sld (pc' := 490) dL_law_489 rfl hXs (by omega) ?_
        refine g_aload_n (pc' := 491) dL_law_490 rfl rfl ?_
        refine g_iload_n (pc' := 492) dL_law_491 rfl rfl ?_
        refine g_iconstN (n := 5) (pc' := 493) dL_law_492 rfl ?_
        refine g_iaddN (pc' := 494) dL_law_493 rfl ?_
        refine g_sld (pc' := 495) dL_law_494 rfl hXs (by omega) ?_
        refine g_invV (pc' := 498) (cx_feed hok hc hw (xs ((i + 1))) (xs ((i + 2))) (xs ((i + 3))) (xs ((i + 4))) (xs ((i + 5)))) dL_law_495 rfl rfl ck_12 rfl ml_L_46 im_X11_feed sl_X11_feed in_X11 co_X11_feed pd_X11_feed rfl (by omega) (by decide) ⟨by omega, by omega⟩ (Nat.le_of_ble_eq_true rfl) ?_
        rintro _ h2 ⟨rfl, hc2, em1⟩ -
        have em2 : mo h2 = m := em1.trans em
        refine g_aload_n (pc' := 499) dL_law_498 rfl rfl ?_
        refine g_aload_n (pc' := 500) dL_law_499 rfl rfl ?_
        refine g_iload_n (pc' := 501) dL_law_500 rfl rfl ?_
        refine g_iconstN (n := 1) (pc' := 502) dL_law_501 rfl ?_
        refine g_iaddN (pc' := 503) dL_law_502 rfl ?_
        refine g_sld (pc' := 504) dL_law_503 rfl hXs (by omega) ?_
        refine g_aload_n (pc' := 505) dL_law_504 rfl rfl ?_
        refine g_iload_n (pc' := 506) dL_law_505 rfl rfl ?_
        refine g_iconstN (n := 2) (pc' := 507) dL_law_506 rfl ?_
        refine g_iaddN (pc' := 508) dL_law_507 rfl ?_
        refine g_sld (pc' := 509) dL_law_508 rfl hXs (by omega) ?_
        refine g_aload_n (pc' := 510) dL_law_509 rfl rfl ?_
        refine g_iload_n (pc' := 511) dL_law_510 rfl rfl ?_
        refine g_iconstN (n := 3) (pc' := 512) dL_law_511 rfl ?_
        refine g_iaddN (pc' := 513) dL_law_512 rfl ?_
        refine g_sld (pc' := 514) dL_law_513 rfl hXs (by omega) ?_
        refine g_aload_n (pc' := 515) dL_law_514 rfl rfl ?_
        refine g_iload_n (pc' := 516) dL_law_515 rfl rfl ?_
        refine g_iconstN (n := 4) (pc' := 517) dL_law_516 rfl ?_
        refine g_iaddN (pc' := 518) dL_law_517 rfl ?_
        refine g_sld (pc' := 519) dL_law_518 rfl hXs (by omega) ?_
        refine g_aload_n (pc' := 520) dL_law_519 rfl rfl ?_
        refine g_iload_n (pc' := 521) dL_law_520 rfl rfl ?_
        refine g_iconstN (n := 5) (pc' := 522) dL_law_521 rfl ?_
        refine g_iaddN (pc' := 523) dL_law_522 rfl ?_
        refine g_sld (pc' := 524) dL_law_523 rfl hXs (by omega) ?_
        have cmq := cm_feed (h := h2) hok hc2.s (by rw [em2]; exact hw) (xs (i + 1)) (xs (i + 2)) (xs (i + 3)) (xs (i + 4)) (xs (i + 5))
        rw [em2] at cmq
        refine g_invV (pc' := 527) (cmq) dL_law_524 rfl rfl ck_13 rfl ml_L_49 im_X12_feed sl_X12_feed in_X12 co_X12_feed pd_X12_feed rfl (by omega) (by decide) ⟨by omega, by omega⟩ (Nat.le_of_ble_eq_true rfl) ?_
        rintro _ h3 ⟨rfl, em3, mk3⟩ -
        refine g_icmp_eq (tgt := 1548) (pc' := 530) dL_law_527 rfl (by decide) (fun c527 => ?_) (fun c527 => ?_)
        ·
          refine g_iincN (k := 6) (pc' := 1551) dL_law_1548 rfl rfl (by decide) rfl ?_
          try simp only [List.set]
          refine g_goto (tgt := 18) dL_law_1551 (by decide) ?_
          exact ih (c + 1) (i + 6) _ h3 _ _ (by omega) (by omega) (in_feed hin (by omega) (xs (i + 1)) (xs (i + 2)) (xs (i + 3)) (xs (i + 4)) (xs (i + 5))) (hc2.mk mk3) em3 (by omega) (by omega)
        · exact absurd rfl c527
      rcases Classical.em (sw = nI 8) with rfl | w8
      ·
        refine g_tabIn (off := 499) (tgt := 532) dL_law_33 (by decide) (by decide) rfl (by decide) ?_
        refine g_aload_n (pc' := 533) dL_law_532 rfl rfl ?_
        refine g_aload_n (pc' := 534) dL_law_533 rfl rfl ?_
        refine g_iload_n (pc' := 535) dL_law_534 rfl rfl ?_
        refine g_iconstN (n := 1) (pc' := 536) dL_law_535 rfl ?_
        refine g_iaddN (pc' := 537) dL_law_536 rfl ?_
        refine g_sld (pc' := 538) dL_law_537 rfl hXs (by omega) ?_
        refine g_invV (pc' := 541) (cx_rules hok hc (xs ((i + 1)))) dL_law_538 rfl rfl ck_12 rfl ml_L_50 im_X11_rules sl_X11_rules in_X11 co_X11_rules pd_X11_rules rfl (by omega) (by decide) ⟨by omega, by omega⟩ (Nat.le_of_ble_eq_true rfl) ?_
        rintro _ h2 ⟨rfl, hcA, em1, hs2⟩ -
        have em2 : mo h2 = m := em1.trans em
        refine g_aload_n (pc' := 542) dL_law_541 rfl rfl ?_
        refine g_aload_n (pc' := 543) dL_law_542 rfl rfl ?_
        refine g_iload_n (pc' := 544) dL_law_543 rfl rfl ?_
        refine g_iconstN (n := 1) (pc' := 545) dL_law_544 rfl ?_
        refine g_iaddN (pc' := 546) dL_law_545 rfl ?_
        refine g_sld (pc' := 547) dL_law_546 rfl hXs (by omega) ?_
        have cmq := cm_rules (h := h2) hok hs2 (xs (i + 1))
        rw [em2] at cmq
        refine g_invV (pc' := 550) (cmq) dL_law_547 rfl rfl ck_13 rfl ml_L_54 im_X12_rules sl_X12_rules in_X12 co_X12_rules pd_X12_rules rfl (by omega) (by decide) ⟨by omega, by omega⟩ (Nat.le_of_ble_eq_true rfl) ?_
        rintro _ h3 ⟨rfl, em3, mk3⟩ -
        refine g_icmp_eq (tgt := 1548) (pc' := 553) dL_law_550 rfl (by decide) (fun c550 => ?_) (fun c550 => ?_)
        ·
          refine g_iincN (k := 6) (pc' := 1551) dL_law_1548 rfl rfl (by decide) rfl ?_
          try simp only [List.set]
          refine g_goto (tgt := 18) dL_law_1551 (by decide) ?_
          exact ih (c + 1) (i + 6) (mo h3) h3 _ _ (by omega) (by omega) (in_rules hin (by omega) em3) ((hcA _ em3).mk mk3) rfl (by omega) (by omega)
        · exact absurd rfl c550
      rcases Classical.em (sw = nI 9) with rfl | w9
      ·
        refine g_tabIn (off := 522) (tgt := 555) dL_law_33 (by decide) (by decide) rfl (by decide) ?_
        refine g_aload_n (pc' := 556) dL_law_555 rfl rfl ?_
        refine g_aload_n (pc' := 557) dL_law_556 rfl rfl ?_
        refine g_iload_n (pc' := 558) dL_law_557 rfl rfl ?_
        refine g_iconstN (n := 1) (pc' := 559) dL_law_558 rfl ?_
        refine g_iaddN (pc' := 560) dL_law_559 rfl ?_
        refine g_sld (pc' := 561) dL_law_560 rfl hXs (by omega) ?_
        refine g_aload_n (pc' := 562) dL_law_561 rfl rfl ?_
        refine g_iload_n (pc' := 563) dL_law_562 rfl rfl ?_
        refine g_iconstN (n := 2) (pc' := 564) dL_law_563 rfl ?_
        refine g_iaddN (pc' := 565) dL_law_564 rfl ?_
        refine g_sld (pc' := 566) dL_law_565 rfl hXs (by omega) ?_
        refine g_invV (pc' := 569) (cx_not hok hc hw hx hCR (xs ((i + 1))) (xs ((i + 2)))) dL_law_566 rfl rfl ck_12 rfl ml_L_55 im_X11_not sl_X11_not in_X11 co_X11_not pd_X11_not rfl (by omega) (by decide) ⟨by omega, by omega⟩ (Nat.le_of_ble_eq_true rfl) ?_
        rintro _ h2 ⟨rfl, hc2, em1⟩ -
        have em2 : mo h2 = m := em1.trans em
        refine g_aload_n (pc' := 570) dL_law_569 rfl rfl ?_
        refine g_aload_n (pc' := 571) dL_law_570 rfl rfl ?_
        refine g_iload_n (pc' := 572) dL_law_571 rfl rfl ?_
        refine g_iconstN (n := 1) (pc' := 573) dL_law_572 rfl ?_
        refine g_iaddN (pc' := 574) dL_law_573 rfl ?_
        refine g_sld (pc' := 575) dL_law_574 rfl hXs (by omega) ?_
        refine g_aload_n (pc' := 576) dL_law_575 rfl rfl ?_
        refine g_iload_n (pc' := 577) dL_law_576 rfl rfl ?_
        refine g_iconstN (n := 2) (pc' := 578) dL_law_577 rfl ?_
        refine g_iaddN (pc' := 579) dL_law_578 rfl ?_
        refine g_sld (pc' := 580) dL_law_579 rfl hXs (by omega) ?_
        have cmq := cm_not (h := h2) hok hc2.s (by rw [em2]; exact hw) (by rw [em2]; exact hx) (R := R) (by rw [em2]; exact hR) (xs (i + 1)) (xs (i + 2))
        rw [em2] at cmq
        refine g_invV (pc' := 583) (cmq) dL_law_580 rfl rfl ck_13 rfl ml_L_58 im_X12_not sl_X12_not in_X12 co_X12_not pd_X12_not rfl (by omega) (by decide) ⟨by omega, by omega⟩ (Nat.le_of_ble_eq_true rfl) ?_
        rintro _ h3 ⟨rfl, em3, mk3⟩ -
        refine g_icmp_eq (tgt := 1548) (pc' := 586) dL_law_583 rfl (by decide) (fun c583 => ?_) (fun c583 => ?_)
        ·
          refine g_iincN (k := 6) (pc' := 1551) dL_law_1548 rfl rfl (by decide) rfl ?_
          try simp only [List.set]
          refine g_goto (tgt := 18) dL_law_1551 (by decide) ?_
          exact ih (c + 1) (i + 6) _ h3 _ _ (by omega) (by omega) (in_not hin (by omega) R (xs (i + 1)) (xs (i + 2))) (hc2.mk mk3) em3 (by omega) (by omega)
        · exact absurd rfl c583
      rcases Classical.em (sw = nI 10) with rfl | w10
      ·
        refine g_tabIn (off := 555) (tgt := 588) dL_law_33 (by decide) (by decide) rfl (by decide) ?_
        refine g_aload_n (pc' := 589) dL_law_588 rfl rfl ?_
        refine g_aload_n (pc' := 590) dL_law_589 rfl rfl ?_
        refine g_iload_n (pc' := 591) dL_law_590 rfl rfl ?_
        refine g_iconstN (n := 1) (pc' := 592) dL_law_591 rfl ?_
        refine g_iaddN (pc' := 593) dL_law_592 rfl ?_
        refine g_sld (pc' := 594) dL_law_593 rfl hXs (by omega) ?_
        refine g_aload_n (pc' := 595) dL_law_594 rfl rfl ?_
        refine g_iload_n (pc' := 596) dL_law_595 rfl rfl ?_
        refine g_iconstN (n := 2) (pc' := 597) dL_law_596 rfl ?_
        refine g_iaddN (pc' := 598) dL_law_597 rfl ?_
        refine g_sld (pc' := 599) dL_law_598 rfl hXs (by omega) ?_
        refine g_invV (pc' := 602) (cx_lend hok hc hw hx hCR (xs ((i + 1))) (xs ((i + 2)))) dL_law_599 rfl rfl ck_12 rfl ml_L_59 im_X11_lend sl_X11_lend in_X11 co_X11_lend pd_X11_lend rfl (by omega) (by decide) ⟨by omega, by omega⟩ (Nat.le_of_ble_eq_true rfl) ?_
        rintro _ h2 ⟨rfl, hc2, em1⟩ -
        have em2 : mo h2 = m := em1.trans em
        refine g_aload_n (pc' := 603) dL_law_602 rfl rfl ?_
        refine g_aload_n (pc' := 604) dL_law_603 rfl rfl ?_
        refine g_iload_n (pc' := 605) dL_law_604 rfl rfl ?_
        refine g_iconstN (n := 1) (pc' := 606) dL_law_605 rfl ?_
        refine g_iaddN (pc' := 607) dL_law_606 rfl ?_
        refine g_sld (pc' := 608) dL_law_607 rfl hXs (by omega) ?_
        refine g_aload_n (pc' := 609) dL_law_608 rfl rfl ?_
        refine g_iload_n (pc' := 610) dL_law_609 rfl rfl ?_
        refine g_iconstN (n := 2) (pc' := 611) dL_law_610 rfl ?_
        refine g_iaddN (pc' := 612) dL_law_611 rfl ?_
        refine g_sld (pc' := 613) dL_law_612 rfl hXs (by omega) ?_
        have cmq := cm_lend (h := h2) hok hc2.s (by rw [em2]; exact hw) (by rw [em2]; exact hx) (R := R) (by rw [em2]; exact hR) (xs (i + 1)) (xs (i + 2))
        rw [em2] at cmq
        refine g_invV (pc' := 616) (cmq) dL_law_613 rfl rfl ck_13 rfl ml_L_62 im_X12_lend sl_X12_lend in_X12 co_X12_lend pd_X12_lend rfl (by omega) (by decide) ⟨by omega, by omega⟩ (Nat.le_of_ble_eq_true rfl) ?_
        rintro _ h3 ⟨rfl, em3, mk3⟩ -
        refine g_icmp_eq (tgt := 1548) (pc' := 619) dL_law_616 rfl (by decide) (fun c616 => ?_) (fun c616 => ?_)
        ·
          refine g_iincN (k := 6) (pc' := 1551) dL_law_1548 rfl rfl (by decide) rfl ?_
          try simp only [List.set]
          refine g_goto (tgt := 18) dL_law_1551 (by decide) ?_
          exact ih (c + 1) (i + 6) _ h3 _ _ (by omega) (by omega) (in_lend hin (by omega) R (xs (i + 1)) (xs (i + 2))) (hc2.mk mk3) em3 (by omega) (by omega)
        · exact absurd rfl c616
      rcases Classical.em (sw = nI 11) with rfl | w11
      ·
        refine g_tabIn (off := 588) (tgt := 621) dL_law_33 (by decide) (by decide) rfl (by decide) ?_
        refine g_aload_n (pc' := 622) dL_law_621 rfl rfl ?_
        refine g_aload_n (pc' := 623) dL_law_622 rfl rfl ?_
        refine g_iload_n (pc' := 624) dL_law_623 rfl rfl ?_
        refine g_iconstN (n := 1) (pc' := 625) dL_law_624 rfl ?_
        refine g_iaddN (pc' := 626) dL_law_625 rfl ?_
        refine g_sld (pc' := 627) dL_law_626 rfl hXs (by omega) ?_
        refine g_invV (pc' := 630) (cx_back hok hc hw hx hCR (xs ((i + 1)))) dL_law_627 rfl rfl ck_12 rfl ml_L_63 im_X11_back sl_X11_back in_X11 co_X11_back pd_X11_back rfl (by omega) (by decide) ⟨by omega, by omega⟩ (Nat.le_of_ble_eq_true rfl) ?_
        rintro _ h2 ⟨rfl, hc2, em1⟩ -
        have em2 : mo h2 = m := em1.trans em
        refine g_aload_n (pc' := 631) dL_law_630 rfl rfl ?_
        refine g_aload_n (pc' := 632) dL_law_631 rfl rfl ?_
        refine g_iload_n (pc' := 633) dL_law_632 rfl rfl ?_
        refine g_iconstN (n := 1) (pc' := 634) dL_law_633 rfl ?_
        refine g_iaddN (pc' := 635) dL_law_634 rfl ?_
        refine g_sld (pc' := 636) dL_law_635 rfl hXs (by omega) ?_
        have cmq := cm_back (h := h2) hok hc2.s (by rw [em2]; exact hw) (by rw [em2]; exact hx) (R := R) (by rw [em2]; exact hR) (xs (i + 1))
        rw [em2] at cmq
        refine g_invV (pc' := 639) (cmq) dL_law_636 rfl rfl ck_13 rfl ml_L_66 im_X12_back sl_X12_back in_X12 co_X12_back pd_X12_back rfl (by omega) (by decide) ⟨by omega, by omega⟩ (Nat.le_of_ble_eq_true rfl) ?_
        rintro _ h3 ⟨rfl, em3, mk3⟩ -
        refine g_icmp_eq (tgt := 1548) (pc' := 642) dL_law_639 rfl (by decide) (fun c639 => ?_) (fun c639 => ?_)
        ·
          refine g_iincN (k := 6) (pc' := 1551) dL_law_1548 rfl rfl (by decide) rfl ?_
          try simp only [List.set]
          refine g_goto (tgt := 18) dL_law_1551 (by decide) ?_
          exact ih (c + 1) (i + 6) _ h3 _ _ (by omega) (by omega) (in_back hin (by omega) R (xs (i + 1))) (hc2.mk mk3) em3 (by omega) (by omega)
        · exact absurd rfl c639
      rcases Classical.em (sw = nI 12) with rfl | w12
      ·
        refine g_tabIn (off := 611) (tgt := 644) dL_law_33 (by decide) (by decide) rfl (by decide) ?_
        refine g_aload_n (pc' := 645) dL_law_644 rfl rfl ?_
        refine g_aload_n (pc' := 646) dL_law_645 rfl rfl ?_
        refine g_iload_n (pc' := 647) dL_law_646 rfl rfl ?_
        refine g_iconstN (n := 1) (pc' := 648) dL_law_647 rfl ?_
        refine g_iaddN (pc' := 649) dL_law_648 rfl ?_
        refine g_sld (pc' := 650) dL_law_649 rfl hXs (by omega) ?_
        refine g_invV (pc' := 653) (cx_lost hok hc hw hx hCR (xs ((i + 1)))) dL_law_650 rfl rfl ck_12 rfl ml_L_67 im_X11_lost sl_X11_lost in_X11 co_X11_lost pd_X11_lost rfl (by omega) (by decide) ⟨by omega, by omega⟩ (Nat.le_of_ble_eq_true rfl) ?_
        rintro _ h2 ⟨rfl, hc2, em1⟩ -
        have em2 : mo h2 = m := em1.trans em
        refine g_aload_n (pc' := 654) dL_law_653 rfl rfl ?_
        refine g_aload_n (pc' := 655) dL_law_654 rfl rfl ?_
        refine g_iload_n (pc' := 656) dL_law_655 rfl rfl ?_
        refine g_iconstN (n := 1) (pc' := 657) dL_law_656 rfl ?_
        refine g_iaddN (pc' := 658) dL_law_657 rfl ?_
        refine g_sld (pc' := 659) dL_law_658 rfl hXs (by omega) ?_
        have cmq := cm_lost (h := h2) hok hc2.s (by rw [em2]; exact hw) (by rw [em2]; exact hx) (R := R) (by rw [em2]; exact hR) (xs (i + 1))
        rw [em2] at cmq
        refine g_invV (pc' := 662) (cmq) dL_law_659 rfl rfl ck_13 rfl ml_L_70 im_X12_lost sl_X12_lost in_X12 co_X12_lost pd_X12_lost rfl (by omega) (by decide) ⟨by omega, by omega⟩ (Nat.le_of_ble_eq_true rfl) ?_
        rintro _ h3 ⟨rfl, em3, mk3⟩ -
        refine g_icmp_eq (tgt := 1548) (pc' := 665) dL_law_662 rfl (by decide) (fun c662 => ?_) (fun c662 => ?_)
        ·
          refine g_iincN (k := 6) (pc' := 1551) dL_law_1548 rfl rfl (by decide) rfl ?_
          try simp only [List.set]
          refine g_goto (tgt := 18) dL_law_1551 (by decide) ?_
          exact ih (c + 1) (i + 6) _ h3 _ _ (by omega) (by omega) (in_lost hin (by omega) R (xs (i + 1))) (hc2.mk mk3) em3 (by omega) (by omega)
        · exact absurd rfl c662
      rcases Classical.em (sw = nI 13) with rfl | w13
      ·
        refine g_tabIn (off := 634) (tgt := 667) dL_law_33 (by decide) (by decide) rfl (by decide) ?_
        refine g_aload_n (pc' := 668) dL_law_667 rfl rfl ?_
        refine g_aload_n (pc' := 669) dL_law_668 rfl rfl ?_
        refine g_iload_n (pc' := 670) dL_law_669 rfl rfl ?_
        refine g_iconstN (n := 1) (pc' := 671) dL_law_670 rfl ?_
        refine g_iaddN (pc' := 672) dL_law_671 rfl ?_
        refine g_sld (pc' := 673) dL_law_672 rfl hXs (by omega) ?_
        refine g_invV (pc' := 676) (cx_wash hok hc hw (xs ((i + 1)))) dL_law_673 rfl rfl ck_12 rfl ml_L_71 im_X11_wash sl_X11_wash in_X11 co_X11_wash pd_X11_wash rfl (by omega) (by decide) ⟨by omega, by omega⟩ (Nat.le_of_ble_eq_true rfl) ?_
        rintro _ h2 ⟨rfl, hc2, em1⟩ -
        have em2 : mo h2 = m := em1.trans em
        refine g_aload_n (pc' := 677) dL_law_676 rfl rfl ?_
        refine g_aload_n (pc' := 678) dL_law_677 rfl rfl ?_
        refine g_iload_n (pc' := 679) dL_law_678 rfl rfl ?_
        refine g_iconstN (n := 1) (pc' := 680) dL_law_679 rfl ?_
        refine g_iaddN (pc' := 681) dL_law_680 rfl ?_
        refine g_sld (pc' := 682) dL_law_681 rfl hXs (by omega) ?_
        have cmq := cm_wash (h := h2) hok hc2.s (by rw [em2]; exact hw) (xs (i + 1))
        rw [em2] at cmq
        refine g_invV (pc' := 685) (cmq) dL_law_682 rfl rfl ck_13 rfl ml_L_74 im_X12_wash sl_X12_wash in_X12 co_X12_wash pd_X12_wash rfl (by omega) (by decide) ⟨by omega, by omega⟩ (Nat.le_of_ble_eq_true rfl) ?_
        rintro _ h3 ⟨rfl, em3, mk3⟩ -
        refine g_icmp_eq (tgt := 1548) (pc' := 688) dL_law_685 rfl (by decide) (fun c685 => ?_) (fun c685 => ?_)
        ·
          refine g_iincN (k := 6) (pc' := 1551) dL_law_1548 rfl rfl (by decide) rfl ?_
          try simp only [List.set]
          refine g_goto (tgt := 18) dL_law_1551 (by decide) ?_
          exact ih (c + 1) (i + 6) _ h3 _ _ (by omega) (by omega) (in_wash hin (by omega) (xs (i + 1))) (hc2.mk mk3) em3 (by omega) (by omega)
        · exact absurd rfl c685
      rcases Classical.em (sw = nI 14) with rfl | w14
      ·
        refine g_tabIn (off := 657) (tgt := 690) dL_law_33 (by decide) (by decide) rfl (by decide) ?_
        refine g_aload_n (pc' := 691) dL_law_690 rfl rfl ?_
        refine g_aload_n (pc' := 692) dL_law_691 rfl rfl ?_
        refine g_iload_n (pc' := 693) dL_law_692 rfl rfl ?_
        refine g_iconstN (n := 1) (pc' := 694) dL_law_693 rfl ?_
        refine g_iaddN (pc' := 695) dL_law_694 rfl ?_
        refine g_sld (pc' := 696) dL_law_695 rfl hXs (by omega) ?_
        refine g_aload_n (pc' := 697) dL_law_696 rfl rfl ?_
        refine g_iload_n (pc' := 698) dL_law_697 rfl rfl ?_
        refine g_iconstN (n := 2) (pc' := 699) dL_law_698 rfl ?_
        refine g_iaddN (pc' := 700) dL_law_699 rfl ?_
        refine g_sld (pc' := 701) dL_law_700 rfl hXs (by omega) ?_
        refine g_invV (pc' := 704) (cx_toyIs hok hc hw (xs ((i + 1))) (xs ((i + 2)))) dL_law_701 rfl rfl ck_12 rfl ml_L_75 im_X11_toyIs sl_X11_toyIs in_X11 co_X11_toyIs pd_X11_toyIs rfl (by omega) (by decide) ⟨by omega, by omega⟩ (Nat.le_of_ble_eq_true rfl) ?_
        rintro _ h2 ⟨rfl, hc2, em1⟩ -
        have em2 : mo h2 = m := em1.trans em
        refine g_aload_n (pc' := 705) dL_law_704 rfl rfl ?_
        refine g_aload_n (pc' := 706) dL_law_705 rfl rfl ?_
        refine g_iload_n (pc' := 707) dL_law_706 rfl rfl ?_
        refine g_iconstN (n := 1) (pc' := 708) dL_law_707 rfl ?_
        refine g_iaddN (pc' := 709) dL_law_708 rfl ?_
        refine g_sld (pc' := 710) dL_law_709 rfl hXs (by omega) ?_
        refine g_aload_n (pc' := 711) dL_law_710 rfl rfl ?_
        refine g_iload_n (pc' := 712) dL_law_711 rfl rfl ?_
        refine g_iconstN (n := 2) (pc' := 713) dL_law_712 rfl ?_
        refine g_iaddN (pc' := 714) dL_law_713 rfl ?_
        refine g_sld (pc' := 715) dL_law_714 rfl hXs (by omega) ?_
        have cmq := cm_toyIs (h := h2) hok hc2.s (by rw [em2]; exact hw) (xs (i + 1)) (xs (i + 2))
        rw [em2] at cmq
        refine g_invV (pc' := 718) (cmq) dL_law_715 rfl rfl ck_13 rfl ml_L_78 im_X12_toyIs sl_X12_toyIs in_X12 co_X12_toyIs pd_X12_toyIs rfl (by omega) (by decide) ⟨by omega, by omega⟩ (Nat.le_of_ble_eq_true rfl) ?_
        rintro _ h3 ⟨rfl, em3, mk3⟩ -
        refine g_icmp_eq (tgt := 1548) (pc' := 721) dL_law_718 rfl (by decide) (fun c718 => ?_) (fun c718 => ?_)
        ·
          refine g_iincN (k := 6) (pc' := 1551) dL_law_1548 rfl rfl (by decide) rfl ?_
          try simp only [List.set]
          refine g_goto (tgt := 18) dL_law_1551 (by decide) ?_
          exact ih (c + 1) (i + 6) _ h3 _ _ (by omega) (by omega) (in_toyIs hin (by omega) (xs (i + 1)) (xs (i + 2))) (hc2.mk mk3) em3 (by omega) (by omega)
        · exact absurd rfl c718
      rcases Classical.em (sw = nI 15) with rfl | w15
      ·
        refine g_tabIn (off := 690) (tgt := 723) dL_law_33 (by decide) (by decide) rfl (by decide) ?_
        refine g_aload_n (pc' := 724) dL_law_723 rfl rfl ?_
        refine g_aload_n (pc' := 725) dL_law_724 rfl rfl ?_
        refine g_iload_n (pc' := 726) dL_law_725 rfl rfl ?_
        refine g_iconstN (n := 1) (pc' := 727) dL_law_726 rfl ?_
        refine g_iaddN (pc' := 728) dL_law_727 rfl ?_
        refine g_sld (pc' := 729) dL_law_728 rfl hXs (by omega) ?_
        refine g_aload_n (pc' := 730) dL_law_729 rfl rfl ?_
        refine g_iload_n (pc' := 731) dL_law_730 rfl rfl ?_
        refine g_iconstN (n := 2) (pc' := 732) dL_law_731 rfl ?_
        refine g_iaddN (pc' := 733) dL_law_732 rfl ?_
        refine g_sld (pc' := 734) dL_law_733 rfl hXs (by omega) ?_
        refine g_aload_n (pc' := 735) dL_law_734 rfl rfl ?_
        refine g_iload_n (pc' := 736) dL_law_735 rfl rfl ?_
        refine g_iconstN (n := 3) (pc' := 737) dL_law_736 rfl ?_
        refine g_iaddN (pc' := 738) dL_law_737 rfl ?_
        refine g_sld (pc' := 739) dL_law_738 rfl hXs (by omega) ?_
        refine g_aload_n (pc' := 740) dL_law_739 rfl rfl ?_
        refine g_iload_n (pc' := 741) dL_law_740 rfl rfl ?_
        refine g_iconstN (n := 4) (pc' := 742) dL_law_741 rfl ?_
        refine g_iaddN (pc' := 743) dL_law_742 rfl ?_
        refine g_sld (pc' := 744) dL_law_743 rfl hXs (by omega) ?_
        refine g_invV (pc' := 747) (cx_weigh hok hc hw hx (xs ((i + 1))) (xs ((i + 2))) (xs ((i + 3))) (xs ((i + 4)))) dL_law_744 rfl rfl ck_12 rfl ml_L_79 im_X11_weigh sl_X11_weigh in_X11 co_X11_weigh pd_X11_weigh rfl (by omega) (by decide) ⟨by omega, by omega⟩ (Nat.le_of_ble_eq_true rfl) ?_
        rintro _ h2 ⟨rfl, hc2, em1⟩ -
        have em2 : mo h2 = m := em1.trans em
        refine g_aload_n (pc' := 748) dL_law_747 rfl rfl ?_
        refine g_aload_n (pc' := 749) dL_law_748 rfl rfl ?_
        refine g_iload_n (pc' := 750) dL_law_749 rfl rfl ?_
        refine g_iconstN (n := 1) (pc' := 751) dL_law_750 rfl ?_
        refine g_iaddN (pc' := 752) dL_law_751 rfl ?_
        refine g_sld (pc' := 753) dL_law_752 rfl hXs (by omega) ?_
        refine g_aload_n (pc' := 754) dL_law_753 rfl rfl ?_
        refine g_iload_n (pc' := 755) dL_law_754 rfl rfl ?_
        refine g_iconstN (n := 2) (pc' := 756) dL_law_755 rfl ?_
        refine g_iaddN (pc' := 757) dL_law_756 rfl ?_
        refine g_sld (pc' := 758) dL_law_757 rfl hXs (by omega) ?_
        refine g_aload_n (pc' := 759) dL_law_758 rfl rfl ?_
        refine g_iload_n (pc' := 760) dL_law_759 rfl rfl ?_
        refine g_iconstN (n := 3) (pc' := 761) dL_law_760 rfl ?_
        refine g_iaddN (pc' := 762) dL_law_761 rfl ?_
        refine g_sld (pc' := 763) dL_law_762 rfl hXs (by omega) ?_
        refine g_aload_n (pc' := 764) dL_law_763 rfl rfl ?_
        refine g_iload_n (pc' := 765) dL_law_764 rfl rfl ?_
        refine g_iconstN (n := 4) (pc' := 766) dL_law_765 rfl ?_
        refine g_iaddN (pc' := 767) dL_law_766 rfl ?_
        refine g_sld (pc' := 768) dL_law_767 rfl hXs (by omega) ?_
        have cmq := cm_weigh (h := h2) hok hc2.s (by rw [em2]; exact hw) (by rw [em2]; exact hx) (xs (i + 1)) (xs (i + 2)) (xs (i + 3)) (xs (i + 4))
        rw [em2] at cmq
        refine g_invV (pc' := 771) (cmq) dL_law_768 rfl rfl ck_13 rfl ml_L_83 im_X12_weigh sl_X12_weigh in_X12 co_X12_weigh pd_X12_weigh rfl (by omega) (by decide) ⟨by omega, by omega⟩ (Nat.le_of_ble_eq_true rfl) ?_
        rintro _ h3 ⟨rfl, em3, mk3⟩ -
        refine g_icmp_eq (tgt := 1548) (pc' := 774) dL_law_771 rfl (by decide) (fun c771 => ?_) (fun c771 => ?_)
        ·
          refine g_iincN (k := 6) (pc' := 1551) dL_law_1548 rfl rfl (by decide) rfl ?_
          try simp only [List.set]
          refine g_goto (tgt := 18) dL_law_1551 (by decide) ?_
          exact ih (c + 1) (i + 6) _ h3 _ _ (by omega) (by omega) (in_weigh hin (by omega) (xs (i + 1)) (xs (i + 2)) (xs (i + 3)) (xs (i + 4))) (hc2.mk mk3) em3 (by omega) (by omega)
        · exact absurd rfl c771
      rcases Classical.em (sw = nI 16) with rfl | w16
      ·
        refine g_tabIn (off := 743) (tgt := 776) dL_law_33 (by decide) (by decide) rfl (by decide) ?_
        refine g_aload_n (pc' := 777) dL_law_776 rfl rfl ?_
        refine g_aload_n (pc' := 778) dL_law_777 rfl rfl ?_
        refine g_iload_n (pc' := 779) dL_law_778 rfl rfl ?_
        refine g_iconstN (n := 1) (pc' := 780) dL_law_779 rfl ?_
        refine g_iaddN (pc' := 781) dL_law_780 rfl ?_
        refine g_sld (pc' := 782) dL_law_781 rfl hXs (by omega) ?_
        refine g_aload_n (pc' := 783) dL_law_782 rfl rfl ?_
        refine g_iload_n (pc' := 784) dL_law_783 rfl rfl ?_
        refine g_iconstN (n := 2) (pc' := 785) dL_law_784 rfl ?_
        refine g_iaddN (pc' := 786) dL_law_785 rfl ?_
        refine g_sld (pc' := 787) dL_law_786 rfl hXs (by omega) ?_
        refine g_invV (pc' := 790) (cx_whole hok hc hw hx (xs ((i + 1))) (xs ((i + 2)))) dL_law_787 rfl rfl ck_12 rfl ml_L_84 im_X11_whole sl_X11_whole in_X11 co_X11_whole pd_X11_whole rfl (by omega) (by decide) ⟨by omega, by omega⟩ (Nat.le_of_ble_eq_true rfl) ?_
        rintro _ h2 ⟨rfl, hc2, em1⟩ -
        have em2 : mo h2 = m := em1.trans em
        refine g_aload_n (pc' := 791) dL_law_790 rfl rfl ?_
        refine g_aload_n (pc' := 792) dL_law_791 rfl rfl ?_
        refine g_iload_n (pc' := 793) dL_law_792 rfl rfl ?_
        refine g_iconstN (n := 1) (pc' := 794) dL_law_793 rfl ?_
        refine g_iaddN (pc' := 795) dL_law_794 rfl ?_
        refine g_sld (pc' := 796) dL_law_795 rfl hXs (by omega) ?_
        refine g_aload_n (pc' := 797) dL_law_796 rfl rfl ?_
        refine g_iload_n (pc' := 798) dL_law_797 rfl rfl ?_
        refine g_iconstN (n := 2) (pc' := 799) dL_law_798 rfl ?_
        refine g_iaddN (pc' := 800) dL_law_799 rfl ?_
        refine g_sld (pc' := 801) dL_law_800 rfl hXs (by omega) ?_
        have cmq := cm_whole (h := h2) hok hc2.s (by rw [em2]; exact hw) (by rw [em2]; exact hx) (xs (i + 1)) (xs (i + 2))
        rw [em2] at cmq
        refine g_invV (pc' := 804) (cmq) dL_law_801 rfl rfl ck_13 rfl ml_L_87 im_X12_whole sl_X12_whole in_X12 co_X12_whole pd_X12_whole rfl (by omega) (by decide) ⟨by omega, by omega⟩ (Nat.le_of_ble_eq_true rfl) ?_
        rintro _ h3 ⟨rfl, em3, mk3⟩ -
        refine g_icmp_eq (tgt := 1548) (pc' := 807) dL_law_804 rfl (by decide) (fun c804 => ?_) (fun c804 => ?_)
        ·
          refine g_iincN (k := 6) (pc' := 1551) dL_law_1548 rfl rfl (by decide) rfl ?_
          try simp only [List.set]
          refine g_goto (tgt := 18) dL_law_1551 (by decide) ?_
          exact ih (c + 1) (i + 6) _ h3 _ _ (by omega) (by omega) (in_whole hin (by omega) (xs (i + 1)) (xs (i + 2))) (hc2.mk mk3) em3 (by omega) (by omega)
        · exact absurd rfl c804
      rcases Classical.em (sw = nI 17) with rfl | w17
      ·
        refine g_tabIn (off := 776) (tgt := 809) dL_law_33 (by decide) (by decide) rfl (by decide) ?_
        refine g_aload_n (pc' := 810) dL_law_809 rfl rfl ?_
        refine g_aload_n (pc' := 811) dL_law_810 rfl rfl ?_
        refine g_iload_n (pc' := 812) dL_law_811 rfl rfl ?_
        refine g_iconstN (n := 1) (pc' := 813) dL_law_812 rfl ?_
        refine g_iaddN (pc' := 814) dL_law_813 rfl ?_
        refine g_sld (pc' := 815) dL_law_814 rfl hXs (by omega) ?_
        refine g_aload_n (pc' := 816) dL_law_815 rfl rfl ?_
        refine g_iload_n (pc' := 817) dL_law_816 rfl rfl ?_
        refine g_iconstN (n := 2) (pc' := 818) dL_law_817 rfl ?_
        refine g_iaddN (pc' := 819) dL_law_818 rfl ?_
        refine g_sld (pc' := 820) dL_law_819 rfl hXs (by omega) ?_
        refine g_invV (pc' := 823) (cx_waits hok hc hw (xs ((i + 1))) (xs ((i + 2)))) dL_law_820 rfl rfl ck_12 rfl ml_L_88 im_X11_waits sl_X11_waits in_X11 co_X11_waits pd_X11_waits rfl (by omega) (by decide) ⟨by omega, by omega⟩ (Nat.le_of_ble_eq_true rfl) ?_
        rintro _ h2 ⟨rfl, hc2, em1⟩ -
        have em2 : mo h2 = m := em1.trans em
        refine g_aload_n (pc' := 824) dL_law_823 rfl rfl ?_
        refine g_aload_n (pc' := 825) dL_law_824 rfl rfl ?_
        refine g_iload_n (pc' := 826) dL_law_825 rfl rfl ?_
        refine g_iconstN (n := 1) (pc' := 827) dL_law_826 rfl ?_
        refine g_iaddN (pc' := 828) dL_law_827 rfl ?_
        refine g_sld (pc' := 829) dL_law_828 rfl hXs (by omega) ?_
        refine g_aload_n (pc' := 830) dL_law_829 rfl rfl ?_
        refine g_iload_n (pc' := 831) dL_law_830 rfl rfl ?_
        refine g_iconstN (n := 2) (pc' := 832) dL_law_831 rfl ?_
        refine g_iaddN (pc' := 833) dL_law_832 rfl ?_
        refine g_sld (pc' := 834) dL_law_833 rfl hXs (by omega) ?_
        have cmq := cm_waits (h := h2) hok hc2.s (by rw [em2]; exact hw) (xs (i + 1)) (xs (i + 2))
        rw [em2] at cmq
        refine g_invV (pc' := 837) (cmq) dL_law_834 rfl rfl ck_13 rfl ml_L_92 im_X12_waits sl_X12_waits in_X12 co_X12_waits pd_X12_waits rfl (by omega) (by decide) ⟨by omega, by omega⟩ (Nat.le_of_ble_eq_true rfl) ?_
        rintro _ h3 ⟨rfl, em3, mk3⟩ -
        refine g_icmp_eq (tgt := 1548) (pc' := 840) dL_law_837 rfl (by decide) (fun c837 => ?_) (fun c837 => ?_)
        ·
          refine g_iincN (k := 6) (pc' := 1551) dL_law_1548 rfl rfl (by decide) rfl ?_
          try simp only [List.set]
          refine g_goto (tgt := 18) dL_law_1551 (by decide) ?_
          exact ih (c + 1) (i + 6) _ h3 _ _ (by omega) (by omega) (in_waits hin (by omega) (xs (i + 1)) (xs (i + 2))) (hc2.mk mk3) em3 (by omega) (by omega)
        · exact absurd rfl c837
      rcases Classical.em (sw = nI 18) with rfl | w18
      ·
        refine g_tabIn (off := 809) (tgt := 842) dL_law_33 (by decide) (by decide) rfl (by decide) ?_
        refine g_aload_n (pc' := 843) dL_law_842 rfl rfl ?_
        refine g_aload_n (pc' := 844) dL_law_843 rfl rfl ?_
        refine g_iload_n (pc' := 845) dL_law_844 rfl rfl ?_
        refine g_iconstN (n := 1) (pc' := 846) dL_law_845 rfl ?_
        refine g_iaddN (pc' := 847) dL_law_846 rfl ?_
        refine g_sld (pc' := 848) dL_law_847 rfl hXs (by omega) ?_
        refine g_aload_n (pc' := 849) dL_law_848 rfl rfl ?_
        refine g_iload_n (pc' := 850) dL_law_849 rfl rfl ?_
        refine g_iconstN (n := 2) (pc' := 851) dL_law_850 rfl ?_
        refine g_iaddN (pc' := 852) dL_law_851 rfl ?_
        refine g_sld (pc' := 853) dL_law_852 rfl hXs (by omega) ?_
        refine g_invV (pc' := 856) (cx_leaves hok hc hw (xs ((i + 1))) (xs ((i + 2)))) dL_law_853 rfl rfl ck_12 rfl ml_L_93 im_X11_leaves sl_X11_leaves in_X11 co_X11_leaves pd_X11_leaves rfl (by omega) (by decide) ⟨by omega, by omega⟩ (Nat.le_of_ble_eq_true rfl) ?_
        rintro _ h2 ⟨rfl, hc2, em1⟩ -
        have em2 : mo h2 = m := em1.trans em
        refine g_aload_n (pc' := 857) dL_law_856 rfl rfl ?_
        refine g_aload_n (pc' := 858) dL_law_857 rfl rfl ?_
        refine g_iload_n (pc' := 859) dL_law_858 rfl rfl ?_
        refine g_iconstN (n := 1) (pc' := 860) dL_law_859 rfl ?_
        refine g_iaddN (pc' := 861) dL_law_860 rfl ?_
        refine g_sld (pc' := 862) dL_law_861 rfl hXs (by omega) ?_
        refine g_aload_n (pc' := 863) dL_law_862 rfl rfl ?_
        refine g_iload_n (pc' := 864) dL_law_863 rfl rfl ?_
        refine g_iconstN (n := 2) (pc' := 865) dL_law_864 rfl ?_
        refine g_iaddN (pc' := 866) dL_law_865 rfl ?_
        refine g_sld (pc' := 867) dL_law_866 rfl hXs (by omega) ?_
        have cmq := cm_leaves (h := h2) hok hc2.s (by rw [em2]; exact hw) (xs (i + 1)) (xs (i + 2))
        rw [em2] at cmq
        refine g_invV (pc' := 870) (cmq) dL_law_867 rfl rfl ck_13 rfl ml_L_96 im_X12_leaves sl_X12_leaves in_X12 co_X12_leaves pd_X12_leaves rfl (by omega) (by decide) ⟨by omega, by omega⟩ (Nat.le_of_ble_eq_true rfl) ?_
        rintro _ h3 ⟨rfl, em3, mk3⟩ -
        refine g_icmp_eq (tgt := 1548) (pc' := 873) dL_law_870 rfl (by decide) (fun c870 => ?_) (fun c870 => ?_)
        ·
          refine g_iincN (k := 6) (pc' := 1551) dL_law_1548 rfl rfl (by decide) rfl ?_
          try simp only [List.set]
          refine g_goto (tgt := 18) dL_law_1551 (by decide) ?_
          exact ih (c + 1) (i + 6) _ h3 _ _ (by omega) (by omega) (in_leaves hin (by omega) (xs (i + 1)) (xs (i + 2))) (hc2.mk mk3) em3 (by omega) (by omega)
        · exact absurd rfl c870
      rcases Classical.em (sw = nI 19) with rfl | w19
      ·
        refine g_tabIn (off := 842) (tgt := 875) dL_law_33 (by decide) (by decide) rfl (by decide) ?_
        refine g_aload_n (pc' := 876) dL_law_875 rfl rfl ?_
        refine g_aload_n (pc' := 877) dL_law_876 rfl rfl ?_
        refine g_iload_n (pc' := 878) dL_law_877 rfl rfl ?_
        refine g_iconstN (n := 1) (pc' := 879) dL_law_878 rfl ?_
        refine g_iaddN (pc' := 880) dL_law_879 rfl ?_
        refine g_sld (pc' := 881) dL_law_880 rfl hXs (by omega) ?_
        refine g_aload_n (pc' := 882) dL_law_881 rfl rfl ?_
        refine g_iload_n (pc' := 883) dL_law_882 rfl rfl ?_
        refine g_iconstN (n := 2) (pc' := 884) dL_law_883 rfl ?_
        refine g_iaddN (pc' := 885) dL_law_884 rfl ?_
        refine g_sld (pc' := 886) dL_law_885 rfl hXs (by omega) ?_
        refine g_invV (pc' := 889) (cx_next hok hc hw hx hCR (xs ((i + 1))) (xs ((i + 2)))) dL_law_886 rfl rfl ck_12 rfl ml_L_97 im_X11_next sl_X11_next in_X11 co_X11_next pd_X11_next rfl (by omega) (by decide) ⟨by omega, by omega⟩ (Nat.le_of_ble_eq_true rfl) ?_
        rintro _ h2 ⟨rfl, hc2, em1⟩ -
        have em2 : mo h2 = m := em1.trans em
        refine g_aload_n (pc' := 890) dL_law_889 rfl rfl ?_
        refine g_aload_n (pc' := 891) dL_law_890 rfl rfl ?_
        refine g_iload_n (pc' := 892) dL_law_891 rfl rfl ?_
        refine g_iconstN (n := 1) (pc' := 893) dL_law_892 rfl ?_
        refine g_iaddN (pc' := 894) dL_law_893 rfl ?_
        refine g_sld (pc' := 895) dL_law_894 rfl hXs (by omega) ?_
        refine g_aload_n (pc' := 896) dL_law_895 rfl rfl ?_
        refine g_iload_n (pc' := 897) dL_law_896 rfl rfl ?_
        refine g_iconstN (n := 2) (pc' := 898) dL_law_897 rfl ?_
        refine g_iaddN (pc' := 899) dL_law_898 rfl ?_
        refine g_sld (pc' := 900) dL_law_899 rfl hXs (by omega) ?_
        have cmq := cm_next (h := h2) hok hc2.s (by rw [em2]; exact hw) (by rw [em2]; exact hx) (R := R) (by rw [em2]; exact hR) (xs (i + 1)) (xs (i + 2))
        rw [em2] at cmq
        refine g_invV (pc' := 903) (cmq) dL_law_900 rfl rfl ck_13 rfl ml_L_100 im_X12_next sl_X12_next in_X12 co_X12_next pd_X12_next rfl (by omega) (by decide) ⟨by omega, by omega⟩ (Nat.le_of_ble_eq_true rfl) ?_
        rintro _ h3 ⟨rfl, em3, mk3⟩ -
        refine g_icmp_eq (tgt := 1548) (pc' := 906) dL_law_903 rfl (by decide) (fun c903 => ?_) (fun c903 => ?_)
        ·
          refine g_iincN (k := 6) (pc' := 1551) dL_law_1548 rfl rfl (by decide) rfl ?_
          try simp only [List.set]
          refine g_goto (tgt := 18) dL_law_1551 (by decide) ?_
          exact ih (c + 1) (i + 6) _ h3 _ _ (by omega) (by omega) (in_next hin (by omega) R (xs (i + 1)) (xs (i + 2))) (hc2.mk mk3) em3 (by omega) (by omega)
        · exact absurd rfl c903
      rcases Classical.em (sw = nI 20) with rfl | w20
      ·
        refine g_tabIn (off := 875) (tgt := 908) dL_law_33 (by decide) (by decide) rfl (by decide) ?_
        refine g_aload_n (pc' := 909) dL_law_908 rfl rfl ?_
        refine g_aload_n (pc' := 910) dL_law_909 rfl rfl ?_
        refine g_iload_n (pc' := 911) dL_law_910 rfl rfl ?_
        refine g_iconstN (n := 1) (pc' := 912) dL_law_911 rfl ?_
        refine g_iaddN (pc' := 913) dL_law_912 rfl ?_
        refine g_sld (pc' := 914) dL_law_913 rfl hXs (by omega) ?_
        refine g_aload_n (pc' := 915) dL_law_914 rfl rfl ?_
        refine g_iload_n (pc' := 916) dL_law_915 rfl rfl ?_
        refine g_iconstN (n := 2) (pc' := 917) dL_law_916 rfl ?_
        refine g_iaddN (pc' := 918) dL_law_917 rfl ?_
        refine g_sld (pc' := 919) dL_law_918 rfl hXs (by omega) ?_
        refine g_aload_n (pc' := 920) dL_law_919 rfl rfl ?_
        refine g_iload_n (pc' := 921) dL_law_920 rfl rfl ?_
        refine g_iconstN (n := 3) (pc' := 922) dL_law_921 rfl ?_
        refine g_iaddN (pc' := 923) dL_law_922 rfl ?_
        refine g_sld (pc' := 924) dL_law_923 rfl hXs (by omega) ?_
        refine g_invV (pc' := 927) (cx_buying hok hc hw hx (xs ((i + 1))) (xs ((i + 2))) (xs ((i + 3)))) dL_law_924 rfl rfl ck_12 rfl ml_L_101 im_X11_buying sl_X11_buying in_X11 co_X11_buying pd_X11_buying rfl (by omega) (by decide) ⟨by omega, by omega⟩ (Nat.le_of_ble_eq_true rfl) ?_
        rintro _ h2 ⟨rfl, hc2, em1⟩ -
        have em2 : mo h2 = m := em1.trans em
        refine g_aload_n (pc' := 928) dL_law_927 rfl rfl ?_
        refine g_aload_n (pc' := 929) dL_law_928 rfl rfl ?_
        refine g_iload_n (pc' := 930) dL_law_929 rfl rfl ?_
        refine g_iconstN (n := 1) (pc' := 931) dL_law_930 rfl ?_
        refine g_iaddN (pc' := 932) dL_law_931 rfl ?_
        refine g_sld (pc' := 933) dL_law_932 rfl hXs (by omega) ?_
        refine g_aload_n (pc' := 934) dL_law_933 rfl rfl ?_
        refine g_iload_n (pc' := 935) dL_law_934 rfl rfl ?_
        refine g_iconstN (n := 2) (pc' := 936) dL_law_935 rfl ?_
        refine g_iaddN (pc' := 937) dL_law_936 rfl ?_
        refine g_sld (pc' := 938) dL_law_937 rfl hXs (by omega) ?_
        refine g_aload_n (pc' := 939) dL_law_938 rfl rfl ?_
        refine g_iload_n (pc' := 940) dL_law_939 rfl rfl ?_
        refine g_iconstN (n := 3) (pc' := 941) dL_law_940 rfl ?_
        refine g_iaddN (pc' := 942) dL_law_941 rfl ?_
        refine g_sld (pc' := 943) dL_law_942 rfl hXs (by omega) ?_
        have cmq := cm_buying (h := h2) hok hc2.s (by rw [em2]; exact hw) (by rw [em2]; exact hx) (xs (i + 1)) (xs (i + 2)) (xs (i + 3))
        rw [em2] at cmq
        refine g_invV (pc' := 946) (cmq) dL_law_943 rfl rfl ck_13 rfl ml_L_104 im_X12_buying sl_X12_buying in_X12 co_X12_buying pd_X12_buying rfl (by omega) (by decide) ⟨by omega, by omega⟩ (Nat.le_of_ble_eq_true rfl) ?_
        rintro _ h3 ⟨rfl, em3, mk3⟩ -
        refine g_icmp_eq (tgt := 1548) (pc' := 949) dL_law_946 rfl (by decide) (fun c946 => ?_) (fun c946 => ?_)
        ·
          refine g_iincN (k := 6) (pc' := 1551) dL_law_1548 rfl rfl (by decide) rfl ?_
          try simp only [List.set]
          refine g_goto (tgt := 18) dL_law_1551 (by decide) ?_
          exact ih (c + 1) (i + 6) _ h3 _ _ (by omega) (by omega) (in_buying hin (by omega) (xs (i + 1)) (xs (i + 2)) (xs (i + 3))) (hc2.mk mk3) em3 (by omega) (by omega)
        · exact absurd rfl c946
      rcases Classical.em (sw = nI 21) with rfl | w21
      ·
        refine g_tabIn (off := 918) (tgt := 951) dL_law_33 (by decide) (by decide) rfl (by decide) ?_
        refine g_aload_n (pc' := 952) dL_law_951 rfl rfl ?_
        refine g_aload_n (pc' := 953) dL_law_952 rfl rfl ?_
        refine g_iload_n (pc' := 954) dL_law_953 rfl rfl ?_
        refine g_iconstN (n := 1) (pc' := 955) dL_law_954 rfl ?_
        refine g_iaddN (pc' := 956) dL_law_955 rfl ?_
        refine g_sld (pc' := 957) dL_law_956 rfl hXs (by omega) ?_
        refine g_aload_n (pc' := 958) dL_law_957 rfl rfl ?_
        refine g_iload_n (pc' := 959) dL_law_958 rfl rfl ?_
        refine g_iconstN (n := 2) (pc' := 960) dL_law_959 rfl ?_
        refine g_iaddN (pc' := 961) dL_law_960 rfl ?_
        refine g_sld (pc' := 962) dL_law_961 rfl hXs (by omega) ?_
        refine g_aload_n (pc' := 963) dL_law_962 rfl rfl ?_
        refine g_iload_n (pc' := 964) dL_law_963 rfl rfl ?_
        refine g_iconstN (n := 3) (pc' := 965) dL_law_964 rfl ?_
        refine g_iaddN (pc' := 966) dL_law_965 rfl ?_
        refine g_sld (pc' := 967) dL_law_966 rfl hXs (by omega) ?_
        refine g_invV (pc' := 970) (cx_van hok hc hw hx hCR (xs ((i + 1))) (xs ((i + 2))) (xs ((i + 3)))) dL_law_967 rfl rfl ck_12 rfl ml_L_105 im_X11_van sl_X11_van in_X11 co_X11_van pd_X11_van rfl (by omega) (by decide) ⟨by omega, by omega⟩ (Nat.le_of_ble_eq_true rfl) ?_
        rintro _ h2 ⟨rfl, hc2, em1⟩ -
        have em2 : mo h2 = m := em1.trans em
        refine g_aload_n (pc' := 971) dL_law_970 rfl rfl ?_
        refine g_aload_n (pc' := 972) dL_law_971 rfl rfl ?_
        refine g_iload_n (pc' := 973) dL_law_972 rfl rfl ?_
        refine g_iconstN (n := 1) (pc' := 974) dL_law_973 rfl ?_
        refine g_iaddN (pc' := 975) dL_law_974 rfl ?_
        refine g_sld (pc' := 976) dL_law_975 rfl hXs (by omega) ?_
        refine g_aload_n (pc' := 977) dL_law_976 rfl rfl ?_
        refine g_iload_n (pc' := 978) dL_law_977 rfl rfl ?_
        refine g_iconstN (n := 2) (pc' := 979) dL_law_978 rfl ?_
        refine g_iaddN (pc' := 980) dL_law_979 rfl ?_
        refine g_sld (pc' := 981) dL_law_980 rfl hXs (by omega) ?_
        refine g_aload_n (pc' := 982) dL_law_981 rfl rfl ?_
        refine g_iload_n (pc' := 983) dL_law_982 rfl rfl ?_
        refine g_iconstN (n := 3) (pc' := 984) dL_law_983 rfl ?_
        refine g_iaddN (pc' := 985) dL_law_984 rfl ?_
        refine g_sld (pc' := 986) dL_law_985 rfl hXs (by omega) ?_
        have cmq := cm_van (h := h2) hok hc2.s (by rw [em2]; exact hw) (R := R) (by rw [em2]; exact hR) (xs (i + 1)) (xs (i + 2)) (xs (i + 3))
        rw [em2] at cmq
        refine g_invV (pc' := 989) (cmq) dL_law_986 rfl rfl ck_13 rfl ml_L_108 im_X12_van sl_X12_van in_X12 co_X12_van pd_X12_van rfl (by omega) (by decide) ⟨by omega, by omega⟩ (Nat.le_of_ble_eq_true rfl) ?_
        rintro _ h3 ⟨rfl, em3, mk3⟩ -
        refine g_icmp_eq (tgt := 1548) (pc' := 992) dL_law_989 rfl (by decide) (fun c989 => ?_) (fun c989 => ?_)
        ·
          refine g_iincN (k := 6) (pc' := 1551) dL_law_1548 rfl rfl (by decide) rfl ?_
          try simp only [List.set]
          refine g_goto (tgt := 18) dL_law_1551 (by decide) ?_
          exact ih (c + 1) (i + 6) _ h3 _ _ (by omega) (by omega) (in_van hin (by omega) R (xs (i + 1)) (xs (i + 2)) (xs (i + 3))) (hc2.mk mk3) em3 (by omega) (by omega)
        · exact absurd rfl c989
      rcases Classical.em (sw = nI 22) with rfl | w22
      ·
        refine g_tabIn (off := 961) (tgt := 994) dL_law_33 (by decide) (by decide) rfl (by decide) ?_
        refine g_aload_n (pc' := 995) dL_law_994 rfl rfl ?_
        refine g_aload_n (pc' := 996) dL_law_995 rfl rfl ?_
        refine g_iload_n (pc' := 997) dL_law_996 rfl rfl ?_
        refine g_iconstN (n := 1) (pc' := 998) dL_law_997 rfl ?_
        refine g_iaddN (pc' := 999) dL_law_998 rfl ?_
        refine g_sld (pc' := 1000) dL_law_999 rfl hXs (by omega) ?_
        refine g_aload_n (pc' := 1001) dL_law_1000 rfl rfl ?_
        refine g_iload_n (pc' := 1002) dL_law_1001 rfl rfl ?_
        refine g_iconstN (n := 2) (pc' := 1003) dL_law_1002 rfl ?_
        refine g_iaddN (pc' := 1004) dL_law_1003 rfl ?_
        refine g_sld (pc' := 1005) dL_law_1004 rfl hXs (by omega) ?_
        refine g_invV (pc' := 1008) (cx_minutes hok hc hw (xs ((i + 1))) (xs ((i + 2)))) dL_law_1005 rfl rfl ck_12 rfl ml_L_109 im_X11_minutes sl_X11_minutes in_X11 co_X11_minutes pd_X11_minutes rfl (by omega) (by decide) ⟨by omega, by omega⟩ (Nat.le_of_ble_eq_true rfl) ?_
        rintro _ h2 ⟨rfl, hc2, em1⟩ -
        have em2 : mo h2 = m := em1.trans em
        refine g_aload_n (pc' := 1009) dL_law_1008 rfl rfl ?_
        refine g_aload_n (pc' := 1010) dL_law_1009 rfl rfl ?_
        refine g_iload_n (pc' := 1011) dL_law_1010 rfl rfl ?_
        refine g_iconstN (n := 1) (pc' := 1012) dL_law_1011 rfl ?_
        refine g_iaddN (pc' := 1013) dL_law_1012 rfl ?_
        refine g_sld (pc' := 1014) dL_law_1013 rfl hXs (by omega) ?_
        refine g_aload_n (pc' := 1015) dL_law_1014 rfl rfl ?_
        refine g_iload_n (pc' := 1016) dL_law_1015 rfl rfl ?_
        refine g_iconstN (n := 2) (pc' := 1017) dL_law_1016 rfl ?_
        refine g_iaddN (pc' := 1018) dL_law_1017 rfl ?_
        refine g_sld (pc' := 1019) dL_law_1018 rfl hXs (by omega) ?_
        have cmq := cm_minutes (h := h2) hok hc2.s (by rw [em2]; exact hw) (xs (i + 1)) (xs (i + 2))
        rw [em2] at cmq
        refine g_invV (pc' := 1022) (cmq) dL_law_1019 rfl rfl ck_13 rfl ml_L_112 im_X12_minutes sl_X12_minutes in_X12 co_X12_minutes pd_X12_minutes rfl (by omega) (by decide) ⟨by omega, by omega⟩ (Nat.le_of_ble_eq_true rfl) ?_
        rintro _ h3 ⟨rfl, em3, mk3⟩ -
        refine g_icmp_eq (tgt := 1548) (pc' := 1025) dL_law_1022 rfl (by decide) (fun c1022 => ?_) (fun c1022 => ?_)
        ·
          refine g_iincN (k := 6) (pc' := 1551) dL_law_1548 rfl rfl (by decide) rfl ?_
          try simp only [List.set]
          refine g_goto (tgt := 18) dL_law_1551 (by decide) ?_
          exact ih (c + 1) (i + 6) _ h3 _ _ (by omega) (by omega) (in_minutes hin (by omega) (xs (i + 1)) (xs (i + 2))) (hc2.mk mk3) em3 (by omega) (by omega)
        · exact absurd rfl c1022
      rcases Classical.em (sw = nI 23) with rfl | w23
      ·
        refine g_tabIn (off := 994) (tgt := 1027) dL_law_33 (by decide) (by decide) rfl (by decide) ?_
        refine g_aload_n (pc' := 1028) dL_law_1027 rfl rfl ?_
        refine g_aload_n (pc' := 1029) dL_law_1028 rfl rfl ?_
        refine g_iload_n (pc' := 1030) dL_law_1029 rfl rfl ?_
        refine g_iconstN (n := 1) (pc' := 1031) dL_law_1030 rfl ?_
        refine g_iaddN (pc' := 1032) dL_law_1031 rfl ?_
        refine g_sld (pc' := 1033) dL_law_1032 rfl hXs (by omega) ?_
        refine g_aload_n (pc' := 1034) dL_law_1033 rfl rfl ?_
        refine g_iload_n (pc' := 1035) dL_law_1034 rfl rfl ?_
        refine g_iconstN (n := 2) (pc' := 1036) dL_law_1035 rfl ?_
        refine g_iaddN (pc' := 1037) dL_law_1036 rfl ?_
        refine g_sld (pc' := 1038) dL_law_1037 rfl hXs (by omega) ?_
        refine g_invV (pc' := 1041) (cx_mending hok hc hw hx (xs ((i + 1))) (xs ((i + 2)))) dL_law_1038 rfl rfl ck_12 rfl ml_L_113 im_X11_mending sl_X11_mending in_X11 co_X11_mending pd_X11_mending rfl (by omega) (by decide) ⟨by omega, by omega⟩ (Nat.le_of_ble_eq_true rfl) ?_
        rintro _ h2 ⟨rfl, hc2, em1⟩ -
        have em2 : mo h2 = m := em1.trans em
        refine g_aload_n (pc' := 1042) dL_law_1041 rfl rfl ?_
        refine g_aload_n (pc' := 1043) dL_law_1042 rfl rfl ?_
        refine g_iload_n (pc' := 1044) dL_law_1043 rfl rfl ?_
        refine g_iconstN (n := 1) (pc' := 1045) dL_law_1044 rfl ?_
        refine g_iaddN (pc' := 1046) dL_law_1045 rfl ?_
        refine g_sld (pc' := 1047) dL_law_1046 rfl hXs (by omega) ?_
        refine g_aload_n (pc' := 1048) dL_law_1047 rfl rfl ?_
        refine g_iload_n (pc' := 1049) dL_law_1048 rfl rfl ?_
        refine g_iconstN (n := 2) (pc' := 1050) dL_law_1049 rfl ?_
        refine g_iaddN (pc' := 1051) dL_law_1050 rfl ?_
        refine g_sld (pc' := 1052) dL_law_1051 rfl hXs (by omega) ?_
        have cmq := cm_mending (h := h2) hok hc2.s (by rw [em2]; exact hw) (by rw [em2]; exact hx) (xs (i + 1)) (xs (i + 2))
        rw [em2] at cmq
        refine g_invV (pc' := 1055) (cmq) dL_law_1052 rfl rfl ck_13 rfl ml_L_116 im_X12_mending sl_X12_mending in_X12 co_X12_mending pd_X12_mending rfl (by omega) (by decide) ⟨by omega, by omega⟩ (Nat.le_of_ble_eq_true rfl) ?_
        rintro _ h3 ⟨rfl, em3, mk3⟩ -
        refine g_icmp_eq (tgt := 1548) (pc' := 1058) dL_law_1055 rfl (by decide) (fun c1055 => ?_) (fun c1055 => ?_)
        ·
          refine g_iincN (k := 6) (pc' := 1551) dL_law_1548 rfl rfl (by decide) rfl ?_
          try simp only [List.set]
          refine g_goto (tgt := 18) dL_law_1551 (by decide) ?_
          exact ih (c + 1) (i + 6) _ h3 _ _ (by omega) (by omega) (in_mending hin (by omega) (xs (i + 1)) (xs (i + 2))) (hc2.mk mk3) em3 (by omega) (by omega)
        · exact absurd rfl c1055
      rcases Classical.em (sw = nI 24) with rfl | w24
      ·
        refine g_tabIn (off := 1027) (tgt := 1060) dL_law_33 (by decide) (by decide) rfl (by decide) ?_
        refine g_aload_n (pc' := 1061) dL_law_1060 rfl rfl ?_
        refine g_aload_n (pc' := 1062) dL_law_1061 rfl rfl ?_
        refine g_iload_n (pc' := 1063) dL_law_1062 rfl rfl ?_
        refine g_iconstN (n := 1) (pc' := 1064) dL_law_1063 rfl ?_
        refine g_iaddN (pc' := 1065) dL_law_1064 rfl ?_
        refine g_sld (pc' := 1066) dL_law_1065 rfl hXs (by omega) ?_
        refine g_invV (pc' := 1069) (cx_mend hok hc hw hx (xs ((i + 1)))) dL_law_1066 rfl rfl ck_12 rfl ml_L_117 im_X11_mend sl_X11_mend in_X11 co_X11_mend pd_X11_mend rfl (by omega) (by decide) ⟨by omega, by omega⟩ (Nat.le_of_ble_eq_true rfl) ?_
        rintro _ h2 ⟨rfl, hc2, em1⟩ -
        have em2 : mo h2 = m := em1.trans em
        refine g_aload_n (pc' := 1070) dL_law_1069 rfl rfl ?_
        refine g_aload_n (pc' := 1071) dL_law_1070 rfl rfl ?_
        refine g_iload_n (pc' := 1072) dL_law_1071 rfl rfl ?_
        refine g_iconstN (n := 1) (pc' := 1073) dL_law_1072 rfl ?_
        refine g_iaddN (pc' := 1074) dL_law_1073 rfl ?_
        refine g_sld (pc' := 1075) dL_law_1074 rfl hXs (by omega) ?_
        have cmq := cm_mend (h := h2) hok hc2.s (by rw [em2]; exact hw) (xs (i + 1))
        rw [em2] at cmq
        refine g_invV (pc' := 1078) (cmq) dL_law_1075 rfl rfl ck_13 rfl ml_L_120 im_X12_mend sl_X12_mend in_X12 co_X12_mend pd_X12_mend rfl (by omega) (by decide) ⟨by omega, by omega⟩ (Nat.le_of_ble_eq_true rfl) ?_
        rintro _ h3 ⟨rfl, em3, mk3⟩ -
        refine g_icmp_eq (tgt := 1548) (pc' := 1081) dL_law_1078 rfl (by decide) (fun c1078 => ?_) (fun c1078 => ?_)
        ·
          refine g_iincN (k := 6) (pc' := 1551) dL_law_1548 rfl rfl (by decide) rfl ?_
          try simp only [List.set]
          refine g_goto (tgt := 18) dL_law_1551 (by decide) ?_
          exact ih (c + 1) (i + 6) _ h3 _ _ (by omega) (by omega) (in_mend hin (by omega) (xs (i + 1))) (hc2.mk mk3) em3 (by omega) (by omega)
        · exact absurd rfl c1078
      rcases Classical.em (sw = nI 25) with rfl | w25
      ·
        refine g_tabIn (off := 1050) (tgt := 1083) dL_law_33 (by decide) (by decide) rfl (by decide) ?_
        refine g_aload_n (pc' := 1084) dL_law_1083 rfl rfl ?_
        refine g_aload_n (pc' := 1085) dL_law_1084 rfl rfl ?_
        refine g_iload_n (pc' := 1086) dL_law_1085 rfl rfl ?_
        refine g_iconstN (n := 1) (pc' := 1087) dL_law_1086 rfl ?_
        refine g_iaddN (pc' := 1088) dL_law_1087 rfl ?_
        refine g_sld (pc' := 1089) dL_law_1088 rfl hXs (by omega) ?_
        refine g_aload_n (pc' := 1090) dL_law_1089 rfl rfl ?_
        refine g_iload_n (pc' := 1091) dL_law_1090 rfl rfl ?_
        refine g_iconstN (n := 2) (pc' := 1092) dL_law_1091 rfl ?_
        refine g_iaddN (pc' := 1093) dL_law_1092 rfl ?_
        refine g_sld (pc' := 1094) dL_law_1093 rfl hXs (by omega) ?_
        refine g_invV (pc' := 1097) (cx_rota hok hc hw hx (xs ((i + 1))) (xs ((i + 2)))) dL_law_1094 rfl rfl ck_12 rfl ml_L_121 im_X11_rota sl_X11_rota in_X11 co_X11_rota pd_X11_rota rfl (by omega) (by decide) ⟨by omega, by omega⟩ (Nat.le_of_ble_eq_true rfl) ?_
        rintro _ h2 ⟨rfl, hc2, em1⟩ -
        have em2 : mo h2 = m := em1.trans em
        refine g_aload_n (pc' := 1098) dL_law_1097 rfl rfl ?_
        refine g_aload_n (pc' := 1099) dL_law_1098 rfl rfl ?_
        refine g_iload_n (pc' := 1100) dL_law_1099 rfl rfl ?_
        refine g_iconstN (n := 1) (pc' := 1101) dL_law_1100 rfl ?_
        refine g_iaddN (pc' := 1102) dL_law_1101 rfl ?_
        refine g_sld (pc' := 1103) dL_law_1102 rfl hXs (by omega) ?_
        refine g_aload_n (pc' := 1104) dL_law_1103 rfl rfl ?_
        refine g_iload_n (pc' := 1105) dL_law_1104 rfl rfl ?_
        refine g_iconstN (n := 2) (pc' := 1106) dL_law_1105 rfl ?_
        refine g_iaddN (pc' := 1107) dL_law_1106 rfl ?_
        refine g_sld (pc' := 1108) dL_law_1107 rfl hXs (by omega) ?_
        have cmq := cm_rota (h := h2) hok hc2.s (by rw [em2]; exact hw) (xs (i + 1)) (xs (i + 2))
        rw [em2] at cmq
        refine g_invV (pc' := 1111) (cmq) dL_law_1108 rfl rfl ck_13 rfl ml_L_124 im_X12_rota sl_X12_rota in_X12 co_X12_rota pd_X12_rota rfl (by omega) (by decide) ⟨by omega, by omega⟩ (Nat.le_of_ble_eq_true rfl) ?_
        rintro _ h3 ⟨rfl, em3, mk3⟩ -
        refine g_icmp_eq (tgt := 1548) (pc' := 1114) dL_law_1111 rfl (by decide) (fun c1111 => ?_) (fun c1111 => ?_)
        ·
          refine g_iincN (k := 6) (pc' := 1551) dL_law_1548 rfl rfl (by decide) rfl ?_
          try simp only [List.set]
          refine g_goto (tgt := 18) dL_law_1551 (by decide) ?_
          exact ih (c + 1) (i + 6) _ h3 _ _ (by omega) (by omega) (in_rota hin (by omega) (xs (i + 1)) (xs (i + 2))) (hc2.mk mk3) em3 (by omega) (by omega)
        · exact absurd rfl c1111
      rcases Classical.em (sw = nI 26) with rfl | w26
      ·
        refine g_tabIn (off := 1083) (tgt := 1116) dL_law_33 (by decide) (by decide) rfl (by decide) ?_
        refine g_aload_n (pc' := 1117) dL_law_1116 rfl rfl ?_
        refine g_aload_n (pc' := 1118) dL_law_1117 rfl rfl ?_
        refine g_iload_n (pc' := 1119) dL_law_1118 rfl rfl ?_
        refine g_iconstN (n := 1) (pc' := 1120) dL_law_1119 rfl ?_
        refine g_iaddN (pc' := 1121) dL_law_1120 rfl ?_
        refine g_sld (pc' := 1122) dL_law_1121 rfl hXs (by omega) ?_
        refine g_aload_n (pc' := 1123) dL_law_1122 rfl rfl ?_
        refine g_iload_n (pc' := 1124) dL_law_1123 rfl rfl ?_
        refine g_iconstN (n := 2) (pc' := 1125) dL_law_1124 rfl ?_
        refine g_iaddN (pc' := 1126) dL_law_1125 rfl ?_
        refine g_sld (pc' := 1127) dL_law_1126 rfl hXs (by omega) ?_
        refine g_aload_n (pc' := 1128) dL_law_1127 rfl rfl ?_
        refine g_iload_n (pc' := 1129) dL_law_1128 rfl rfl ?_
        refine g_iconstN (n := 3) (pc' := 1130) dL_law_1129 rfl ?_
        refine g_iaddN (pc' := 1131) dL_law_1130 rfl ?_
        refine g_sld (pc' := 1132) dL_law_1131 rfl hXs (by omega) ?_
        refine g_invV (pc' := 1135) (cx_recall hok hc hw hx (xs ((i + 1))) (xs ((i + 2))) (xs ((i + 3)))) dL_law_1132 rfl rfl ck_12 rfl ml_L_125 im_X11_recall sl_X11_recall in_X11 co_X11_recall pd_X11_recall rfl (by omega) (by decide) ⟨by omega, by omega⟩ (Nat.le_of_ble_eq_true rfl) ?_
        rintro _ h2 ⟨rfl, hc2, em1⟩ -
        have em2 : mo h2 = m := em1.trans em
        refine g_aload_n (pc' := 1136) dL_law_1135 rfl rfl ?_
        refine g_aload_n (pc' := 1137) dL_law_1136 rfl rfl ?_
        refine g_iload_n (pc' := 1138) dL_law_1137 rfl rfl ?_
        refine g_iconstN (n := 1) (pc' := 1139) dL_law_1138 rfl ?_
        refine g_iaddN (pc' := 1140) dL_law_1139 rfl ?_
        refine g_sld (pc' := 1141) dL_law_1140 rfl hXs (by omega) ?_
        refine g_aload_n (pc' := 1142) dL_law_1141 rfl rfl ?_
        refine g_iload_n (pc' := 1143) dL_law_1142 rfl rfl ?_
        refine g_iconstN (n := 2) (pc' := 1144) dL_law_1143 rfl ?_
        refine g_iaddN (pc' := 1145) dL_law_1144 rfl ?_
        refine g_sld (pc' := 1146) dL_law_1145 rfl hXs (by omega) ?_
        refine g_aload_n (pc' := 1147) dL_law_1146 rfl rfl ?_
        refine g_iload_n (pc' := 1148) dL_law_1147 rfl rfl ?_
        refine g_iconstN (n := 3) (pc' := 1149) dL_law_1148 rfl ?_
        refine g_iaddN (pc' := 1150) dL_law_1149 rfl ?_
        refine g_sld (pc' := 1151) dL_law_1150 rfl hXs (by omega) ?_
        have cmq := cm_recall (h := h2) hok hc2.s (by rw [em2]; exact hw) (xs (i + 1)) (xs (i + 2)) (xs (i + 3))
        rw [em2] at cmq
        refine g_invV (pc' := 1154) (cmq) dL_law_1151 rfl rfl ck_13 rfl ml_L_128 im_X12_recall sl_X12_recall in_X12 co_X12_recall pd_X12_recall rfl (by omega) (by decide) ⟨by omega, by omega⟩ (Nat.le_of_ble_eq_true rfl) ?_
        rintro _ h3 ⟨rfl, em3, mk3⟩ -
        refine g_icmp_eq (tgt := 1548) (pc' := 1157) dL_law_1154 rfl (by decide) (fun c1154 => ?_) (fun c1154 => ?_)
        ·
          refine g_iincN (k := 6) (pc' := 1551) dL_law_1548 rfl rfl (by decide) rfl ?_
          try simp only [List.set]
          refine g_goto (tgt := 18) dL_law_1551 (by decide) ?_
          exact ih (c + 1) (i + 6) _ h3 _ _ (by omega) (by omega) (in_recall hin (by omega) (xs (i + 1)) (xs (i + 2)) (xs (i + 3))) (hc2.mk mk3) em3 (by omega) (by omega)
        · exact absurd rfl c1154
      rcases Classical.em (sw = nI 27) with rfl | w27
      ·
        refine g_tabIn (off := 1126) (tgt := 1159) dL_law_33 (by decide) (by decide) rfl (by decide) ?_
        refine g_aload_n (pc' := 1160) dL_law_1159 rfl rfl ?_
        refine g_aload_n (pc' := 1161) dL_law_1160 rfl rfl ?_
        refine g_iload_n (pc' := 1162) dL_law_1161 rfl rfl ?_
        refine g_iconstN (n := 1) (pc' := 1163) dL_law_1162 rfl ?_
        refine g_iaddN (pc' := 1164) dL_law_1163 rfl ?_
        refine g_sld (pc' := 1165) dL_law_1164 rfl hXs (by omega) ?_
        refine g_aload_n (pc' := 1166) dL_law_1165 rfl rfl ?_
        refine g_iload_n (pc' := 1167) dL_law_1166 rfl rfl ?_
        refine g_iconstN (n := 2) (pc' := 1168) dL_law_1167 rfl ?_
        refine g_iaddN (pc' := 1169) dL_law_1168 rfl ?_
        refine g_sld (pc' := 1170) dL_law_1169 rfl hXs (by omega) ?_
        refine g_invV (pc' := 1173) (cx_told hok hc hw (xs ((i + 1))) (xs ((i + 2)))) dL_law_1170 rfl rfl ck_12 rfl ml_L_129 im_X11_told sl_X11_told in_X11 co_X11_told pd_X11_told rfl (by omega) (by decide) ⟨by omega, by omega⟩ (Nat.le_of_ble_eq_true rfl) ?_
        rintro _ h2 ⟨rfl, hc2, em1⟩ -
        have em2 : mo h2 = m := em1.trans em
        refine g_aload_n (pc' := 1174) dL_law_1173 rfl rfl ?_
        refine g_aload_n (pc' := 1175) dL_law_1174 rfl rfl ?_
        refine g_iload_n (pc' := 1176) dL_law_1175 rfl rfl ?_
        refine g_iconstN (n := 1) (pc' := 1177) dL_law_1176 rfl ?_
        refine g_iaddN (pc' := 1178) dL_law_1177 rfl ?_
        refine g_sld (pc' := 1179) dL_law_1178 rfl hXs (by omega) ?_
        refine g_aload_n (pc' := 1180) dL_law_1179 rfl rfl ?_
        refine g_iload_n (pc' := 1181) dL_law_1180 rfl rfl ?_
        refine g_iconstN (n := 2) (pc' := 1182) dL_law_1181 rfl ?_
        refine g_iaddN (pc' := 1183) dL_law_1182 rfl ?_
        refine g_sld (pc' := 1184) dL_law_1183 rfl hXs (by omega) ?_
        have cmq := cm_told (h := h2) hok hc2.s (by rw [em2]; exact hw) (xs (i + 1)) (xs (i + 2))
        rw [em2] at cmq
        refine g_invV (pc' := 1187) (cmq) dL_law_1184 rfl rfl ck_13 rfl ml_L_132 im_X12_told sl_X12_told in_X12 co_X12_told pd_X12_told rfl (by omega) (by decide) ⟨by omega, by omega⟩ (Nat.le_of_ble_eq_true rfl) ?_
        rintro _ h3 ⟨rfl, em3, mk3⟩ -
        refine g_icmp_eq (tgt := 1548) (pc' := 1190) dL_law_1187 rfl (by decide) (fun c1187 => ?_) (fun c1187 => ?_)
        ·
          refine g_iincN (k := 6) (pc' := 1551) dL_law_1548 rfl rfl (by decide) rfl ?_
          try simp only [List.set]
          refine g_goto (tgt := 18) dL_law_1551 (by decide) ?_
          exact ih (c + 1) (i + 6) _ h3 _ _ (by omega) (by omega) (in_told hin (by omega) (xs (i + 1)) (xs (i + 2))) (hc2.mk mk3) em3 (by omega) (by omega)
        · exact absurd rfl c1187
      rcases Classical.em (sw = nI 28) with rfl | w28
      ·
        refine g_tabIn (off := 1159) (tgt := 1192) dL_law_33 (by decide) (by decide) rfl (by decide) ?_
        refine g_aload_n (pc' := 1193) dL_law_1192 rfl rfl ?_
        refine g_aload_n (pc' := 1194) dL_law_1193 rfl rfl ?_
        refine g_iload_n (pc' := 1195) dL_law_1194 rfl rfl ?_
        refine g_iconstN (n := 1) (pc' := 1196) dL_law_1195 rfl ?_
        refine g_iaddN (pc' := 1197) dL_law_1196 rfl ?_
        refine g_sld (pc' := 1198) dL_law_1197 rfl hXs (by omega) ?_
        refine g_aload_n (pc' := 1199) dL_law_1198 rfl rfl ?_
        refine g_iload_n (pc' := 1200) dL_law_1199 rfl rfl ?_
        refine g_iconstN (n := 2) (pc' := 1201) dL_law_1200 rfl ?_
        refine g_iaddN (pc' := 1202) dL_law_1201 rfl ?_
        refine g_sld (pc' := 1203) dL_law_1202 rfl hXs (by omega) ?_
        refine g_invV (pc' := 1206) (cx_recalled hok hc hw hx (xs ((i + 1))) (xs ((i + 2)))) dL_law_1203 rfl rfl ck_12 rfl ml_L_133 im_X11_recalled sl_X11_recalled in_X11 co_X11_recalled pd_X11_recalled rfl (by omega) (by decide) ⟨by omega, by omega⟩ (Nat.le_of_ble_eq_true rfl) ?_
        rintro _ h2 ⟨rfl, hc2, em1⟩ -
        have em2 : mo h2 = m := em1.trans em
        refine g_aload_n (pc' := 1207) dL_law_1206 rfl rfl ?_
        refine g_aload_n (pc' := 1208) dL_law_1207 rfl rfl ?_
        refine g_iload_n (pc' := 1209) dL_law_1208 rfl rfl ?_
        refine g_iconstN (n := 1) (pc' := 1210) dL_law_1209 rfl ?_
        refine g_iaddN (pc' := 1211) dL_law_1210 rfl ?_
        refine g_sld (pc' := 1212) dL_law_1211 rfl hXs (by omega) ?_
        refine g_aload_n (pc' := 1213) dL_law_1212 rfl rfl ?_
        refine g_iload_n (pc' := 1214) dL_law_1213 rfl rfl ?_
        refine g_iconstN (n := 2) (pc' := 1215) dL_law_1214 rfl ?_
        refine g_iaddN (pc' := 1216) dL_law_1215 rfl ?_
        refine g_sld (pc' := 1217) dL_law_1216 rfl hXs (by omega) ?_
        have cmq := cm_recalled (h := h2) hok hc2.s (by rw [em2]; exact hw) (xs (i + 1)) (xs (i + 2))
        rw [em2] at cmq
        refine g_invV (pc' := 1220) (cmq) dL_law_1217 rfl rfl ck_13 rfl ml_L_136 im_X12_recalled sl_X12_recalled in_X12 co_X12_recalled pd_X12_recalled rfl (by omega) (by decide) ⟨by omega, by omega⟩ (Nat.le_of_ble_eq_true rfl) ?_
        rintro _ h3 ⟨rfl, em3, mk3⟩ -
        refine g_icmp_eq (tgt := 1548) (pc' := 1223) dL_law_1220 rfl (by decide) (fun c1220 => ?_) (fun c1220 => ?_)
        ·
          refine g_iincN (k := 6) (pc' := 1551) dL_law_1548 rfl rfl (by decide) rfl ?_
          try simp only [List.set]
          refine g_goto (tgt := 18) dL_law_1551 (by decide) ?_
          exact ih (c + 1) (i + 6) _ h3 _ _ (by omega) (by omega) (in_recalled hin (by omega) (xs (i + 1)) (xs (i + 2))) (hc2.mk mk3) em3 (by omega) (by omega)
        · exact absurd rfl c1220
      rcases Classical.em (sw = nI 29) with rfl | w29
      ·
        refine g_tabIn (off := 1192) (tgt := 1225) dL_law_33 (by decide) (by decide) rfl (by decide) ?_
        refine g_aload_n (pc' := 1226) dL_law_1225 rfl rfl ?_
        refine g_aload_n (pc' := 1227) dL_law_1226 rfl rfl ?_
        refine g_iload_n (pc' := 1228) dL_law_1227 rfl rfl ?_
        refine g_iconstN (n := 1) (pc' := 1229) dL_law_1228 rfl ?_
        refine g_iaddN (pc' := 1230) dL_law_1229 rfl ?_
        refine g_sld (pc' := 1231) dL_law_1230 rfl hXs (by omega) ?_
        refine g_aload_n (pc' := 1232) dL_law_1231 rfl rfl ?_
        refine g_iload_n (pc' := 1233) dL_law_1232 rfl rfl ?_
        refine g_iconstN (n := 2) (pc' := 1234) dL_law_1233 rfl ?_
        refine g_iaddN (pc' := 1235) dL_law_1234 rfl ?_
        refine g_sld (pc' := 1236) dL_law_1235 rfl hXs (by omega) ?_
        refine g_aload_n (pc' := 1237) dL_law_1236 rfl rfl ?_
        refine g_iload_n (pc' := 1238) dL_law_1237 rfl rfl ?_
        refine g_iconstN (n := 3) (pc' := 1239) dL_law_1238 rfl ?_
        refine g_iaddN (pc' := 1240) dL_law_1239 rfl ?_
        refine g_sld (pc' := 1241) dL_law_1240 rfl hXs (by omega) ?_
        refine g_invV (pc' := 1244) (cx_gift hok hc hw (xs ((i + 1))) (xs ((i + 2))) (xs ((i + 3)))) dL_law_1241 rfl rfl ck_12 rfl ml_L_137 im_X11_gift sl_X11_gift in_X11 co_X11_gift pd_X11_gift rfl (by omega) (by decide) ⟨by omega, by omega⟩ (Nat.le_of_ble_eq_true rfl) ?_
        rintro _ h2 ⟨rfl, hc2, em1⟩ -
        have em2 : mo h2 = m := em1.trans em
        refine g_aload_n (pc' := 1245) dL_law_1244 rfl rfl ?_
        refine g_aload_n (pc' := 1246) dL_law_1245 rfl rfl ?_
        refine g_iload_n (pc' := 1247) dL_law_1246 rfl rfl ?_
        refine g_iconstN (n := 1) (pc' := 1248) dL_law_1247 rfl ?_
        refine g_iaddN (pc' := 1249) dL_law_1248 rfl ?_
        refine g_sld (pc' := 1250) dL_law_1249 rfl hXs (by omega) ?_
        refine g_aload_n (pc' := 1251) dL_law_1250 rfl rfl ?_
        refine g_iload_n (pc' := 1252) dL_law_1251 rfl rfl ?_
        refine g_iconstN (n := 2) (pc' := 1253) dL_law_1252 rfl ?_
        refine g_iaddN (pc' := 1254) dL_law_1253 rfl ?_
        refine g_sld (pc' := 1255) dL_law_1254 rfl hXs (by omega) ?_
        refine g_aload_n (pc' := 1256) dL_law_1255 rfl rfl ?_
        refine g_iload_n (pc' := 1257) dL_law_1256 rfl rfl ?_
        refine g_iconstN (n := 3) (pc' := 1258) dL_law_1257 rfl ?_
        refine g_iaddN (pc' := 1259) dL_law_1258 rfl ?_
        refine g_sld (pc' := 1260) dL_law_1259 rfl hXs (by omega) ?_
        have cmq := cm_gift (h := h2) hok hc2.s (by rw [em2]; exact hw) (xs (i + 1)) (xs (i + 2)) (xs (i + 3))
        rw [em2] at cmq
        refine g_invV (pc' := 1263) (cmq) dL_law_1260 rfl rfl ck_13 rfl ml_L_141 im_X12_gift sl_X12_gift in_X12 co_X12_gift pd_X12_gift rfl (by omega) (by decide) ⟨by omega, by omega⟩ (Nat.le_of_ble_eq_true rfl) ?_
        rintro _ h3 ⟨rfl, em3, mk3⟩ -
        refine g_icmp_eq (tgt := 1548) (pc' := 1266) dL_law_1263 rfl (by decide) (fun c1263 => ?_) (fun c1263 => ?_)
        ·
          refine g_iincN (k := 6) (pc' := 1551) dL_law_1548 rfl rfl (by decide) rfl ?_
          try simp only [List.set]
          refine g_goto (tgt := 18) dL_law_1551 (by decide) ?_
          exact ih (c + 1) (i + 6) _ h3 _ _ (by omega) (by omega) (in_gift hin (by omega) (xs (i + 1)) (xs (i + 2)) (xs (i + 3))) (hc2.mk mk3) em3 (by omega) (by omega)
        · exact absurd rfl c1263
      rcases Classical.em (sw = nI 30) with rfl | w30
      ·
        refine g_tabIn (off := 1235) (tgt := 1268) dL_law_33 (by decide) (by decide) rfl (by decide) ?_
        refine g_aload_n (pc' := 1269) dL_law_1268 rfl rfl ?_
        refine g_aload_n (pc' := 1270) dL_law_1269 rfl rfl ?_
        refine g_iload_n (pc' := 1271) dL_law_1270 rfl rfl ?_
        refine g_iconstN (n := 1) (pc' := 1272) dL_law_1271 rfl ?_
        refine g_iaddN (pc' := 1273) dL_law_1272 rfl ?_
        refine g_sld (pc' := 1274) dL_law_1273 rfl hXs (by omega) ?_
        refine g_invV (pc' := 1277) (cx_owes hok hc hw (xs ((i + 1)))) dL_law_1274 rfl rfl ck_12 rfl ml_L_142 im_X11_owes sl_X11_owes in_X11 co_X11_owes pd_X11_owes rfl (by omega) (by decide) ⟨by omega, by omega⟩ (Nat.le_of_ble_eq_true rfl) ?_
        rintro _ h2 ⟨rfl, hc2, em1⟩ -
        have em2 : mo h2 = m := em1.trans em
        refine g_aload_n (pc' := 1278) dL_law_1277 rfl rfl ?_
        refine g_aload_n (pc' := 1279) dL_law_1278 rfl rfl ?_
        refine g_iload_n (pc' := 1280) dL_law_1279 rfl rfl ?_
        refine g_iconstN (n := 1) (pc' := 1281) dL_law_1280 rfl ?_
        refine g_iaddN (pc' := 1282) dL_law_1281 rfl ?_
        refine g_sld (pc' := 1283) dL_law_1282 rfl hXs (by omega) ?_
        have cmq := cm_owes (h := h2) hok hc2.s (by rw [em2]; exact hw) (xs (i + 1))
        rw [em2] at cmq
        refine g_invV (pc' := 1286) (cmq) dL_law_1283 rfl rfl ck_13 rfl ml_L_145 im_X12_owes sl_X12_owes in_X12 co_X12_owes pd_X12_owes rfl (by omega) (by decide) ⟨by omega, by omega⟩ (Nat.le_of_ble_eq_true rfl) ?_
        rintro _ h3 ⟨rfl, em3, mk3⟩ -
        refine g_icmp_eq (tgt := 1548) (pc' := 1289) dL_law_1286 rfl (by decide) (fun c1286 => ?_) (fun c1286 => ?_)
        ·
          refine g_iincN (k := 6) (pc' := 1551) dL_law_1548 rfl rfl (by decide) rfl ?_
          try simp only [List.set]
          refine g_goto (tgt := 18) dL_law_1551 (by decide) ?_
          exact ih (c + 1) (i + 6) _ h3 _ _ (by omega) (by omega) (in_owes hin (by omega) (xs (i + 1))) (hc2.mk mk3) em3 (by omega) (by omega)
        · exact absurd rfl c1286
      rcases Classical.em (sw = nI 31) with rfl | w31
      ·
        refine g_tabIn (off := 1258) (tgt := 1291) dL_law_33 (by decide) (by decide) rfl (by decide) ?_
        refine g_aload_n (pc' := 1292) dL_law_1291 rfl rfl ?_
        refine g_aload_n (pc' := 1293) dL_law_1292 rfl rfl ?_
        refine g_iload_n (pc' := 1294) dL_law_1293 rfl rfl ?_
        refine g_iconstN (n := 1) (pc' := 1295) dL_law_1294 rfl ?_
        refine g_iaddN (pc' := 1296) dL_law_1295 rfl ?_
        refine g_sld (pc' := 1297) dL_law_1296 rfl hXs (by omega) ?_
        refine g_aload_n (pc' := 1298) dL_law_1297 rfl rfl ?_
        refine g_iload_n (pc' := 1299) dL_law_1298 rfl rfl ?_
        refine g_iconstN (n := 2) (pc' := 1300) dL_law_1299 rfl ?_
        refine g_iaddN (pc' := 1301) dL_law_1300 rfl ?_
        refine g_sld (pc' := 1302) dL_law_1301 rfl hXs (by omega) ?_
        refine g_invV (pc' := 1305) (cx_pays hok hc hw (xs ((i + 1))) (xs ((i + 2)))) dL_law_1302 rfl rfl ck_12 rfl ml_L_146 im_X11_pays sl_X11_pays in_X11 co_X11_pays pd_X11_pays rfl (by omega) (by decide) ⟨by omega, by omega⟩ (Nat.le_of_ble_eq_true rfl) ?_
        rintro _ h2 ⟨rfl, hc2, em1⟩ -
        have em2 : mo h2 = m := em1.trans em
        refine g_aload_n (pc' := 1306) dL_law_1305 rfl rfl ?_
        refine g_aload_n (pc' := 1307) dL_law_1306 rfl rfl ?_
        refine g_iload_n (pc' := 1308) dL_law_1307 rfl rfl ?_
        refine g_iconstN (n := 1) (pc' := 1309) dL_law_1308 rfl ?_
        refine g_iaddN (pc' := 1310) dL_law_1309 rfl ?_
        refine g_sld (pc' := 1311) dL_law_1310 rfl hXs (by omega) ?_
        refine g_aload_n (pc' := 1312) dL_law_1311 rfl rfl ?_
        refine g_iload_n (pc' := 1313) dL_law_1312 rfl rfl ?_
        refine g_iconstN (n := 2) (pc' := 1314) dL_law_1313 rfl ?_
        refine g_iaddN (pc' := 1315) dL_law_1314 rfl ?_
        refine g_sld (pc' := 1316) dL_law_1315 rfl hXs (by omega) ?_
        have cmq := cm_pays (h := h2) hok hc2.s (by rw [em2]; exact hw) (xs (i + 1)) (xs (i + 2))
        rw [em2] at cmq
        refine g_invV (pc' := 1319) (cmq) dL_law_1316 rfl rfl ck_13 rfl ml_L_149 im_X12_pays sl_X12_pays in_X12 co_X12_pays pd_X12_pays rfl (by omega) (by decide) ⟨by omega, by omega⟩ (Nat.le_of_ble_eq_true rfl) ?_
        rintro _ h3 ⟨rfl, em3, mk3⟩ -
        refine g_icmp_eq (tgt := 1548) (pc' := 1322) dL_law_1319 rfl (by decide) (fun c1319 => ?_) (fun c1319 => ?_)
        ·
          refine g_iincN (k := 6) (pc' := 1551) dL_law_1548 rfl rfl (by decide) rfl ?_
          try simp only [List.set]
          refine g_goto (tgt := 18) dL_law_1551 (by decide) ?_
          exact ih (c + 1) (i + 6) _ h3 _ _ (by omega) (by omega) (in_pays hin (by omega) (xs (i + 1)) (xs (i + 2))) (hc2.mk mk3) em3 (by omega) (by omega)
        · exact absurd rfl c1319
      rcases Classical.em (sw = nI 32) with rfl | w32
      ·
        refine g_tabIn (off := 1291) (tgt := 1324) dL_law_33 (by decide) (by decide) rfl (by decide) ?_
        refine g_aload_n (pc' := 1325) dL_law_1324 rfl rfl ?_
        refine g_aload_n (pc' := 1326) dL_law_1325 rfl rfl ?_
        refine g_iload_n (pc' := 1327) dL_law_1326 rfl rfl ?_
        refine g_iconstN (n := 1) (pc' := 1328) dL_law_1327 rfl ?_
        refine g_iaddN (pc' := 1329) dL_law_1328 rfl ?_
        refine g_sld (pc' := 1330) dL_law_1329 rfl hXs (by omega) ?_
        refine g_invV (pc' := 1333) (cx_forgiving hok hc hw (xs ((i + 1)))) dL_law_1330 rfl rfl ck_12 rfl ml_L_150 im_X11_forgiving sl_X11_forgiving in_X11 co_X11_forgiving pd_X11_forgiving rfl (by omega) (by decide) ⟨by omega, by omega⟩ (Nat.le_of_ble_eq_true rfl) ?_
        rintro _ h2 ⟨rfl, hc2, em1⟩ -
        have em2 : mo h2 = m := em1.trans em
        refine g_aload_n (pc' := 1334) dL_law_1333 rfl rfl ?_
        refine g_aload_n (pc' := 1335) dL_law_1334 rfl rfl ?_
        refine g_iload_n (pc' := 1336) dL_law_1335 rfl rfl ?_
        refine g_iconstN (n := 1) (pc' := 1337) dL_law_1336 rfl ?_
        refine g_iaddN (pc' := 1338) dL_law_1337 rfl ?_
        refine g_sld (pc' := 1339) dL_law_1338 rfl hXs (by omega) ?_
        have cmq := cm_forgiving (h := h2) hok hc2.s (by rw [em2]; exact hw) (xs (i + 1))
        rw [em2] at cmq
        refine g_invV (pc' := 1342) (cmq) dL_law_1339 rfl rfl ck_13 rfl ml_L_153 im_X12_forgiving sl_X12_forgiving in_X12 co_X12_forgiving pd_X12_forgiving rfl (by omega) (by decide) ⟨by omega, by omega⟩ (Nat.le_of_ble_eq_true rfl) ?_
        rintro _ h3 ⟨rfl, em3, mk3⟩ -
        refine g_icmp_eq (tgt := 1548) (pc' := 1345) dL_law_1342 rfl (by decide) (fun c1342 => ?_) (fun c1342 => ?_)
        ·
          refine g_iincN (k := 6) (pc' := 1551) dL_law_1548 rfl rfl (by decide) rfl ?_
          try simp only [List.set]
          refine g_goto (tgt := 18) dL_law_1551 (by decide) ?_
          exact ih (c + 1) (i + 6) _ h3 _ _ (by omega) (by omega) (in_forgiving hin (by omega) (xs (i + 1))) (hc2.mk mk3) em3 (by omega) (by omega)
        · exact absurd rfl c1342
      rcases Classical.em (sw = nI 33) with rfl | w33
      ·
        refine g_tabIn (off := 1314) (tgt := 1347) dL_law_33 (by decide) (by decide) rfl (by decide) ?_
        refine g_aload_n (pc' := 1348) dL_law_1347 rfl rfl ?_
        refine g_aload_n (pc' := 1349) dL_law_1348 rfl rfl ?_
        refine g_iload_n (pc' := 1350) dL_law_1349 rfl rfl ?_
        refine g_iconstN (n := 1) (pc' := 1351) dL_law_1350 rfl ?_
        refine g_iaddN (pc' := 1352) dL_law_1351 rfl ?_
        refine g_sld (pc' := 1353) dL_law_1352 rfl hXs (by omega) ?_
        refine g_invV (pc' := 1356) (cx_peak hok hc hw (xs ((i + 1))) hn) dL_law_1353 rfl rfl ck_12 rfl ml_L_154 im_X11_peak sl_X11_peak in_X11 co_X11_peak pd_X11_peak rfl (by omega) (by decide) ⟨by omega, by omega⟩ (Nat.le_of_ble_eq_true rfl) ?_
        rintro _ h2 ⟨rfl, hc2, em1⟩ -
        have em2 : mo h2 = m := em1.trans em
        refine g_aload_n (pc' := 1357) dL_law_1356 rfl rfl ?_
        refine g_aload_n (pc' := 1358) dL_law_1357 rfl rfl ?_
        refine g_iload_n (pc' := 1359) dL_law_1358 rfl rfl ?_
        refine g_iconstN (n := 1) (pc' := 1360) dL_law_1359 rfl ?_
        refine g_iaddN (pc' := 1361) dL_law_1360 rfl ?_
        refine g_sld (pc' := 1362) dL_law_1361 rfl hXs (by omega) ?_
        have cmq := cm_peak (h := h2) hok hc2.s (by rw [em2]; exact hw) (xs (i + 1))
        rw [em2] at cmq
        refine g_invV (pc' := 1365) (cmq) dL_law_1362 rfl rfl ck_13 rfl ml_L_157 im_X12_peak sl_X12_peak in_X12 co_X12_peak pd_X12_peak rfl (by omega) (by decide) ⟨by omega, by omega⟩ (Nat.le_of_ble_eq_true rfl) ?_
        rintro _ h3 ⟨rfl, em3, mk3⟩ -
        refine g_icmp_eq (tgt := 1548) (pc' := 1368) dL_law_1365 rfl (by decide) (fun c1365 => ?_) (fun c1365 => ?_)
        ·
          refine g_iincN (k := 6) (pc' := 1551) dL_law_1548 rfl rfl (by decide) rfl ?_
          try simp only [List.set]
          refine g_goto (tgt := 18) dL_law_1551 (by decide) ?_
          exact ih (c + 1) (i + 6) _ h3 _ _ (by omega) (by omega) (in_peak hin (by omega) (xs (i + 1))) (hc2.mk mk3) em3 (by omega) (by omega)
        · exact absurd rfl c1365
      rcases Classical.em (sw = nI 34) with rfl | w34
      ·
        refine g_tabIn (off := 1337) (tgt := 1370) dL_law_33 (by decide) (by decide) rfl (by decide) ?_
        refine g_aload_n (pc' := 1371) dL_law_1370 rfl rfl ?_
        refine g_aload_n (pc' := 1372) dL_law_1371 rfl rfl ?_
        refine g_iload_n (pc' := 1373) dL_law_1372 rfl rfl ?_
        refine g_iconstN (n := 1) (pc' := 1374) dL_law_1373 rfl ?_
        refine g_iaddN (pc' := 1375) dL_law_1374 rfl ?_
        refine g_sld (pc' := 1376) dL_law_1375 rfl hXs (by omega) ?_
        refine g_invV (pc' := 1379) (cx_unwanted hok hc hw hx (xs ((i + 1)))) dL_law_1376 rfl rfl ck_12 rfl ml_L_158 im_X11_unwanted sl_X11_unwanted in_X11 co_X11_unwanted pd_X11_unwanted rfl (by omega) (by decide) ⟨by omega, by omega⟩ (Nat.le_of_ble_eq_true rfl) ?_
        rintro _ h2 ⟨rfl, hc2, em1⟩ -
        have em2 : mo h2 = m := em1.trans em
        refine g_aload_n (pc' := 1380) dL_law_1379 rfl rfl ?_
        refine g_aload_n (pc' := 1381) dL_law_1380 rfl rfl ?_
        refine g_iload_n (pc' := 1382) dL_law_1381 rfl rfl ?_
        refine g_iconstN (n := 1) (pc' := 1383) dL_law_1382 rfl ?_
        refine g_iaddN (pc' := 1384) dL_law_1383 rfl ?_
        refine g_sld (pc' := 1385) dL_law_1384 rfl hXs (by omega) ?_
        have cmq := cm_unwanted (h := h2) hok hc2.s (by rw [em2]; exact hw) (xs (i + 1))
        rw [em2] at cmq
        refine g_invV (pc' := 1388) (cmq) dL_law_1385 rfl rfl ck_13 rfl ml_L_161 im_X12_unwanted sl_X12_unwanted in_X12 co_X12_unwanted pd_X12_unwanted rfl (by omega) (by decide) ⟨by omega, by omega⟩ (Nat.le_of_ble_eq_true rfl) ?_
        rintro _ h3 ⟨rfl, em3, mk3⟩ -
        refine g_icmp_eq (tgt := 1548) (pc' := 1391) dL_law_1388 rfl (by decide) (fun c1388 => ?_) (fun c1388 => ?_)
        ·
          refine g_iincN (k := 6) (pc' := 1551) dL_law_1548 rfl rfl (by decide) rfl ?_
          try simp only [List.set]
          refine g_goto (tgt := 18) dL_law_1551 (by decide) ?_
          exact ih (c + 1) (i + 6) _ h3 _ _ (by omega) (by omega) (in_unwanted hin (by omega) (xs (i + 1))) (hc2.mk mk3) em3 (by omega) (by omega)
        · exact absurd rfl c1388
      rcases Classical.em (sw = nI 35) with rfl | w35
      ·
        refine g_tabIn (off := 1360) (tgt := 1393) dL_law_33 (by decide) (by decide) rfl (by decide) ?_
        refine g_aload_n (pc' := 1394) dL_law_1393 rfl rfl ?_
        refine g_aload_n (pc' := 1395) dL_law_1394 rfl rfl ?_
        refine g_iload_n (pc' := 1396) dL_law_1395 rfl rfl ?_
        refine g_iconstN (n := 1) (pc' := 1397) dL_law_1396 rfl ?_
        refine g_iaddN (pc' := 1398) dL_law_1397 rfl ?_
        refine g_sld (pc' := 1399) dL_law_1398 rfl hXs (by omega) ?_
        refine g_aload_n (pc' := 1400) dL_law_1399 rfl rfl ?_
        refine g_iload_n (pc' := 1401) dL_law_1400 rfl rfl ?_
        refine g_iconstN (n := 2) (pc' := 1402) dL_law_1401 rfl ?_
        refine g_iaddN (pc' := 1403) dL_law_1402 rfl ?_
        refine g_sld (pc' := 1404) dL_law_1403 rfl hXs (by omega) ?_
        refine g_invV (pc' := 1407) (cx_why hok hc hw hx (xs ((i + 1))) (xs ((i + 2)))) dL_law_1404 rfl rfl ck_12 rfl ml_L_162 im_X11_why sl_X11_why in_X11 co_X11_why pd_X11_why rfl (by omega) (by decide) ⟨by omega, by omega⟩ (Nat.le_of_ble_eq_true rfl) ?_
        rintro _ h2 ⟨rfl, hc2, em1⟩ -
        have em2 : mo h2 = m := em1.trans em
        refine g_aload_n (pc' := 1408) dL_law_1407 rfl rfl ?_
        refine g_aload_n (pc' := 1409) dL_law_1408 rfl rfl ?_
        refine g_iload_n (pc' := 1410) dL_law_1409 rfl rfl ?_
        refine g_iconstN (n := 1) (pc' := 1411) dL_law_1410 rfl ?_
        refine g_iaddN (pc' := 1412) dL_law_1411 rfl ?_
        refine g_sld (pc' := 1413) dL_law_1412 rfl hXs (by omega) ?_
        refine g_aload_n (pc' := 1414) dL_law_1413 rfl rfl ?_
        refine g_iload_n (pc' := 1415) dL_law_1414 rfl rfl ?_
        refine g_iconstN (n := 2) (pc' := 1416) dL_law_1415 rfl ?_
        refine g_iaddN (pc' := 1417) dL_law_1416 rfl ?_
        refine g_sld (pc' := 1418) dL_law_1417 rfl hXs (by omega) ?_
        have cmq := cm_why (h := h2) hok hc2.s (by rw [em2]; exact hw) (xs (i + 1)) (xs (i + 2))
        rw [em2] at cmq
        refine g_invV (pc' := 1421) (cmq) dL_law_1418 rfl rfl ck_13 rfl ml_L_165 im_X12_why sl_X12_why in_X12 co_X12_why pd_X12_why rfl (by omega) (by decide) ⟨by omega, by omega⟩ (Nat.le_of_ble_eq_true rfl) ?_
        rintro _ h3 ⟨rfl, em3, mk3⟩ -
        refine g_icmp_eq (tgt := 1548) (pc' := 1424) dL_law_1421 rfl (by decide) (fun c1421 => ?_) (fun c1421 => ?_)
        ·
          refine g_iincN (k := 6) (pc' := 1551) dL_law_1548 rfl rfl (by decide) rfl ?_
          try simp only [List.set]
          refine g_goto (tgt := 18) dL_law_1551 (by decide) ?_
          exact ih (c + 1) (i + 6) _ h3 _ _ (by omega) (by omega) (in_why hin (by omega) (xs (i + 1)) (xs (i + 2))) (hc2.mk mk3) em3 (by omega) (by omega)
        · exact absurd rfl c1421
      rcases Classical.em (sw = nI 36) with rfl | w36
      ·
        refine g_tabIn (off := 1393) (tgt := 1426) dL_law_33 (by decide) (by decide) rfl (by decide) ?_
        refine g_aload_n (pc' := 1427) dL_law_1426 rfl rfl ?_
        refine g_aload_n (pc' := 1428) dL_law_1427 rfl rfl ?_
        refine g_iload_n (pc' := 1429) dL_law_1428 rfl rfl ?_
        refine g_iconstN (n := 1) (pc' := 1430) dL_law_1429 rfl ?_
        refine g_iaddN (pc' := 1431) dL_law_1430 rfl ?_
        refine g_sld (pc' := 1432) dL_law_1431 rfl hXs (by omega) ?_
        refine g_invV (pc' := 1435) (cx_cull hok hc hw (xs ((i + 1)))) dL_law_1432 rfl rfl ck_12 rfl ml_L_166 im_X11_cull sl_X11_cull in_X11 co_X11_cull pd_X11_cull rfl (by omega) (by decide) ⟨by omega, by omega⟩ (Nat.le_of_ble_eq_true rfl) ?_
        rintro _ h2 ⟨rfl, hc2, em1⟩ -
        have em2 : mo h2 = m := em1.trans em
        refine g_aload_n (pc' := 1436) dL_law_1435 rfl rfl ?_
        refine g_aload_n (pc' := 1437) dL_law_1436 rfl rfl ?_
        refine g_iload_n (pc' := 1438) dL_law_1437 rfl rfl ?_
        refine g_iconstN (n := 1) (pc' := 1439) dL_law_1438 rfl ?_
        refine g_iaddN (pc' := 1440) dL_law_1439 rfl ?_
        refine g_sld (pc' := 1441) dL_law_1440 rfl hXs (by omega) ?_
        have cmq := cm_cull (h := h2) hok hc2.s (by rw [em2]; exact hw) (xs (i + 1))
        rw [em2] at cmq
        refine g_invV (pc' := 1444) (cmq) dL_law_1441 rfl rfl ck_13 rfl ml_L_169 im_X12_cull sl_X12_cull in_X12 co_X12_cull pd_X12_cull rfl (by omega) (by decide) ⟨by omega, by omega⟩ (Nat.le_of_ble_eq_true rfl) ?_
        rintro _ h3 ⟨rfl, em3, mk3⟩ -
        refine g_icmp_eq (tgt := 1548) (pc' := 1447) dL_law_1444 rfl (by decide) (fun c1444 => ?_) (fun c1444 => ?_)
        ·
          refine g_iincN (k := 6) (pc' := 1551) dL_law_1548 rfl rfl (by decide) rfl ?_
          try simp only [List.set]
          refine g_goto (tgt := 18) dL_law_1551 (by decide) ?_
          exact ih (c + 1) (i + 6) _ h3 _ _ (by omega) (by omega) (in_cull hin (by omega) (xs (i + 1))) (hc2.mk mk3) em3 (by omega) (by omega)
        · exact absurd rfl c1444
      rcases Classical.em (sw = nI 37) with rfl | w37
      ·
        refine g_tabIn (off := 1416) (tgt := 1449) dL_law_33 (by decide) (by decide) rfl (by decide) ?_
        refine g_aload_n (pc' := 1450) dL_law_1449 rfl rfl ?_
        refine g_aload_n (pc' := 1451) dL_law_1450 rfl rfl ?_
        refine g_iload_n (pc' := 1452) dL_law_1451 rfl rfl ?_
        refine g_iconstN (n := 1) (pc' := 1453) dL_law_1452 rfl ?_
        refine g_iaddN (pc' := 1454) dL_law_1453 rfl ?_
        refine g_sld (pc' := 1455) dL_law_1454 rfl hXs (by omega) ?_
        refine g_aload_n (pc' := 1456) dL_law_1455 rfl rfl ?_
        refine g_iload_n (pc' := 1457) dL_law_1456 rfl rfl ?_
        refine g_iconstN (n := 2) (pc' := 1458) dL_law_1457 rfl ?_
        refine g_iaddN (pc' := 1459) dL_law_1458 rfl ?_
        refine g_sld (pc' := 1460) dL_law_1459 rfl hXs (by omega) ?_
        refine g_aload_n (pc' := 1461) dL_law_1460 rfl rfl ?_
        refine g_iload_n (pc' := 1462) dL_law_1461 rfl rfl ?_
        refine g_iconstN (n := 3) (pc' := 1463) dL_law_1462 rfl ?_
        refine g_iaddN (pc' := 1464) dL_law_1463 rfl ?_
        refine g_sld (pc' := 1465) dL_law_1464 rfl hXs (by omega) ?_
        refine g_invV (pc' := 1468) (cx_where hok hc hw (xs ((i + 1))) (xs ((i + 2))) (xs ((i + 3)))) dL_law_1465 rfl rfl ck_12 rfl ml_L_170 im_X11_where sl_X11_where in_X11 co_X11_where pd_X11_where rfl (by omega) (by decide) ⟨by omega, by omega⟩ (Nat.le_of_ble_eq_true rfl) ?_
        rintro _ h2 ⟨rfl, hc2, em1⟩ -
        have em2 : mo h2 = m := em1.trans em
        refine g_aload_n (pc' := 1469) dL_law_1468 rfl rfl ?_
        refine g_aload_n (pc' := 1470) dL_law_1469 rfl rfl ?_
        refine g_iload_n (pc' := 1471) dL_law_1470 rfl rfl ?_
        refine g_iconstN (n := 1) (pc' := 1472) dL_law_1471 rfl ?_
        refine g_iaddN (pc' := 1473) dL_law_1472 rfl ?_
        refine g_sld (pc' := 1474) dL_law_1473 rfl hXs (by omega) ?_
        refine g_aload_n (pc' := 1475) dL_law_1474 rfl rfl ?_
        refine g_iload_n (pc' := 1476) dL_law_1475 rfl rfl ?_
        refine g_iconstN (n := 2) (pc' := 1477) dL_law_1476 rfl ?_
        refine g_iaddN (pc' := 1478) dL_law_1477 rfl ?_
        refine g_sld (pc' := 1479) dL_law_1478 rfl hXs (by omega) ?_
        refine g_aload_n (pc' := 1480) dL_law_1479 rfl rfl ?_
        refine g_iload_n (pc' := 1481) dL_law_1480 rfl rfl ?_
        refine g_iconstN (n := 3) (pc' := 1482) dL_law_1481 rfl ?_
        refine g_iaddN (pc' := 1483) dL_law_1482 rfl ?_
        refine g_sld (pc' := 1484) dL_law_1483 rfl hXs (by omega) ?_
        have cmq := cm_where (h := h2) hok hc2.s (by rw [em2]; exact hw) (xs (i + 1)) (xs (i + 2)) (xs (i + 3))
        rw [em2] at cmq
        refine g_invV (pc' := 1487) (cmq) dL_law_1484 rfl rfl ck_13 rfl ml_L_173 im_X12_where sl_X12_where in_X12 co_X12_where pd_X12_where rfl (by omega) (by decide) ⟨by omega, by omega⟩ (Nat.le_of_ble_eq_true rfl) ?_
        rintro _ h3 ⟨rfl, em3, mk3⟩ -
        refine g_icmp_eq (tgt := 1548) (pc' := 1490) dL_law_1487 rfl (by decide) (fun c1487 => ?_) (fun c1487 => ?_)
        ·
          refine g_iincN (k := 6) (pc' := 1551) dL_law_1548 rfl rfl (by decide) rfl ?_
          try simp only [List.set]
          refine g_goto (tgt := 18) dL_law_1551 (by decide) ?_
          exact ih (c + 1) (i + 6) _ h3 _ _ (by omega) (by omega) (in_where hin (by omega) (xs (i + 1)) (xs (i + 2)) (xs (i + 3))) (hc2.mk mk3) em3 (by omega) (by omega)
        · exact absurd rfl c1487
      rcases Classical.em (sw = nI 38) with rfl | w38
      ·
        refine g_tabIn (off := 1459) (tgt := 1492) dL_law_33 (by decide) (by decide) rfl (by decide) ?_
        refine g_aload_n (pc' := 1493) dL_law_1492 rfl rfl ?_
        refine g_aload_n (pc' := 1494) dL_law_1493 rfl rfl ?_
        refine g_iload_n (pc' := 1495) dL_law_1494 rfl rfl ?_
        refine g_iconstN (n := 1) (pc' := 1496) dL_law_1495 rfl ?_
        refine g_iaddN (pc' := 1497) dL_law_1496 rfl ?_
        refine g_sld (pc' := 1498) dL_law_1497 rfl hXs (by omega) ?_
        refine g_aload_n (pc' := 1499) dL_law_1498 rfl rfl ?_
        refine g_iload_n (pc' := 1500) dL_law_1499 rfl rfl ?_
        refine g_iconstN (n := 2) (pc' := 1501) dL_law_1500 rfl ?_
        refine g_iaddN (pc' := 1502) dL_law_1501 rfl ?_
        refine g_sld (pc' := 1503) dL_law_1502 rfl hXs (by omega) ?_
        refine g_invV (pc' := 1506) (cx_check hok hc hw hx (xs ((i + 1))) (xs ((i + 2)))) dL_law_1503 rfl rfl ck_12 rfl ml_L_174 im_X11_check sl_X11_check in_X11 co_X11_check pd_X11_check rfl (by omega) (by decide) ⟨by omega, by omega⟩ (Nat.le_of_ble_eq_true rfl) ?_
        rintro _ h2 ⟨rfl, hc2, em1⟩ -
        have em2 : mo h2 = m := em1.trans em
        refine g_aload_n (pc' := 1507) dL_law_1506 rfl rfl ?_
        refine g_aload_n (pc' := 1508) dL_law_1507 rfl rfl ?_
        refine g_iload_n (pc' := 1509) dL_law_1508 rfl rfl ?_
        refine g_iconstN (n := 1) (pc' := 1510) dL_law_1509 rfl ?_
        refine g_iaddN (pc' := 1511) dL_law_1510 rfl ?_
        refine g_sld (pc' := 1512) dL_law_1511 rfl hXs (by omega) ?_
        refine g_aload_n (pc' := 1513) dL_law_1512 rfl rfl ?_
        refine g_iload_n (pc' := 1514) dL_law_1513 rfl rfl ?_
        refine g_iconstN (n := 2) (pc' := 1515) dL_law_1514 rfl ?_
        refine g_iaddN (pc' := 1516) dL_law_1515 rfl ?_
        refine g_sld (pc' := 1517) dL_law_1516 rfl hXs (by omega) ?_
        have cmq := cm_check (h := h2) hok hc2.s (by rw [em2]; exact hw) (xs (i + 1)) (xs (i + 2))
        rw [em2] at cmq
        refine g_invV (pc' := 1520) (cmq) dL_law_1517 rfl rfl ck_13 rfl ml_L_177 im_X12_check sl_X12_check in_X12 co_X12_check pd_X12_check rfl (by omega) (by decide) ⟨by omega, by omega⟩ (Nat.le_of_ble_eq_true rfl) ?_
        rintro _ h3 ⟨rfl, em3, mk3⟩ -
        refine g_icmp_eq (tgt := 1548) (pc' := 1523) dL_law_1520 rfl (by decide) (fun c1520 => ?_) (fun c1520 => ?_)
        ·
          refine g_iincN (k := 6) (pc' := 1551) dL_law_1548 rfl rfl (by decide) rfl ?_
          try simp only [List.set]
          refine g_goto (tgt := 18) dL_law_1551 (by decide) ?_
          exact ih (c + 1) (i + 6) _ h3 _ _ (by omega) (by omega) (in_check hin (by omega) (xs (i + 1)) (xs (i + 2))) (hc2.mk mk3) em3 (by omega) (by omega)
        · exact absurd rfl c1520
      rcases Classical.em (sw = nI 39) with rfl | w39
      ·
        refine g_tabIn (off := 1492) (tgt := 1525) dL_law_33 (by decide) (by decide) rfl (by decide) ?_
        refine g_aload_n (pc' := 1526) dL_law_1525 rfl rfl ?_
        refine g_aload_n (pc' := 1527) dL_law_1526 rfl rfl ?_
        refine g_iload_n (pc' := 1528) dL_law_1527 rfl rfl ?_
        refine g_iconstN (n := 1) (pc' := 1529) dL_law_1528 rfl ?_
        refine g_iaddN (pc' := 1530) dL_law_1529 rfl ?_
        refine g_sld (pc' := 1531) dL_law_1530 rfl hXs (by omega) ?_
        refine g_invV (pc' := 1534) (cx_count hok hc hw hx (xs ((i + 1)))) dL_law_1531 rfl rfl ck_12 rfl ml_L_178 im_X11_count sl_X11_count in_X11 co_X11_count pd_X11_count rfl (by omega) (by decide) ⟨by omega, by omega⟩ (Nat.le_of_ble_eq_true rfl) ?_
        rintro _ _ ⟨rfl, rfl⟩ -
        refine g_aload_n (pc' := 1535) dL_law_1534 rfl rfl ?_
        refine g_aload_n (pc' := 1536) dL_law_1535 rfl rfl ?_
        refine g_iload_n (pc' := 1537) dL_law_1536 rfl rfl ?_
        refine g_iconstN (n := 1) (pc' := 1538) dL_law_1537 rfl ?_
        refine g_iaddN (pc' := 1539) dL_law_1538 rfl ?_
        refine g_sld (pc' := 1540) dL_law_1539 rfl hXs (by omega) ?_
        have cmq := cm_count (h := h1) hok hc.s (by rw [em]; exact hw) (xs (i + 1))
        rw [em] at cmq
        refine g_invV (pc' := 1543) (cmq) dL_law_1540 rfl rfl ck_13 rfl ml_L_181 im_X12_count sl_X12_count in_X12 co_X12_count pd_X12_count rfl (by omega) (by decide) ⟨by omega, by omega⟩ (Nat.le_of_ble_eq_true rfl) ?_
        rintro _ _ ⟨rfl, rfl⟩ -
        refine g_icmp_eq (tgt := 1548) (pc' := 1546) dL_law_1543 rfl (by decide) (fun c1543 => ?_) (fun c1543 => ?_)
        ·
          refine g_iincN (k := 6) (pc' := 1551) dL_law_1548 rfl rfl (by decide) rfl ?_
          try simp only [List.set]
          refine g_goto (tgt := 18) dL_law_1551 (by decide) ?_
          exact ih (c + 1) (i + 6) m h1 _ _ (by omega) (by omega) hin.up hc em (by omega) (by omega)
        · exact absurd rfl c1543
      refine g_tabOut (tgt := 1548) dL_law_33 (tab_out 39 (fun i hi => by rcases (show i = 0 ∨ i = 1 ∨ i = 2 ∨ i = 3 ∨ i = 4 ∨ i = 5 ∨ i = 6 ∨ i = 7 ∨ i = 8 ∨ i = 9 ∨ i = 10 ∨ i = 11 ∨ i = 12 ∨ i = 13 ∨ i = 14 ∨ i = 15 ∨ i = 16 ∨ i = 17 ∨ i = 18 ∨ i = 19 ∨ i = 20 ∨ i = 21 ∨ i = 22 ∨ i = 23 ∨ i = 24 ∨ i = 25 ∨ i = 26 ∨ i = 27 ∨ i = 28 ∨ i = 29 ∨ i = 30 ∨ i = 31 ∨ i = 32 ∨ i = 33 ∨ i = 34 ∨ i = 35 ∨ i = 36 ∨ i = 37 ∨ i = 38 ∨ i = 39 by omega) with rfl | rfl | rfl | rfl | rfl | rfl | rfl | rfl | rfl | rfl | rfl | rfl | rfl | rfl | rfl | rfl | rfl | rfl | rfl | rfl | rfl | rfl | rfl | rfl | rfl | rfl | rfl | rfl | rfl | rfl | rfl | rfl | rfl | rfl | rfl | rfl | rfl | rfl | rfl | rfl <;> assumption)) (by decide) ?_
      refine g_iincN (k := 6) (pc' := 1551) dL_law_1548 rfl rfl (by decide) rfl ?_
      try simp only [List.set]
      refine g_goto (tgt := 18) dL_law_1551 (by decide) ?_
      exact ih (c + 1) (i + 6) m h1 _ _ (by omega) (by omega) hin.up hc em (by omega) (by omega)
