/-! The law's cases. -/
section LC
variable {p : Program} {l : Launch} {e : Env} {s : State} {m : MethodId} {b : Nat} {below : List Frame} {meth : Method} {c : Code} {D : va_G} {T : Nat → ClassId} {A : Nat → Prop} {cells slots : Nat} {Q : State → Prop} {adC adM : Nat → Nat} {aL aD : Nat} {σ : ZS} {f : Nat → Int64} {g : Nat → UInt64} {xs : Nat → Int32} {L i : Nat}
set_option maxHeartbeats 4000000 in
theorem lcase_0 (X : zC p s m #[Value.ref b] meth c cL_law 9 (wsLR ++ lwH) RL D (zT T) A) (hfl : l.stackTraces = false) (hX : va_X b L xs s s.heap) (hbl : b < s.heap.size) (hbA : ¬ A b) (hL : L ≤ 2048) (hi : i + 4 ≤ L) (hV : zV σ) (hc : cells + 4 ≤ 603072) (hs : slots + 24 ≤ 7215210) (k : ∀ (t : ZS) (f' : Nat → Int64) (g' : Nat → UInt64), zV t → zG p l e room_1 s m #[Value.ref b] below meth c D 9 A (cells + 4) (slots + 24) Q (wL adC adM aL aD T t t f' g') 3268 (lw0 b adC adM aL aD i) []) : zG p l e room_1 s m #[Value.ref b] below meth c D 9 A cells slots Q (wL adC adM aL aD T σ σ f g) 272 (lw0 b adC adM aL aD i) [] := by
  refine zg_aload_n X dL_law_272 rfl ?_
  refine zg_aload_n X dL_law_273 rfl ?_
  refine zg_iload X dL_law_274 rfl ?_
  refine zg_iconst X (v := nI 1) dL_law_276 (by decide) ?_
  refine zg_iadd X dL_law_277 ?_
  refine zg_top (lw_add i 1) ?_
  refine zg_sld X hX hbl hbA (i := i + 1) (by omega) (by omega) dL_law_278 ?_
  refine zg_aload_n X dL_law_279 rfl ?_
  refine zg_iload X dL_law_280 rfl ?_
  refine zg_iconst X (v := nI 2) dL_law_282 (by decide) ?_
  refine zg_iadd X dL_law_283 ?_
  refine zg_top (lw_add i 2) ?_
  refine zg_sld X hX hbl hbA (i := i + 2) (by omega) (by omega) dL_law_284 ?_
  refine zg_aload_n X dL_law_285 rfl ?_
  refine zg_lawS X (k_L_addPerson l hfl D adC T σ hV (xs (i + 1)) (xs (i + 2)) aL f) (lh_S gL_law_L_addPerson) rfl rfl rfl qd_L_addPerson rfl ⟨Nat.le_of_ble_eq_true rfl, Nat.le_of_ble_eq_true rfl⟩ rfl (Nat.le_of_ble_eq_true rfl) ⟨by show _ ≤ 603072; omega, by show _ ≤ 7215210; omega⟩ dL_law_286 (fun v u f1 hl => ?_)
  refine zg_istore X dL_law_289 (by decide) ?_
  refine zg_aload_n X dL_law_291 rfl ?_
  refine zg_aload_n X dL_law_292 rfl ?_
  refine zg_iload X dL_law_293 rfl ?_
  refine zg_iconst X (v := nI 1) dL_law_295 (by decide) ?_
  refine zg_iadd X dL_law_296 ?_
  refine zg_top (lw_add i 1) ?_
  refine zg_sld X hX hbl hbA (i := i + 1) (by omega) (by omega) dL_law_297 ?_
  refine zg_aload_n X dL_law_298 rfl ?_
  refine zg_iload X dL_law_299 rfl ?_
  refine zg_iconst X (v := nI 2) dL_law_301 (by decide) ?_
  refine zg_iadd X dL_law_302 ?_
  refine zg_top (lw_add i 2) ?_
  refine zg_sld X hX hbl hbA (i := i + 2) (by omega) (by omega) dL_law_303 ?_
  refine zg_lawMi X (k_X7_addPerson l D adM T σ hV.1.1.1 (xs (i + 1)) (xs (i + 2))) (lh_m gL_law_X7_addPerson) rfl rfl rfl qv_X7_addPerson rfl ⟨Nat.le_of_ble_eq_true rfl, Nat.le_of_ble_eq_true rfl⟩ rfl (Nat.le_of_ble_eq_true rfl) ⟨by show _ ≤ 603072; omega, by show _ ≤ 7215210; omega⟩ dL_law_304 (fun b1 w1 h1 => ?_)
  obtain ⟨t1, hm, rfl⟩ := h1
  refine ⟨t1, rfl, ?_⟩
  obtain ⟨e8, hf0, hC0, hVt⟩ := lw_agree (by decide +kernel) (fun v0 s0 h => zV_addPerson hV h) hV hl hm
  have hCC : wC adC T u = wC adC T t1 := hC0 adC T
  refine zg_istore X dL_law_307 (by decide) ?_
  refine zg_aload_n X dL_law_309 rfl ?_
  refine zg_lawMi X (k_X7_thrown l D adM T t1) (lh_m gL_law_X7_thrown) rfl rfl rfl qv_X7_thrown rfl ⟨Nat.le_of_ble_eq_true rfl, Nat.le_of_ble_eq_true rfl⟩ rfl (Nat.le_of_ble_eq_true rfl) ⟨by show _ ≤ 603072; omega, by show _ ≤ 7215210; omega⟩ dL_law_310 (fun b2 w2 h2 => ?_)
  obtain ⟨rfl, rfl⟩ := h2
  refine ⟨t1, rfl, ?_⟩
  refine zg_iload X dL_law_313 rfl ?_
  refine zg_icmp_eq X dL_law_315 (tgt := 320) (by decide) (fun _ => ?_) (fun c9 => absurd e8 c9)
  refine zg_iload X dL_law_320 rfl ?_
  refine zg_if_ne X dL_law_322 (tgt := 337) (by decide) (fun _ => ?_) (fun cv => ?_)
  · skip
    exact zg_goto X dL_law_337 (tgt := 3268) (by decide) (lw_k ⟨rfl, rfl, rfl, rfl, rfl, rfl, trivial⟩ hCC (by omega) (by omega) (k t1 f1 g hVt))
  · skip
    refine zg_aload_n X dL_law_325 rfl ?_
    refine zg_iconst X (v := 0) dL_law_326 (by decide) ?_
    refine zg_lald X (q0 := 55) (t0 := 3) (n := 1) (f := f1) rfl rfl (vp_in_nI (n := 0) (N := 1) (by decide) (by decide)) dL_law_327 ?_
    refine zg_iload X dL_law_328 rfl ?_
    refine zg_i2l X dL_law_330 ?_
    refine zg_lcmp X dL_law_331 ?_
    refine zg_if_eq X dL_law_332 (tgt := 337) (by decide) (fun _ => ?_) (fun c9 => absurd (lw_cmp (hf0 cv)) c9)
    exact zg_goto X dL_law_337 (tgt := 3268) (by decide) (lw_k ⟨rfl, rfl, rfl, rfl, rfl, rfl, trivial⟩ hCC (by omega) (by omega) (k t1 f1 g hVt))
set_option maxHeartbeats 4000000 in
theorem lcase_1 (X : zC p s m #[Value.ref b] meth c cL_law 9 (wsLR ++ lwH) RL D (zT T) A) (hfl : l.stackTraces = false) (hX : va_X b L xs s s.heap) (hbl : b < s.heap.size) (hbA : ¬ A b) (hL : L ≤ 2048) (hi : i + 4 ≤ L) (hV : zV σ) (hc : cells + 4 ≤ 603072) (hs : slots + 24 ≤ 7215210) (k : ∀ (t : ZS) (f' : Nat → Int64) (g' : Nat → UInt64), zV t → zG p l e room_1 s m #[Value.ref b] below meth c D 9 A (cells + 4) (slots + 24) Q (wL adC adM aL aD T t t f' g') 3268 (lw0 b adC adM aL aD i) []) : zG p l e room_1 s m #[Value.ref b] below meth c D 9 A cells slots Q (wL adC adM aL aD T σ σ f g) 340 (lw0 b adC adM aL aD i) [] := by
  by_cases c0 : xs (i + 2) = 0
  · skip
    refine zg_aload_n X dL_law_340 rfl ?_
    refine zg_aload_n X dL_law_341 rfl ?_
    refine zg_iload X dL_law_342 rfl ?_
    refine zg_iconst X (v := nI 1) dL_law_344 (by decide) ?_
    refine zg_iadd X dL_law_345 ?_
    refine zg_top (lw_add i 1) ?_
    refine zg_sld X hX hbl hbA (i := i + 1) (by omega) (by omega) dL_law_346 ?_
    refine zg_aload_n X dL_law_347 rfl ?_
    refine zg_iload X dL_law_348 rfl ?_
    refine zg_iconst X (v := nI 2) dL_law_350 (by decide) ?_
    refine zg_iadd X dL_law_351 ?_
    refine zg_top (lw_add i 2) ?_
    refine zg_sld X hX hbl hbA (i := i + 2) (by omega) (by omega) dL_law_352 ?_
    refine zg_if_eq X dL_law_353 (tgt := 360) (by decide) (fun _ => ?_) (fun h => absurd c0 h)
    refine zg_iconst X (v := 0) dL_law_360 (by decide) ?_
    refine zg_aload_n X dL_law_361 rfl ?_
    refine zg_lawS X (k_L_setAbsent l hfl D adC T σ hV (xs (i + 1)) 0 (Or.inl rfl) aL f) (lh_S gL_law_L_setAbsent) rfl rfl rfl qd_L_setAbsent rfl ⟨Nat.le_of_ble_eq_true rfl, Nat.le_of_ble_eq_true rfl⟩ rfl (Nat.le_of_ble_eq_true rfl) ⟨by show _ ≤ 603072; omega, by show _ ≤ 7215210; omega⟩ dL_law_362 (fun v u f1 hl => ?_)
    refine zg_istore X dL_law_365 (by decide) ?_
    refine zg_aload_n X dL_law_367 rfl ?_
    refine zg_aload_n X dL_law_368 rfl ?_
    refine zg_iload X dL_law_369 rfl ?_
    refine zg_iconst X (v := nI 1) dL_law_371 (by decide) ?_
    refine zg_iadd X dL_law_372 ?_
    refine zg_top (lw_add i 1) ?_
    refine zg_sld X hX hbl hbA (i := i + 1) (by omega) (by omega) dL_law_373 ?_
    refine zg_aload_n X dL_law_374 rfl ?_
    refine zg_iload X dL_law_375 rfl ?_
    refine zg_iconst X (v := nI 2) dL_law_377 (by decide) ?_
    refine zg_iadd X dL_law_378 ?_
    refine zg_top (lw_add i 2) ?_
    refine zg_sld X hX hbl hbA (i := i + 2) (by omega) (by omega) dL_law_379 ?_
    refine zg_if_eq X dL_law_380 (tgt := 387) (by decide) (fun _ => ?_) (fun h => absurd c0 h)
    refine zg_iconst X (v := 0) dL_law_387 (by decide) ?_
    refine zg_lawMi X (k_X7_setAbsent l D adM T σ hV.1.1.1 (xs (i + 1)) 0 hV.1.2.1 hV.1.2.2.2.1) (lh_m gL_law_X7_setAbsent) rfl rfl rfl qv_X7_setAbsent rfl ⟨Nat.le_of_ble_eq_true rfl, Nat.le_of_ble_eq_true rfl⟩ rfl (Nat.le_of_ble_eq_true rfl) ⟨by show _ ≤ 603072; omega, by show _ ≤ 7215210; omega⟩ dL_law_388 (fun b1 w1 h1 => ?_)
    obtain ⟨t1, hm, rfl⟩ := h1
    refine ⟨t1, rfl, ?_⟩
    obtain ⟨e8, hf0, hC0, hVt⟩ := lw_agree (by decide +kernel) (fun v0 s0 h => zV_setAbsent hV (Or.inl rfl) h) hV hl hm
    have hCC : wC adC T u = wC adC T t1 := hC0 adC T
    refine zg_istore X dL_law_391 (by decide) ?_
    refine zg_aload_n X dL_law_393 rfl ?_
    refine zg_lawMi X (k_X7_thrown l D adM T t1) (lh_m gL_law_X7_thrown) rfl rfl rfl qv_X7_thrown rfl ⟨Nat.le_of_ble_eq_true rfl, Nat.le_of_ble_eq_true rfl⟩ rfl (Nat.le_of_ble_eq_true rfl) ⟨by show _ ≤ 603072; omega, by show _ ≤ 7215210; omega⟩ dL_law_394 (fun b2 w2 h2 => ?_)
    obtain ⟨rfl, rfl⟩ := h2
    refine ⟨t1, rfl, ?_⟩
    refine zg_iload X dL_law_397 rfl ?_
    refine zg_icmp_eq X dL_law_399 (tgt := 404) (by decide) (fun _ => ?_) (fun c9 => absurd e8 c9)
    refine zg_iload X dL_law_404 rfl ?_
    refine zg_if_ne X dL_law_406 (tgt := 428) (by decide) (fun _ => ?_) (fun cv => ?_)
    · skip
      exact zg_goto X dL_law_428 (tgt := 3268) (by decide) (lw_k ⟨rfl, rfl, rfl, rfl, rfl, rfl, trivial⟩ hCC (by omega) (by omega) (k t1 f1 g hVt))
    · skip
      refine zg_aload_n X dL_law_409 rfl ?_
      refine zg_iconst X (v := 0) dL_law_410 (by decide) ?_
      refine zg_lald X (q0 := 55) (t0 := 3) (n := 1) (f := f1) rfl rfl (vp_in_nI (n := 0) (N := 1) (by decide) (by decide)) dL_law_411 ?_
      refine zg_iload X dL_law_412 rfl ?_
      refine zg_if_eq X dL_law_414 (tgt := 421) (by decide) (fun cz => ?_) (fun cz => ?_)
      · skip
        refine zg_lconst X (v := 0) dL_law_421 rfl ?_
        refine zg_lcmp X dL_law_422 ?_
        refine zg_if_eq X dL_law_423 (tgt := 428) (by decide) (fun _ => ?_) (fun c9 => absurd (lw_cmp ((hf0 cv).trans (if_pos cz))) c9)
        exact zg_goto X dL_law_428 (tgt := 3268) (by decide) (lw_k ⟨rfl, rfl, rfl, rfl, rfl, rfl, trivial⟩ hCC (by omega) (by omega) (k t1 f1 g hVt))
      · skip
        refine zg_lconst X (v := 1) dL_law_417 rfl ?_
        refine zg_goto X dL_law_418 (tgt := 422) (by decide) ?_
        refine zg_lcmp X dL_law_422 ?_
        refine zg_if_eq X dL_law_423 (tgt := 428) (by decide) (fun _ => ?_) (fun c9 => absurd (lw_cmp ((hf0 cv).trans (if_neg cz))) c9)
        exact zg_goto X dL_law_428 (tgt := 3268) (by decide) (lw_k ⟨rfl, rfl, rfl, rfl, rfl, rfl, trivial⟩ hCC (by omega) (by omega) (k t1 f1 g hVt))
  · skip
    refine zg_aload_n X dL_law_340 rfl ?_
    refine zg_aload_n X dL_law_341 rfl ?_
    refine zg_iload X dL_law_342 rfl ?_
    refine zg_iconst X (v := nI 1) dL_law_344 (by decide) ?_
    refine zg_iadd X dL_law_345 ?_
    refine zg_top (lw_add i 1) ?_
    refine zg_sld X hX hbl hbA (i := i + 1) (by omega) (by omega) dL_law_346 ?_
    refine zg_aload_n X dL_law_347 rfl ?_
    refine zg_iload X dL_law_348 rfl ?_
    refine zg_iconst X (v := nI 2) dL_law_350 (by decide) ?_
    refine zg_iadd X dL_law_351 ?_
    refine zg_top (lw_add i 2) ?_
    refine zg_sld X hX hbl hbA (i := i + 2) (by omega) (by omega) dL_law_352 ?_
    refine zg_if_eq X dL_law_353 (tgt := 360) (by decide) (fun h => absurd h c0) (fun _ => ?_)
    refine zg_iconst X (v := 1) dL_law_356 (by decide) ?_
    refine zg_goto X dL_law_357 (tgt := 361) (by decide) ?_
    refine zg_aload_n X dL_law_361 rfl ?_
    refine zg_lawS X (k_L_setAbsent l hfl D adC T σ hV (xs (i + 1)) 1 (Or.inr rfl) aL f) (lh_S gL_law_L_setAbsent) rfl rfl rfl qd_L_setAbsent rfl ⟨Nat.le_of_ble_eq_true rfl, Nat.le_of_ble_eq_true rfl⟩ rfl (Nat.le_of_ble_eq_true rfl) ⟨by show _ ≤ 603072; omega, by show _ ≤ 7215210; omega⟩ dL_law_362 (fun v u f1 hl => ?_)
    refine zg_istore X dL_law_365 (by decide) ?_
    refine zg_aload_n X dL_law_367 rfl ?_
    refine zg_aload_n X dL_law_368 rfl ?_
    refine zg_iload X dL_law_369 rfl ?_
    refine zg_iconst X (v := nI 1) dL_law_371 (by decide) ?_
    refine zg_iadd X dL_law_372 ?_
    refine zg_top (lw_add i 1) ?_
    refine zg_sld X hX hbl hbA (i := i + 1) (by omega) (by omega) dL_law_373 ?_
    refine zg_aload_n X dL_law_374 rfl ?_
    refine zg_iload X dL_law_375 rfl ?_
    refine zg_iconst X (v := nI 2) dL_law_377 (by decide) ?_
    refine zg_iadd X dL_law_378 ?_
    refine zg_top (lw_add i 2) ?_
    refine zg_sld X hX hbl hbA (i := i + 2) (by omega) (by omega) dL_law_379 ?_
    refine zg_if_eq X dL_law_380 (tgt := 387) (by decide) (fun h => absurd h c0) (fun _ => ?_)
    refine zg_iconst X (v := 1) dL_law_383 (by decide) ?_
    refine zg_goto X dL_law_384 (tgt := 388) (by decide) ?_
    refine zg_lawMi X (k_X7_setAbsent l D adM T σ hV.1.1.1 (xs (i + 1)) 1 hV.1.2.1 hV.1.2.2.2.1) (lh_m gL_law_X7_setAbsent) rfl rfl rfl qv_X7_setAbsent rfl ⟨Nat.le_of_ble_eq_true rfl, Nat.le_of_ble_eq_true rfl⟩ rfl (Nat.le_of_ble_eq_true rfl) ⟨by show _ ≤ 603072; omega, by show _ ≤ 7215210; omega⟩ dL_law_388 (fun b1 w1 h1 => ?_)
    obtain ⟨t1, hm, rfl⟩ := h1
    refine ⟨t1, rfl, ?_⟩
    obtain ⟨e8, hf0, hC0, hVt⟩ := lw_agree (by decide +kernel) (fun v0 s0 h => zV_setAbsent hV (Or.inr rfl) h) hV hl hm
    have hCC : wC adC T u = wC adC T t1 := hC0 adC T
    refine zg_istore X dL_law_391 (by decide) ?_
    refine zg_aload_n X dL_law_393 rfl ?_
    refine zg_lawMi X (k_X7_thrown l D adM T t1) (lh_m gL_law_X7_thrown) rfl rfl rfl qv_X7_thrown rfl ⟨Nat.le_of_ble_eq_true rfl, Nat.le_of_ble_eq_true rfl⟩ rfl (Nat.le_of_ble_eq_true rfl) ⟨by show _ ≤ 603072; omega, by show _ ≤ 7215210; omega⟩ dL_law_394 (fun b2 w2 h2 => ?_)
    obtain ⟨rfl, rfl⟩ := h2
    refine ⟨t1, rfl, ?_⟩
    refine zg_iload X dL_law_397 rfl ?_
    refine zg_icmp_eq X dL_law_399 (tgt := 404) (by decide) (fun _ => ?_) (fun c9 => absurd e8 c9)
    refine zg_iload X dL_law_404 rfl ?_
    refine zg_if_ne X dL_law_406 (tgt := 428) (by decide) (fun _ => ?_) (fun cv => ?_)
    · skip
      exact zg_goto X dL_law_428 (tgt := 3268) (by decide) (lw_k ⟨rfl, rfl, rfl, rfl, rfl, rfl, trivial⟩ hCC (by omega) (by omega) (k t1 f1 g hVt))
    · skip
      refine zg_aload_n X dL_law_409 rfl ?_
      refine zg_iconst X (v := 0) dL_law_410 (by decide) ?_
      refine zg_lald X (q0 := 55) (t0 := 3) (n := 1) (f := f1) rfl rfl (vp_in_nI (n := 0) (N := 1) (by decide) (by decide)) dL_law_411 ?_
      refine zg_iload X dL_law_412 rfl ?_
      refine zg_if_eq X dL_law_414 (tgt := 421) (by decide) (fun cz => ?_) (fun cz => ?_)
      · skip
        refine zg_lconst X (v := 0) dL_law_421 rfl ?_
        refine zg_lcmp X dL_law_422 ?_
        refine zg_if_eq X dL_law_423 (tgt := 428) (by decide) (fun _ => ?_) (fun c9 => absurd (lw_cmp ((hf0 cv).trans (if_pos cz))) c9)
        exact zg_goto X dL_law_428 (tgt := 3268) (by decide) (lw_k ⟨rfl, rfl, rfl, rfl, rfl, rfl, trivial⟩ hCC (by omega) (by omega) (k t1 f1 g hVt))
      · skip
        refine zg_lconst X (v := 1) dL_law_417 rfl ?_
        refine zg_goto X dL_law_418 (tgt := 422) (by decide) ?_
        refine zg_lcmp X dL_law_422 ?_
        refine zg_if_eq X dL_law_423 (tgt := 428) (by decide) (fun _ => ?_) (fun c9 => absurd (lw_cmp ((hf0 cv).trans (if_neg cz))) c9)
        exact zg_goto X dL_law_428 (tgt := 3268) (by decide) (lw_k ⟨rfl, rfl, rfl, rfl, rfl, rfl, trivial⟩ hCC (by omega) (by omega) (k t1 f1 g hVt))
set_option maxHeartbeats 4000000 in
theorem lcase_2 (X : zC p s m #[Value.ref b] meth c cL_law 9 (wsLR ++ lwH) RL D (zT T) A) (hfl : l.stackTraces = false) (hX : va_X b L xs s s.heap) (hbl : b < s.heap.size) (hbA : ¬ A b) (hL : L ≤ 2048) (hi : i + 4 ≤ L) (hV : zV σ) (hc : cells + 4 ≤ 603072) (hs : slots + 24 ≤ 7215210) (k : ∀ (t : ZS) (f' : Nat → Int64) (g' : Nat → UInt64), zV t → zG p l e room_1 s m #[Value.ref b] below meth c D 9 A (cells + 4) (slots + 24) Q (wL adC adM aL aD T t t f' g') 3268 (lw0 b adC adM aL aD i) []) : zG p l e room_1 s m #[Value.ref b] below meth c D 9 A cells slots Q (wL adC adM aL aD T σ σ f g) 431 (lw0 b adC adM aL aD i) [] := by
  refine zg_aload_n X dL_law_431 rfl ?_
  refine zg_aload_n X dL_law_432 rfl ?_
  refine zg_iload X dL_law_433 rfl ?_
  refine zg_iconst X (v := nI 1) dL_law_435 (by decide) ?_
  refine zg_iadd X dL_law_436 ?_
  refine zg_top (lw_add i 1) ?_
  refine zg_sld X hX hbl hbA (i := i + 1) (by omega) (by omega) dL_law_437 ?_
  refine zg_aload_n X dL_law_438 rfl ?_
  refine zg_iload X dL_law_439 rfl ?_
  refine zg_iconst X (v := nI 2) dL_law_441 (by decide) ?_
  refine zg_iadd X dL_law_442 ?_
  refine zg_top (lw_add i 2) ?_
  refine zg_sld X hX hbl hbA (i := i + 2) (by omega) (by omega) dL_law_443 ?_
  refine zg_aload_n X dL_law_444 rfl ?_
  refine zg_lawS X (k_L_setSubstitute l hfl D adC T σ hV (xs (i + 1)) (xs (i + 2)) aL f) (lh_S gL_law_L_setSubstitute) rfl rfl rfl qd_L_setSubstitute rfl ⟨Nat.le_of_ble_eq_true rfl, Nat.le_of_ble_eq_true rfl⟩ rfl (Nat.le_of_ble_eq_true rfl) ⟨by show _ ≤ 603072; omega, by show _ ≤ 7215210; omega⟩ dL_law_445 (fun v u f1 hl => ?_)
  refine zg_istore X dL_law_448 (by decide) ?_
  refine zg_aload_n X dL_law_450 rfl ?_
  refine zg_aload_n X dL_law_451 rfl ?_
  refine zg_iload X dL_law_452 rfl ?_
  refine zg_iconst X (v := nI 1) dL_law_454 (by decide) ?_
  refine zg_iadd X dL_law_455 ?_
  refine zg_top (lw_add i 1) ?_
  refine zg_sld X hX hbl hbA (i := i + 1) (by omega) (by omega) dL_law_456 ?_
  refine zg_aload_n X dL_law_457 rfl ?_
  refine zg_iload X dL_law_458 rfl ?_
  refine zg_iconst X (v := nI 2) dL_law_460 (by decide) ?_
  refine zg_iadd X dL_law_461 ?_
  refine zg_top (lw_add i 2) ?_
  refine zg_sld X hX hbl hbA (i := i + 2) (by omega) (by omega) dL_law_462 ?_
  refine zg_lawMi X (k_X7_setSubstitute l D adM T σ hV.1.1.1 (xs (i + 1)) (xs (i + 2))) (lh_m gL_law_X7_setSubstitute) rfl rfl rfl qv_X7_setSubstitute rfl ⟨Nat.le_of_ble_eq_true rfl, Nat.le_of_ble_eq_true rfl⟩ rfl (Nat.le_of_ble_eq_true rfl) ⟨by show _ ≤ 603072; omega, by show _ ≤ 7215210; omega⟩ dL_law_463 (fun b1 w1 h1 => ?_)
  obtain ⟨t1, hm, rfl⟩ := h1
  refine ⟨t1, rfl, ?_⟩
  obtain ⟨e8, hf0, hC0, hVt⟩ := lw_agree (by decide +kernel) (fun v0 s0 h => zV_setSubstitute hV h) hV hl hm
  have hCC : wC adC T u = wC adC T t1 := hC0 adC T
  refine zg_istore X dL_law_466 (by decide) ?_
  refine zg_aload_n X dL_law_468 rfl ?_
  refine zg_lawMi X (k_X7_thrown l D adM T t1) (lh_m gL_law_X7_thrown) rfl rfl rfl qv_X7_thrown rfl ⟨Nat.le_of_ble_eq_true rfl, Nat.le_of_ble_eq_true rfl⟩ rfl (Nat.le_of_ble_eq_true rfl) ⟨by show _ ≤ 603072; omega, by show _ ≤ 7215210; omega⟩ dL_law_469 (fun b2 w2 h2 => ?_)
  obtain ⟨rfl, rfl⟩ := h2
  refine ⟨t1, rfl, ?_⟩
  refine zg_iload X dL_law_472 rfl ?_
  refine zg_icmp_eq X dL_law_474 (tgt := 479) (by decide) (fun _ => ?_) (fun c9 => absurd e8 c9)
  refine zg_iload X dL_law_479 rfl ?_
  refine zg_if_ne X dL_law_481 (tgt := 496) (by decide) (fun _ => ?_) (fun cv => ?_)
  · skip
    exact zg_goto X dL_law_496 (tgt := 3268) (by decide) (lw_k ⟨rfl, rfl, rfl, rfl, rfl, rfl, trivial⟩ hCC (by omega) (by omega) (k t1 f1 g hVt))
  · skip
    refine zg_aload_n X dL_law_484 rfl ?_
    refine zg_iconst X (v := 0) dL_law_485 (by decide) ?_
    refine zg_lald X (q0 := 55) (t0 := 3) (n := 1) (f := f1) rfl rfl (vp_in_nI (n := 0) (N := 1) (by decide) (by decide)) dL_law_486 ?_
    refine zg_iload X dL_law_487 rfl ?_
    refine zg_i2l X dL_law_489 ?_
    refine zg_lcmp X dL_law_490 ?_
    refine zg_if_eq X dL_law_491 (tgt := 496) (by decide) (fun _ => ?_) (fun c9 => absurd (lw_cmp (hf0 cv)) c9)
    exact zg_goto X dL_law_496 (tgt := 3268) (by decide) (lw_k ⟨rfl, rfl, rfl, rfl, rfl, rfl, trivial⟩ hCC (by omega) (by omega) (k t1 f1 g hVt))
set_option maxHeartbeats 4000000 in
theorem lcase_3 (X : zC p s m #[Value.ref b] meth c cL_law 9 (wsLR ++ lwH) RL D (zT T) A) (hfl : l.stackTraces = false) (hX : va_X b L xs s s.heap) (hbl : b < s.heap.size) (hbA : ¬ A b) (hL : L ≤ 2048) (hi : i + 4 ≤ L) (hV : zV σ) (hc : cells + 4 ≤ 603072) (hs : slots + 24 ≤ 7215210) (k : ∀ (t : ZS) (f' : Nat → Int64) (g' : Nat → UInt64), zV t → zG p l e room_1 s m #[Value.ref b] below meth c D 9 A (cells + 4) (slots + 24) Q (wL adC adM aL aD T t t f' g') 3268 (lw0 b adC adM aL aD i) []) : zG p l e room_1 s m #[Value.ref b] below meth c D 9 A cells slots Q (wL adC adM aL aD T σ σ f g) 499 (lw0 b adC adM aL aD i) [] := by
  refine zg_aload_n X dL_law_499 rfl ?_
  refine zg_aload_n X dL_law_500 rfl ?_
  refine zg_iload X dL_law_501 rfl ?_
  refine zg_iconst X (v := nI 1) dL_law_503 (by decide) ?_
  refine zg_iadd X dL_law_504 ?_
  refine zg_top (lw_add i 1) ?_
  refine zg_sld X hX hbl hbA (i := i + 1) (by omega) (by omega) dL_law_505 ?_
  refine zg_aload_n X dL_law_506 rfl ?_
  refine zg_lawS X (k_L_addGroup l hfl D adC T σ hV (xs (i + 1)) aL f) (lh_S gL_law_L_addGroup) rfl rfl rfl qd_L_addGroup rfl ⟨Nat.le_of_ble_eq_true rfl, Nat.le_of_ble_eq_true rfl⟩ rfl (Nat.le_of_ble_eq_true rfl) ⟨by show _ ≤ 603072; omega, by show _ ≤ 7215210; omega⟩ dL_law_507 (fun v u f1 hl => ?_)
  refine zg_istore X dL_law_510 (by decide) ?_
  refine zg_aload_n X dL_law_512 rfl ?_
  refine zg_aload_n X dL_law_513 rfl ?_
  refine zg_iload X dL_law_514 rfl ?_
  refine zg_iconst X (v := nI 1) dL_law_516 (by decide) ?_
  refine zg_iadd X dL_law_517 ?_
  refine zg_top (lw_add i 1) ?_
  refine zg_sld X hX hbl hbA (i := i + 1) (by omega) (by omega) dL_law_518 ?_
  refine zg_lawMi X (k_X7_addGroup l D adM T σ hV.1.1.1 (xs (i + 1))) (lh_m gL_law_X7_addGroup) rfl rfl rfl qv_X7_addGroup rfl ⟨Nat.le_of_ble_eq_true rfl, Nat.le_of_ble_eq_true rfl⟩ rfl (Nat.le_of_ble_eq_true rfl) ⟨by show _ ≤ 603072; omega, by show _ ≤ 7215210; omega⟩ dL_law_519 (fun b1 w1 h1 => ?_)
  obtain ⟨t1, hm, rfl⟩ := h1
  refine ⟨t1, rfl, ?_⟩
  obtain ⟨e8, hf0, hC0, hVt⟩ := lw_agree (by decide +kernel) (fun v0 s0 h => zV_addGroup hV h) hV hl hm
  have hCC : wC adC T u = wC adC T t1 := hC0 adC T
  refine zg_istore X dL_law_522 (by decide) ?_
  refine zg_aload_n X dL_law_524 rfl ?_
  refine zg_lawMi X (k_X7_thrown l D adM T t1) (lh_m gL_law_X7_thrown) rfl rfl rfl qv_X7_thrown rfl ⟨Nat.le_of_ble_eq_true rfl, Nat.le_of_ble_eq_true rfl⟩ rfl (Nat.le_of_ble_eq_true rfl) ⟨by show _ ≤ 603072; omega, by show _ ≤ 7215210; omega⟩ dL_law_525 (fun b2 w2 h2 => ?_)
  obtain ⟨rfl, rfl⟩ := h2
  refine ⟨t1, rfl, ?_⟩
  refine zg_iload X dL_law_528 rfl ?_
  refine zg_icmp_eq X dL_law_530 (tgt := 535) (by decide) (fun _ => ?_) (fun c9 => absurd e8 c9)
  refine zg_iload X dL_law_535 rfl ?_
  refine zg_if_ne X dL_law_537 (tgt := 552) (by decide) (fun _ => ?_) (fun cv => ?_)
  · skip
    exact zg_goto X dL_law_552 (tgt := 3268) (by decide) (lw_k ⟨rfl, rfl, rfl, rfl, rfl, rfl, trivial⟩ hCC (by omega) (by omega) (k t1 f1 g hVt))
  · skip
    refine zg_aload_n X dL_law_540 rfl ?_
    refine zg_iconst X (v := 0) dL_law_541 (by decide) ?_
    refine zg_lald X (q0 := 55) (t0 := 3) (n := 1) (f := f1) rfl rfl (vp_in_nI (n := 0) (N := 1) (by decide) (by decide)) dL_law_542 ?_
    refine zg_iload X dL_law_543 rfl ?_
    refine zg_i2l X dL_law_545 ?_
    refine zg_lcmp X dL_law_546 ?_
    refine zg_if_eq X dL_law_547 (tgt := 552) (by decide) (fun _ => ?_) (fun c9 => absurd (lw_cmp (hf0 cv)) c9)
    exact zg_goto X dL_law_552 (tgt := 3268) (by decide) (lw_k ⟨rfl, rfl, rfl, rfl, rfl, rfl, trivial⟩ hCC (by omega) (by omega) (k t1 f1 g hVt))
set_option maxHeartbeats 4000000 in
theorem lcase_4 (X : zC p s m #[Value.ref b] meth c cL_law 9 (wsLR ++ lwH) RL D (zT T) A) (hfl : l.stackTraces = false) (hX : va_X b L xs s s.heap) (hbl : b < s.heap.size) (hbA : ¬ A b) (hL : L ≤ 2048) (hi : i + 4 ≤ L) (hV : zV σ) (hc : cells + 4 ≤ 603072) (hs : slots + 24 ≤ 7215210) (k : ∀ (t : ZS) (f' : Nat → Int64) (g' : Nat → UInt64), zV t → zG p l e room_1 s m #[Value.ref b] below meth c D 9 A (cells + 4) (slots + 24) Q (wL adC adM aL aD T t t f' g') 3268 (lw0 b adC adM aL aD i) []) : zG p l e room_1 s m #[Value.ref b] below meth c D 9 A cells slots Q (wL adC adM aL aD T σ σ f g) 555 (lw0 b adC adM aL aD i) [] := by
  refine zg_aload_n X dL_law_555 rfl ?_
  refine zg_aload_n X dL_law_556 rfl ?_
  refine zg_iload X dL_law_557 rfl ?_
  refine zg_iconst X (v := nI 1) dL_law_559 (by decide) ?_
  refine zg_iadd X dL_law_560 ?_
  refine zg_top (lw_add i 1) ?_
  refine zg_sld X hX hbl hbA (i := i + 1) (by omega) (by omega) dL_law_561 ?_
  refine zg_aload_n X dL_law_562 rfl ?_
  refine zg_iload X dL_law_563 rfl ?_
  refine zg_iconst X (v := nI 2) dL_law_565 (by decide) ?_
  refine zg_iadd X dL_law_566 ?_
  refine zg_top (lw_add i 2) ?_
  refine zg_sld X hX hbl hbA (i := i + 2) (by omega) (by omega) dL_law_567 ?_
  refine zg_aload_n X dL_law_568 rfl ?_
  refine zg_lawS X (k_L_addMember l hfl D adC T σ hV (xs (i + 1)) (xs (i + 2)) aL f) (lh_S gL_law_L_addMember) rfl rfl rfl qd_L_addMember rfl ⟨Nat.le_of_ble_eq_true rfl, Nat.le_of_ble_eq_true rfl⟩ rfl (Nat.le_of_ble_eq_true rfl) ⟨by show _ ≤ 603072; omega, by show _ ≤ 7215210; omega⟩ dL_law_569 (fun v u f1 hl => ?_)
  refine zg_istore X dL_law_572 (by decide) ?_
  refine zg_aload_n X dL_law_574 rfl ?_
  refine zg_aload_n X dL_law_575 rfl ?_
  refine zg_iload X dL_law_576 rfl ?_
  refine zg_iconst X (v := nI 1) dL_law_578 (by decide) ?_
  refine zg_iadd X dL_law_579 ?_
  refine zg_top (lw_add i 1) ?_
  refine zg_sld X hX hbl hbA (i := i + 1) (by omega) (by omega) dL_law_580 ?_
  refine zg_aload_n X dL_law_581 rfl ?_
  refine zg_iload X dL_law_582 rfl ?_
  refine zg_iconst X (v := nI 2) dL_law_584 (by decide) ?_
  refine zg_iadd X dL_law_585 ?_
  refine zg_top (lw_add i 2) ?_
  refine zg_sld X hX hbl hbA (i := i + 2) (by omega) (by omega) dL_law_586 ?_
  refine zg_lawMi X (k_X7_addMember l D adM T σ hV.1.1.1 (xs (i + 1)) (xs (i + 2))) (lh_m gL_law_X7_addMember) rfl rfl rfl qv_X7_addMember rfl ⟨Nat.le_of_ble_eq_true rfl, Nat.le_of_ble_eq_true rfl⟩ rfl (Nat.le_of_ble_eq_true rfl) ⟨by show _ ≤ 603072; omega, by show _ ≤ 7215210; omega⟩ dL_law_587 (fun b1 w1 h1 => ?_)
  obtain ⟨t1, hm, rfl⟩ := h1
  refine ⟨t1, rfl, ?_⟩
  obtain ⟨e8, hf0, hC0, hVt⟩ := lw_agree (by decide +kernel) (fun v0 s0 h => zV_addMember hV h) hV hl hm
  have hCC : wC adC T u = wC adC T t1 := hC0 adC T
  refine zg_istore X dL_law_590 (by decide) ?_
  refine zg_aload_n X dL_law_592 rfl ?_
  refine zg_lawMi X (k_X7_thrown l D adM T t1) (lh_m gL_law_X7_thrown) rfl rfl rfl qv_X7_thrown rfl ⟨Nat.le_of_ble_eq_true rfl, Nat.le_of_ble_eq_true rfl⟩ rfl (Nat.le_of_ble_eq_true rfl) ⟨by show _ ≤ 603072; omega, by show _ ≤ 7215210; omega⟩ dL_law_593 (fun b2 w2 h2 => ?_)
  obtain ⟨rfl, rfl⟩ := h2
  refine ⟨t1, rfl, ?_⟩
  refine zg_iload X dL_law_596 rfl ?_
  refine zg_icmp_eq X dL_law_598 (tgt := 603) (by decide) (fun _ => ?_) (fun c9 => absurd e8 c9)
  refine zg_iload X dL_law_603 rfl ?_
  refine zg_if_ne X dL_law_605 (tgt := 620) (by decide) (fun _ => ?_) (fun cv => ?_)
  · skip
    exact zg_goto X dL_law_620 (tgt := 3268) (by decide) (lw_k ⟨rfl, rfl, rfl, rfl, rfl, rfl, trivial⟩ hCC (by omega) (by omega) (k t1 f1 g hVt))
  · skip
    refine zg_aload_n X dL_law_608 rfl ?_
    refine zg_iconst X (v := 0) dL_law_609 (by decide) ?_
    refine zg_lald X (q0 := 55) (t0 := 3) (n := 1) (f := f1) rfl rfl (vp_in_nI (n := 0) (N := 1) (by decide) (by decide)) dL_law_610 ?_
    refine zg_iload X dL_law_611 rfl ?_
    refine zg_i2l X dL_law_613 ?_
    refine zg_lcmp X dL_law_614 ?_
    refine zg_if_eq X dL_law_615 (tgt := 620) (by decide) (fun _ => ?_) (fun c9 => absurd (lw_cmp (hf0 cv)) c9)
    exact zg_goto X dL_law_620 (tgt := 3268) (by decide) (lw_k ⟨rfl, rfl, rfl, rfl, rfl, rfl, trivial⟩ hCC (by omega) (by omega) (k t1 f1 g hVt))
set_option maxHeartbeats 4000000 in
theorem lcase_5 (X : zC p s m #[Value.ref b] meth c cL_law 9 (wsLR ++ lwH) RL D (zT T) A) (hfl : l.stackTraces = false) (hX : va_X b L xs s s.heap) (hbl : b < s.heap.size) (hbA : ¬ A b) (hL : L ≤ 2048) (hi : i + 4 ≤ L) (hV : zV σ) (hc : cells + 4 ≤ 603072) (hs : slots + 24 ≤ 7215210) (k : ∀ (t : ZS) (f' : Nat → Int64) (g' : Nat → UInt64), zV t → zG p l e room_1 s m #[Value.ref b] below meth c D 9 A (cells + 4) (slots + 24) Q (wL adC adM aL aD T t t f' g') 3268 (lw0 b adC adM aL aD i) []) : zG p l e room_1 s m #[Value.ref b] below meth c D 9 A cells slots Q (wL adC adM aL aD T σ σ f g) 623 (lw0 b adC adM aL aD i) [] := by
  refine zg_aload_n X dL_law_623 rfl ?_
  refine zg_aload_n X dL_law_624 rfl ?_
  refine zg_iload X dL_law_625 rfl ?_
  refine zg_iconst X (v := nI 1) dL_law_627 (by decide) ?_
  refine zg_iadd X dL_law_628 ?_
  refine zg_top (lw_add i 1) ?_
  refine zg_sld X hX hbl hbA (i := i + 1) (by omega) (by omega) dL_law_629 ?_
  refine zg_aload_n X dL_law_630 rfl ?_
  refine zg_iload X dL_law_631 rfl ?_
  refine zg_iconst X (v := nI 2) dL_law_633 (by decide) ?_
  refine zg_iadd X dL_law_634 ?_
  refine zg_top (lw_add i 2) ?_
  refine zg_sld X hX hbl hbA (i := i + 2) (by omega) (by omega) dL_law_635 ?_
  refine zg_aload_n X dL_law_636 rfl ?_
  refine zg_lawS X (k_L_removeMember l hfl D adC T σ hV (xs (i + 1)) (xs (i + 2)) aL f) (lh_S gL_law_L_removeMember) rfl rfl rfl qd_L_removeMember rfl ⟨Nat.le_of_ble_eq_true rfl, Nat.le_of_ble_eq_true rfl⟩ rfl (Nat.le_of_ble_eq_true rfl) ⟨by show _ ≤ 603072; omega, by show _ ≤ 7215210; omega⟩ dL_law_637 (fun v u f1 hl => ?_)
  refine zg_istore X dL_law_640 (by decide) ?_
  refine zg_aload_n X dL_law_642 rfl ?_
  refine zg_aload_n X dL_law_643 rfl ?_
  refine zg_iload X dL_law_644 rfl ?_
  refine zg_iconst X (v := nI 1) dL_law_646 (by decide) ?_
  refine zg_iadd X dL_law_647 ?_
  refine zg_top (lw_add i 1) ?_
  refine zg_sld X hX hbl hbA (i := i + 1) (by omega) (by omega) dL_law_648 ?_
  refine zg_aload_n X dL_law_649 rfl ?_
  refine zg_iload X dL_law_650 rfl ?_
  refine zg_iconst X (v := nI 2) dL_law_652 (by decide) ?_
  refine zg_iadd X dL_law_653 ?_
  refine zg_top (lw_add i 2) ?_
  refine zg_sld X hX hbl hbA (i := i + 2) (by omega) (by omega) dL_law_654 ?_
  refine zg_lawMi X (k_X7_removeMember l D adM T σ hV.1.1.1 (xs (i + 1)) (xs (i + 2))) (lh_m gL_law_X7_removeMember) rfl rfl rfl qv_X7_removeMember rfl ⟨Nat.le_of_ble_eq_true rfl, Nat.le_of_ble_eq_true rfl⟩ rfl (Nat.le_of_ble_eq_true rfl) ⟨by show _ ≤ 603072; omega, by show _ ≤ 7215210; omega⟩ dL_law_655 (fun b1 w1 h1 => ?_)
  obtain ⟨t1, hm, rfl⟩ := h1
  refine ⟨t1, rfl, ?_⟩
  obtain ⟨e8, hf0, hC0, hVt⟩ := lw_agree (by decide +kernel) (fun v0 s0 h => zV_removeMember hV h) hV hl hm
  have hCC : wC adC T u = wC adC T t1 := hC0 adC T
  refine zg_istore X dL_law_658 (by decide) ?_
  refine zg_aload_n X dL_law_660 rfl ?_
  refine zg_lawMi X (k_X7_thrown l D adM T t1) (lh_m gL_law_X7_thrown) rfl rfl rfl qv_X7_thrown rfl ⟨Nat.le_of_ble_eq_true rfl, Nat.le_of_ble_eq_true rfl⟩ rfl (Nat.le_of_ble_eq_true rfl) ⟨by show _ ≤ 603072; omega, by show _ ≤ 7215210; omega⟩ dL_law_661 (fun b2 w2 h2 => ?_)
  obtain ⟨rfl, rfl⟩ := h2
  refine ⟨t1, rfl, ?_⟩
  refine zg_iload X dL_law_664 rfl ?_
  refine zg_icmp_eq X dL_law_666 (tgt := 671) (by decide) (fun _ => ?_) (fun c9 => absurd e8 c9)
  refine zg_iload X dL_law_671 rfl ?_
  refine zg_if_ne X dL_law_673 (tgt := 688) (by decide) (fun _ => ?_) (fun cv => ?_)
  · skip
    exact zg_goto X dL_law_688 (tgt := 3268) (by decide) (lw_k ⟨rfl, rfl, rfl, rfl, rfl, rfl, trivial⟩ hCC (by omega) (by omega) (k t1 f1 g hVt))
  · skip
    refine zg_aload_n X dL_law_676 rfl ?_
    refine zg_iconst X (v := 0) dL_law_677 (by decide) ?_
    refine zg_lald X (q0 := 55) (t0 := 3) (n := 1) (f := f1) rfl rfl (vp_in_nI (n := 0) (N := 1) (by decide) (by decide)) dL_law_678 ?_
    refine zg_iload X dL_law_679 rfl ?_
    refine zg_i2l X dL_law_681 ?_
    refine zg_lcmp X dL_law_682 ?_
    refine zg_if_eq X dL_law_683 (tgt := 688) (by decide) (fun _ => ?_) (fun c9 => absurd (lw_cmp (hf0 cv)) c9)
    exact zg_goto X dL_law_688 (tgt := 3268) (by decide) (lw_k ⟨rfl, rfl, rfl, rfl, rfl, rfl, trivial⟩ hCC (by omega) (by omega) (k t1 f1 g hVt))
set_option maxHeartbeats 4000000 in
theorem lcase_6 (X : zC p s m #[Value.ref b] meth c cL_law 9 (wsLR ++ lwH) RL D (zT T) A) (hfl : l.stackTraces = false) (hX : va_X b L xs s s.heap) (hbl : b < s.heap.size) (hbA : ¬ A b) (hL : L ≤ 2048) (hi : i + 4 ≤ L) (hV : zV σ) (hc : cells + 4 ≤ 603072) (hs : slots + 24 ≤ 7215210) (k : ∀ (t : ZS) (f' : Nat → Int64) (g' : Nat → UInt64), zV t → zG p l e room_1 s m #[Value.ref b] below meth c D 9 A (cells + 4) (slots + 24) Q (wL adC adM aL aD T t t f' g') 3268 (lw0 b adC adM aL aD i) []) : zG p l e room_1 s m #[Value.ref b] below meth c D 9 A cells slots Q (wL adC adM aL aD T σ σ f g) 691 (lw0 b adC adM aL aD i) [] := by
  refine zg_aload_n X dL_law_691 rfl ?_
  refine zg_aload_n X dL_law_692 rfl ?_
  refine zg_iload X dL_law_693 rfl ?_
  refine zg_iconst X (v := nI 1) dL_law_695 (by decide) ?_
  refine zg_iadd X dL_law_696 ?_
  refine zg_top (lw_add i 1) ?_
  refine zg_sld X hX hbl hbA (i := i + 1) (by omega) (by omega) dL_law_697 ?_
  refine zg_aload_n X dL_law_698 rfl ?_
  refine zg_iload X dL_law_699 rfl ?_
  refine zg_iconst X (v := nI 2) dL_law_701 (by decide) ?_
  refine zg_iadd X dL_law_702 ?_
  refine zg_top (lw_add i 2) ?_
  refine zg_sld X hX hbl hbA (i := i + 2) (by omega) (by omega) dL_law_703 ?_
  refine zg_aload_n X dL_law_704 rfl ?_
  refine zg_lawS X (k_L_nest l hfl D adC T σ hV (xs (i + 1)) (xs (i + 2)) aL f) (lh_S gL_law_L_nest) rfl rfl rfl qd_L_nest rfl ⟨Nat.le_of_ble_eq_true rfl, Nat.le_of_ble_eq_true rfl⟩ rfl (Nat.le_of_ble_eq_true rfl) ⟨by show _ ≤ 603072; omega, by show _ ≤ 7215210; omega⟩ dL_law_705 (fun v u f1 hl => ?_)
  refine zg_istore X dL_law_708 (by decide) ?_
  refine zg_aload_n X dL_law_710 rfl ?_
  refine zg_aload_n X dL_law_711 rfl ?_
  refine zg_iload X dL_law_712 rfl ?_
  refine zg_iconst X (v := nI 1) dL_law_714 (by decide) ?_
  refine zg_iadd X dL_law_715 ?_
  refine zg_top (lw_add i 1) ?_
  refine zg_sld X hX hbl hbA (i := i + 1) (by omega) (by omega) dL_law_716 ?_
  refine zg_aload_n X dL_law_717 rfl ?_
  refine zg_iload X dL_law_718 rfl ?_
  refine zg_iconst X (v := nI 2) dL_law_720 (by decide) ?_
  refine zg_iadd X dL_law_721 ?_
  refine zg_top (lw_add i 2) ?_
  refine zg_sld X hX hbl hbA (i := i + 2) (by omega) (by omega) dL_law_722 ?_
  refine zg_lawMi X (k_X7_nest l D adM T σ hV.1.1.1 (xs (i + 1)) (xs (i + 2))) (lh_m gL_law_X7_nest) rfl rfl rfl qv_X7_nest rfl ⟨Nat.le_of_ble_eq_true rfl, Nat.le_of_ble_eq_true rfl⟩ rfl (Nat.le_of_ble_eq_true rfl) ⟨by show _ ≤ 603072; omega, by show _ ≤ 7215210; omega⟩ dL_law_723 (fun b1 w1 h1 => ?_)
  obtain ⟨t1, hm, rfl⟩ := h1
  refine ⟨t1, rfl, ?_⟩
  obtain ⟨e8, hf0, hC0, hVt⟩ := lw_agree (by decide +kernel) (fun v0 s0 h => zV_nest hV h) hV hl hm
  have hCC : wC adC T u = wC adC T t1 := hC0 adC T
  refine zg_istore X dL_law_726 (by decide) ?_
  refine zg_aload_n X dL_law_728 rfl ?_
  refine zg_lawMi X (k_X7_thrown l D adM T t1) (lh_m gL_law_X7_thrown) rfl rfl rfl qv_X7_thrown rfl ⟨Nat.le_of_ble_eq_true rfl, Nat.le_of_ble_eq_true rfl⟩ rfl (Nat.le_of_ble_eq_true rfl) ⟨by show _ ≤ 603072; omega, by show _ ≤ 7215210; omega⟩ dL_law_729 (fun b2 w2 h2 => ?_)
  obtain ⟨rfl, rfl⟩ := h2
  refine ⟨t1, rfl, ?_⟩
  refine zg_iload X dL_law_732 rfl ?_
  refine zg_icmp_eq X dL_law_734 (tgt := 739) (by decide) (fun _ => ?_) (fun c9 => absurd e8 c9)
  refine zg_iload X dL_law_739 rfl ?_
  refine zg_if_ne X dL_law_741 (tgt := 756) (by decide) (fun _ => ?_) (fun cv => ?_)
  · skip
    exact zg_goto X dL_law_756 (tgt := 3268) (by decide) (lw_k ⟨rfl, rfl, rfl, rfl, rfl, rfl, trivial⟩ hCC (by omega) (by omega) (k t1 f1 g hVt))
  · skip
    refine zg_aload_n X dL_law_744 rfl ?_
    refine zg_iconst X (v := 0) dL_law_745 (by decide) ?_
    refine zg_lald X (q0 := 55) (t0 := 3) (n := 1) (f := f1) rfl rfl (vp_in_nI (n := 0) (N := 1) (by decide) (by decide)) dL_law_746 ?_
    refine zg_iload X dL_law_747 rfl ?_
    refine zg_i2l X dL_law_749 ?_
    refine zg_lcmp X dL_law_750 ?_
    refine zg_if_eq X dL_law_751 (tgt := 756) (by decide) (fun _ => ?_) (fun c9 => absurd (lw_cmp (hf0 cv)) c9)
    exact zg_goto X dL_law_756 (tgt := 3268) (by decide) (lw_k ⟨rfl, rfl, rfl, rfl, rfl, rfl, trivial⟩ hCC (by omega) (by omega) (k t1 f1 g hVt))
set_option maxHeartbeats 4000000 in
theorem lcase_7 (X : zC p s m #[Value.ref b] meth c cL_law 9 (wsLR ++ lwH) RL D (zT T) A) (hfl : l.stackTraces = false) (hX : va_X b L xs s s.heap) (hbl : b < s.heap.size) (hbA : ¬ A b) (hL : L ≤ 2048) (hi : i + 4 ≤ L) (hV : zV σ) (hc : cells + 4 ≤ 603072) (hs : slots + 24 ≤ 7215210) (k : ∀ (t : ZS) (f' : Nat → Int64) (g' : Nat → UInt64), zV t → zG p l e room_1 s m #[Value.ref b] below meth c D 9 A (cells + 4) (slots + 24) Q (wL adC adM aL aD T t t f' g') 3268 (lw0 b adC adM aL aD i) []) : zG p l e room_1 s m #[Value.ref b] below meth c D 9 A cells slots Q (wL adC adM aL aD T σ σ f g) 759 (lw0 b adC adM aL aD i) [] := by
  by_cases c0 : xs (i + 3) = 0
  · skip
    refine zg_aload_n X dL_law_759 rfl ?_
    refine zg_aload_n X dL_law_760 rfl ?_
    refine zg_iload X dL_law_761 rfl ?_
    refine zg_iconst X (v := nI 1) dL_law_763 (by decide) ?_
    refine zg_iadd X dL_law_764 ?_
    refine zg_top (lw_add i 1) ?_
    refine zg_sld X hX hbl hbA (i := i + 1) (by omega) (by omega) dL_law_765 ?_
    refine zg_aload_n X dL_law_766 rfl ?_
    refine zg_iload X dL_law_767 rfl ?_
    refine zg_iconst X (v := nI 2) dL_law_769 (by decide) ?_
    refine zg_iadd X dL_law_770 ?_
    refine zg_top (lw_add i 2) ?_
    refine zg_sld X hX hbl hbA (i := i + 2) (by omega) (by omega) dL_law_771 ?_
    refine zg_aload_n X dL_law_772 rfl ?_
    refine zg_iload X dL_law_773 rfl ?_
    refine zg_iconst X (v := nI 3) dL_law_775 (by decide) ?_
    refine zg_iadd X dL_law_776 ?_
    refine zg_top (lw_add i 3) ?_
    refine zg_sld X hX hbl hbA (i := i + 3) (by omega) (by omega) dL_law_777 ?_
    refine zg_if_eq X dL_law_778 (tgt := 785) (by decide) (fun _ => ?_) (fun h => absurd c0 h)
    refine zg_iconst X (v := 0) dL_law_785 (by decide) ?_
    refine zg_aload_n X dL_law_786 rfl ?_
    refine zg_lawS X (k_L_addRight l hfl D adC T σ hV (xs (i + 1)) (xs (i + 2)) 0 (Or.inl rfl) aL f) (lh_S gL_law_L_addRight) rfl rfl rfl qd_L_addRight rfl ⟨Nat.le_of_ble_eq_true rfl, Nat.le_of_ble_eq_true rfl⟩ rfl (Nat.le_of_ble_eq_true rfl) ⟨by show _ ≤ 603072; omega, by show _ ≤ 7215210; omega⟩ dL_law_787 (fun v u f1 hl => ?_)
    refine zg_istore X dL_law_790 (by decide) ?_
    refine zg_aload_n X dL_law_792 rfl ?_
    refine zg_aload_n X dL_law_793 rfl ?_
    refine zg_iload X dL_law_794 rfl ?_
    refine zg_iconst X (v := nI 1) dL_law_796 (by decide) ?_
    refine zg_iadd X dL_law_797 ?_
    refine zg_top (lw_add i 1) ?_
    refine zg_sld X hX hbl hbA (i := i + 1) (by omega) (by omega) dL_law_798 ?_
    refine zg_aload_n X dL_law_799 rfl ?_
    refine zg_iload X dL_law_800 rfl ?_
    refine zg_iconst X (v := nI 2) dL_law_802 (by decide) ?_
    refine zg_iadd X dL_law_803 ?_
    refine zg_top (lw_add i 2) ?_
    refine zg_sld X hX hbl hbA (i := i + 2) (by omega) (by omega) dL_law_804 ?_
    refine zg_aload_n X dL_law_805 rfl ?_
    refine zg_iload X dL_law_806 rfl ?_
    refine zg_iconst X (v := nI 3) dL_law_808 (by decide) ?_
    refine zg_iadd X dL_law_809 ?_
    refine zg_top (lw_add i 3) ?_
    refine zg_sld X hX hbl hbA (i := i + 3) (by omega) (by omega) dL_law_810 ?_
    refine zg_if_eq X dL_law_811 (tgt := 818) (by decide) (fun _ => ?_) (fun h => absurd c0 h)
    refine zg_iconst X (v := 0) dL_law_818 (by decide) ?_
    refine zg_lawMi X (k_X7_addRight l D adM T σ hV.1.1.1 (xs (i + 1)) (xs (i + 2)) 0 (Or.inl rfl)) (lh_m gL_law_X7_addRight) rfl rfl rfl qv_X7_addRight rfl ⟨Nat.le_of_ble_eq_true rfl, Nat.le_of_ble_eq_true rfl⟩ rfl (Nat.le_of_ble_eq_true rfl) ⟨by show _ ≤ 603072; omega, by show _ ≤ 7215210; omega⟩ dL_law_819 (fun b1 w1 h1 => ?_)
    obtain ⟨t1, hm, rfl⟩ := h1
    refine ⟨t1, rfl, ?_⟩
    obtain ⟨e8, hf0, hC0, hVt⟩ := lw_agree (by decide +kernel) (fun v0 s0 h => zV_addRight hV h) hV hl hm
    have hCC : wC adC T u = wC adC T t1 := hC0 adC T
    refine zg_istore X dL_law_822 (by decide) ?_
    refine zg_aload_n X dL_law_824 rfl ?_
    refine zg_lawMi X (k_X7_thrown l D adM T t1) (lh_m gL_law_X7_thrown) rfl rfl rfl qv_X7_thrown rfl ⟨Nat.le_of_ble_eq_true rfl, Nat.le_of_ble_eq_true rfl⟩ rfl (Nat.le_of_ble_eq_true rfl) ⟨by show _ ≤ 603072; omega, by show _ ≤ 7215210; omega⟩ dL_law_825 (fun b2 w2 h2 => ?_)
    obtain ⟨rfl, rfl⟩ := h2
    refine ⟨t1, rfl, ?_⟩
    refine zg_iload X dL_law_828 rfl ?_
    refine zg_icmp_eq X dL_law_830 (tgt := 835) (by decide) (fun _ => ?_) (fun c9 => absurd e8 c9)
    refine zg_iload X dL_law_835 rfl ?_
    refine zg_if_ne X dL_law_837 (tgt := 852) (by decide) (fun _ => ?_) (fun cv => ?_)
    · skip
      exact zg_goto X dL_law_852 (tgt := 3268) (by decide) (lw_k ⟨rfl, rfl, rfl, rfl, rfl, rfl, trivial⟩ hCC (by omega) (by omega) (k t1 f1 g hVt))
    · skip
      refine zg_aload_n X dL_law_840 rfl ?_
      refine zg_iconst X (v := 0) dL_law_841 (by decide) ?_
      refine zg_lald X (q0 := 55) (t0 := 3) (n := 1) (f := f1) rfl rfl (vp_in_nI (n := 0) (N := 1) (by decide) (by decide)) dL_law_842 ?_
      refine zg_iload X dL_law_843 rfl ?_
      refine zg_i2l X dL_law_845 ?_
      refine zg_lcmp X dL_law_846 ?_
      refine zg_if_eq X dL_law_847 (tgt := 852) (by decide) (fun _ => ?_) (fun c9 => absurd (lw_cmp (hf0 cv)) c9)
      exact zg_goto X dL_law_852 (tgt := 3268) (by decide) (lw_k ⟨rfl, rfl, rfl, rfl, rfl, rfl, trivial⟩ hCC (by omega) (by omega) (k t1 f1 g hVt))
  · skip
    refine zg_aload_n X dL_law_759 rfl ?_
    refine zg_aload_n X dL_law_760 rfl ?_
    refine zg_iload X dL_law_761 rfl ?_
    refine zg_iconst X (v := nI 1) dL_law_763 (by decide) ?_
    refine zg_iadd X dL_law_764 ?_
    refine zg_top (lw_add i 1) ?_
    refine zg_sld X hX hbl hbA (i := i + 1) (by omega) (by omega) dL_law_765 ?_
    refine zg_aload_n X dL_law_766 rfl ?_
    refine zg_iload X dL_law_767 rfl ?_
    refine zg_iconst X (v := nI 2) dL_law_769 (by decide) ?_
    refine zg_iadd X dL_law_770 ?_
    refine zg_top (lw_add i 2) ?_
    refine zg_sld X hX hbl hbA (i := i + 2) (by omega) (by omega) dL_law_771 ?_
    refine zg_aload_n X dL_law_772 rfl ?_
    refine zg_iload X dL_law_773 rfl ?_
    refine zg_iconst X (v := nI 3) dL_law_775 (by decide) ?_
    refine zg_iadd X dL_law_776 ?_
    refine zg_top (lw_add i 3) ?_
    refine zg_sld X hX hbl hbA (i := i + 3) (by omega) (by omega) dL_law_777 ?_
    refine zg_if_eq X dL_law_778 (tgt := 785) (by decide) (fun h => absurd h c0) (fun _ => ?_)
    refine zg_iconst X (v := 1) dL_law_781 (by decide) ?_
    refine zg_goto X dL_law_782 (tgt := 786) (by decide) ?_
    refine zg_aload_n X dL_law_786 rfl ?_
    refine zg_lawS X (k_L_addRight l hfl D adC T σ hV (xs (i + 1)) (xs (i + 2)) 1 (Or.inr rfl) aL f) (lh_S gL_law_L_addRight) rfl rfl rfl qd_L_addRight rfl ⟨Nat.le_of_ble_eq_true rfl, Nat.le_of_ble_eq_true rfl⟩ rfl (Nat.le_of_ble_eq_true rfl) ⟨by show _ ≤ 603072; omega, by show _ ≤ 7215210; omega⟩ dL_law_787 (fun v u f1 hl => ?_)
    refine zg_istore X dL_law_790 (by decide) ?_
    refine zg_aload_n X dL_law_792 rfl ?_
    refine zg_aload_n X dL_law_793 rfl ?_
    refine zg_iload X dL_law_794 rfl ?_
    refine zg_iconst X (v := nI 1) dL_law_796 (by decide) ?_
    refine zg_iadd X dL_law_797 ?_
    refine zg_top (lw_add i 1) ?_
    refine zg_sld X hX hbl hbA (i := i + 1) (by omega) (by omega) dL_law_798 ?_
    refine zg_aload_n X dL_law_799 rfl ?_
    refine zg_iload X dL_law_800 rfl ?_
    refine zg_iconst X (v := nI 2) dL_law_802 (by decide) ?_
    refine zg_iadd X dL_law_803 ?_
    refine zg_top (lw_add i 2) ?_
    refine zg_sld X hX hbl hbA (i := i + 2) (by omega) (by omega) dL_law_804 ?_
    refine zg_aload_n X dL_law_805 rfl ?_
    refine zg_iload X dL_law_806 rfl ?_
    refine zg_iconst X (v := nI 3) dL_law_808 (by decide) ?_
    refine zg_iadd X dL_law_809 ?_
    refine zg_top (lw_add i 3) ?_
    refine zg_sld X hX hbl hbA (i := i + 3) (by omega) (by omega) dL_law_810 ?_
    refine zg_if_eq X dL_law_811 (tgt := 818) (by decide) (fun h => absurd h c0) (fun _ => ?_)
    refine zg_iconst X (v := 1) dL_law_814 (by decide) ?_
    refine zg_goto X dL_law_815 (tgt := 819) (by decide) ?_
    refine zg_lawMi X (k_X7_addRight l D adM T σ hV.1.1.1 (xs (i + 1)) (xs (i + 2)) 1 (Or.inr rfl)) (lh_m gL_law_X7_addRight) rfl rfl rfl qv_X7_addRight rfl ⟨Nat.le_of_ble_eq_true rfl, Nat.le_of_ble_eq_true rfl⟩ rfl (Nat.le_of_ble_eq_true rfl) ⟨by show _ ≤ 603072; omega, by show _ ≤ 7215210; omega⟩ dL_law_819 (fun b1 w1 h1 => ?_)
    obtain ⟨t1, hm, rfl⟩ := h1
    refine ⟨t1, rfl, ?_⟩
    obtain ⟨e8, hf0, hC0, hVt⟩ := lw_agree (by decide +kernel) (fun v0 s0 h => zV_addRight hV h) hV hl hm
    have hCC : wC adC T u = wC adC T t1 := hC0 adC T
    refine zg_istore X dL_law_822 (by decide) ?_
    refine zg_aload_n X dL_law_824 rfl ?_
    refine zg_lawMi X (k_X7_thrown l D adM T t1) (lh_m gL_law_X7_thrown) rfl rfl rfl qv_X7_thrown rfl ⟨Nat.le_of_ble_eq_true rfl, Nat.le_of_ble_eq_true rfl⟩ rfl (Nat.le_of_ble_eq_true rfl) ⟨by show _ ≤ 603072; omega, by show _ ≤ 7215210; omega⟩ dL_law_825 (fun b2 w2 h2 => ?_)
    obtain ⟨rfl, rfl⟩ := h2
    refine ⟨t1, rfl, ?_⟩
    refine zg_iload X dL_law_828 rfl ?_
    refine zg_icmp_eq X dL_law_830 (tgt := 835) (by decide) (fun _ => ?_) (fun c9 => absurd e8 c9)
    refine zg_iload X dL_law_835 rfl ?_
    refine zg_if_ne X dL_law_837 (tgt := 852) (by decide) (fun _ => ?_) (fun cv => ?_)
    · skip
      exact zg_goto X dL_law_852 (tgt := 3268) (by decide) (lw_k ⟨rfl, rfl, rfl, rfl, rfl, rfl, trivial⟩ hCC (by omega) (by omega) (k t1 f1 g hVt))
    · skip
      refine zg_aload_n X dL_law_840 rfl ?_
      refine zg_iconst X (v := 0) dL_law_841 (by decide) ?_
      refine zg_lald X (q0 := 55) (t0 := 3) (n := 1) (f := f1) rfl rfl (vp_in_nI (n := 0) (N := 1) (by decide) (by decide)) dL_law_842 ?_
      refine zg_iload X dL_law_843 rfl ?_
      refine zg_i2l X dL_law_845 ?_
      refine zg_lcmp X dL_law_846 ?_
      refine zg_if_eq X dL_law_847 (tgt := 852) (by decide) (fun _ => ?_) (fun c9 => absurd (lw_cmp (hf0 cv)) c9)
      exact zg_goto X dL_law_852 (tgt := 3268) (by decide) (lw_k ⟨rfl, rfl, rfl, rfl, rfl, rfl, trivial⟩ hCC (by omega) (by omega) (k t1 f1 g hVt))
set_option maxHeartbeats 4000000 in
theorem lcase_8 (X : zC p s m #[Value.ref b] meth c cL_law 9 (wsLR ++ lwH) RL D (zT T) A) (hfl : l.stackTraces = false) (hX : va_X b L xs s s.heap) (hbl : b < s.heap.size) (hbA : ¬ A b) (hL : L ≤ 2048) (hi : i + 4 ≤ L) (hV : zV σ) (hc : cells + 4 ≤ 603072) (hs : slots + 24 ≤ 7215210) (k : ∀ (t : ZS) (f' : Nat → Int64) (g' : Nat → UInt64), zV t → zG p l e room_1 s m #[Value.ref b] below meth c D 9 A (cells + 4) (slots + 24) Q (wL adC adM aL aD T t t f' g') 3268 (lw0 b adC adM aL aD i) []) : zG p l e room_1 s m #[Value.ref b] below meth c D 9 A cells slots Q (wL adC adM aL aD T σ σ f g) 855 (lw0 b adC adM aL aD i) [] := by
  refine zg_aload_n X dL_law_855 rfl ?_
  refine zg_aload_n X dL_law_856 rfl ?_
  refine zg_iload X dL_law_857 rfl ?_
  refine zg_iconst X (v := nI 1) dL_law_859 (by decide) ?_
  refine zg_iadd X dL_law_860 ?_
  refine zg_top (lw_add i 1) ?_
  refine zg_sld X hX hbl hbA (i := i + 1) (by omega) (by omega) dL_law_861 ?_
  refine zg_aload_n X dL_law_862 rfl ?_
  refine zg_iload X dL_law_863 rfl ?_
  refine zg_iconst X (v := nI 2) dL_law_865 (by decide) ?_
  refine zg_iadd X dL_law_866 ?_
  refine zg_top (lw_add i 2) ?_
  refine zg_sld X hX hbl hbA (i := i + 2) (by omega) (by omega) dL_law_867 ?_
  refine zg_aload_n X dL_law_868 rfl ?_
  refine zg_lawS X (k_L_grantPerson l hfl D adC T σ hV (xs (i + 1)) (xs (i + 2)) aL f) (lh_S gL_law_L_grantPerson) rfl rfl rfl qd_L_grantPerson rfl ⟨Nat.le_of_ble_eq_true rfl, Nat.le_of_ble_eq_true rfl⟩ rfl (Nat.le_of_ble_eq_true rfl) ⟨by show _ ≤ 603072; omega, by show _ ≤ 7215210; omega⟩ dL_law_869 (fun v u f1 hl => ?_)
  refine zg_istore X dL_law_872 (by decide) ?_
  refine zg_aload_n X dL_law_874 rfl ?_
  refine zg_aload_n X dL_law_875 rfl ?_
  refine zg_iload X dL_law_876 rfl ?_
  refine zg_iconst X (v := nI 1) dL_law_878 (by decide) ?_
  refine zg_iadd X dL_law_879 ?_
  refine zg_top (lw_add i 1) ?_
  refine zg_sld X hX hbl hbA (i := i + 1) (by omega) (by omega) dL_law_880 ?_
  refine zg_aload_n X dL_law_881 rfl ?_
  refine zg_iload X dL_law_882 rfl ?_
  refine zg_iconst X (v := nI 2) dL_law_884 (by decide) ?_
  refine zg_iadd X dL_law_885 ?_
  refine zg_top (lw_add i 2) ?_
  refine zg_sld X hX hbl hbA (i := i + 2) (by omega) (by omega) dL_law_886 ?_
  refine zg_lawMi X (k_X7_grantPerson l D adM T σ hV.1.1.1 (xs (i + 1)) (xs (i + 2))) (lh_m gL_law_X7_grantPerson) rfl rfl rfl qv_X7_grantPerson rfl ⟨Nat.le_of_ble_eq_true rfl, Nat.le_of_ble_eq_true rfl⟩ rfl (Nat.le_of_ble_eq_true rfl) ⟨by show _ ≤ 603072; omega, by show _ ≤ 7215210; omega⟩ dL_law_887 (fun b1 w1 h1 => ?_)
  obtain ⟨t1, hm, rfl⟩ := h1
  refine ⟨t1, rfl, ?_⟩
  obtain ⟨e8, hf0, hC0, hVt⟩ := lw_agree (by decide +kernel) (fun v0 s0 h => zV_grantPerson hV h) hV hl hm
  have hCC : wC adC T u = wC adC T t1 := hC0 adC T
  refine zg_istore X dL_law_890 (by decide) ?_
  refine zg_aload_n X dL_law_892 rfl ?_
  refine zg_lawMi X (k_X7_thrown l D adM T t1) (lh_m gL_law_X7_thrown) rfl rfl rfl qv_X7_thrown rfl ⟨Nat.le_of_ble_eq_true rfl, Nat.le_of_ble_eq_true rfl⟩ rfl (Nat.le_of_ble_eq_true rfl) ⟨by show _ ≤ 603072; omega, by show _ ≤ 7215210; omega⟩ dL_law_893 (fun b2 w2 h2 => ?_)
  obtain ⟨rfl, rfl⟩ := h2
  refine ⟨t1, rfl, ?_⟩
  refine zg_iload X dL_law_896 rfl ?_
  refine zg_icmp_eq X dL_law_898 (tgt := 903) (by decide) (fun _ => ?_) (fun c9 => absurd e8 c9)
  refine zg_iload X dL_law_903 rfl ?_
  refine zg_if_ne X dL_law_905 (tgt := 920) (by decide) (fun _ => ?_) (fun cv => ?_)
  · skip
    exact zg_goto X dL_law_920 (tgt := 3268) (by decide) (lw_k ⟨rfl, rfl, rfl, rfl, rfl, rfl, trivial⟩ hCC (by omega) (by omega) (k t1 f1 g hVt))
  · skip
    refine zg_aload_n X dL_law_908 rfl ?_
    refine zg_iconst X (v := 0) dL_law_909 (by decide) ?_
    refine zg_lald X (q0 := 55) (t0 := 3) (n := 1) (f := f1) rfl rfl (vp_in_nI (n := 0) (N := 1) (by decide) (by decide)) dL_law_910 ?_
    refine zg_iload X dL_law_911 rfl ?_
    refine zg_i2l X dL_law_913 ?_
    refine zg_lcmp X dL_law_914 ?_
    refine zg_if_eq X dL_law_915 (tgt := 920) (by decide) (fun _ => ?_) (fun c9 => absurd (lw_cmp (hf0 cv)) c9)
    exact zg_goto X dL_law_920 (tgt := 3268) (by decide) (lw_k ⟨rfl, rfl, rfl, rfl, rfl, rfl, trivial⟩ hCC (by omega) (by omega) (k t1 f1 g hVt))
set_option maxHeartbeats 4000000 in
theorem lcase_9 (X : zC p s m #[Value.ref b] meth c cL_law 9 (wsLR ++ lwH) RL D (zT T) A) (hfl : l.stackTraces = false) (hX : va_X b L xs s s.heap) (hbl : b < s.heap.size) (hbA : ¬ A b) (hL : L ≤ 2048) (hi : i + 4 ≤ L) (hV : zV σ) (hc : cells + 4 ≤ 603072) (hs : slots + 24 ≤ 7215210) (k : ∀ (t : ZS) (f' : Nat → Int64) (g' : Nat → UInt64), zV t → zG p l e room_1 s m #[Value.ref b] below meth c D 9 A (cells + 4) (slots + 24) Q (wL adC adM aL aD T t t f' g') 3268 (lw0 b adC adM aL aD i) []) : zG p l e room_1 s m #[Value.ref b] below meth c D 9 A cells slots Q (wL adC adM aL aD T σ σ f g) 923 (lw0 b adC adM aL aD i) [] := by
  refine zg_aload_n X dL_law_923 rfl ?_
  refine zg_aload_n X dL_law_924 rfl ?_
  refine zg_iload X dL_law_925 rfl ?_
  refine zg_iconst X (v := nI 1) dL_law_927 (by decide) ?_
  refine zg_iadd X dL_law_928 ?_
  refine zg_top (lw_add i 1) ?_
  refine zg_sld X hX hbl hbA (i := i + 1) (by omega) (by omega) dL_law_929 ?_
  refine zg_aload_n X dL_law_930 rfl ?_
  refine zg_iload X dL_law_931 rfl ?_
  refine zg_iconst X (v := nI 2) dL_law_933 (by decide) ?_
  refine zg_iadd X dL_law_934 ?_
  refine zg_top (lw_add i 2) ?_
  refine zg_sld X hX hbl hbA (i := i + 2) (by omega) (by omega) dL_law_935 ?_
  refine zg_aload_n X dL_law_936 rfl ?_
  refine zg_lawS X (k_L_grantGroup l hfl D adC T σ hV (xs (i + 1)) (xs (i + 2)) aL f) (lh_S gL_law_L_grantGroup) rfl rfl rfl qd_L_grantGroup rfl ⟨Nat.le_of_ble_eq_true rfl, Nat.le_of_ble_eq_true rfl⟩ rfl (Nat.le_of_ble_eq_true rfl) ⟨by show _ ≤ 603072; omega, by show _ ≤ 7215210; omega⟩ dL_law_937 (fun v u f1 hl => ?_)
  refine zg_istore X dL_law_940 (by decide) ?_
  refine zg_aload_n X dL_law_942 rfl ?_
  refine zg_aload_n X dL_law_943 rfl ?_
  refine zg_iload X dL_law_944 rfl ?_
  refine zg_iconst X (v := nI 1) dL_law_946 (by decide) ?_
  refine zg_iadd X dL_law_947 ?_
  refine zg_top (lw_add i 1) ?_
  refine zg_sld X hX hbl hbA (i := i + 1) (by omega) (by omega) dL_law_948 ?_
  refine zg_aload_n X dL_law_949 rfl ?_
  refine zg_iload X dL_law_950 rfl ?_
  refine zg_iconst X (v := nI 2) dL_law_952 (by decide) ?_
  refine zg_iadd X dL_law_953 ?_
  refine zg_top (lw_add i 2) ?_
  refine zg_sld X hX hbl hbA (i := i + 2) (by omega) (by omega) dL_law_954 ?_
  refine zg_lawMi X (k_X7_grantGroup l D adM T σ hV.1.1.1 (xs (i + 1)) (xs (i + 2))) (lh_m gL_law_X7_grantGroup) rfl rfl rfl qv_X7_grantGroup rfl ⟨Nat.le_of_ble_eq_true rfl, Nat.le_of_ble_eq_true rfl⟩ rfl (Nat.le_of_ble_eq_true rfl) ⟨by show _ ≤ 603072; omega, by show _ ≤ 7215210; omega⟩ dL_law_955 (fun b1 w1 h1 => ?_)
  obtain ⟨t1, hm, rfl⟩ := h1
  refine ⟨t1, rfl, ?_⟩
  obtain ⟨e8, hf0, hC0, hVt⟩ := lw_agree (by decide +kernel) (fun v0 s0 h => zV_grantGroup hV h) hV hl hm
  have hCC : wC adC T u = wC adC T t1 := hC0 adC T
  refine zg_istore X dL_law_958 (by decide) ?_
  refine zg_aload_n X dL_law_960 rfl ?_
  refine zg_lawMi X (k_X7_thrown l D adM T t1) (lh_m gL_law_X7_thrown) rfl rfl rfl qv_X7_thrown rfl ⟨Nat.le_of_ble_eq_true rfl, Nat.le_of_ble_eq_true rfl⟩ rfl (Nat.le_of_ble_eq_true rfl) ⟨by show _ ≤ 603072; omega, by show _ ≤ 7215210; omega⟩ dL_law_961 (fun b2 w2 h2 => ?_)
  obtain ⟨rfl, rfl⟩ := h2
  refine ⟨t1, rfl, ?_⟩
  refine zg_iload X dL_law_964 rfl ?_
  refine zg_icmp_eq X dL_law_966 (tgt := 971) (by decide) (fun _ => ?_) (fun c9 => absurd e8 c9)
  refine zg_iload X dL_law_971 rfl ?_
  refine zg_if_ne X dL_law_973 (tgt := 988) (by decide) (fun _ => ?_) (fun cv => ?_)
  · skip
    exact zg_goto X dL_law_988 (tgt := 3268) (by decide) (lw_k ⟨rfl, rfl, rfl, rfl, rfl, rfl, trivial⟩ hCC (by omega) (by omega) (k t1 f1 g hVt))
  · skip
    refine zg_aload_n X dL_law_976 rfl ?_
    refine zg_iconst X (v := 0) dL_law_977 (by decide) ?_
    refine zg_lald X (q0 := 55) (t0 := 3) (n := 1) (f := f1) rfl rfl (vp_in_nI (n := 0) (N := 1) (by decide) (by decide)) dL_law_978 ?_
    refine zg_iload X dL_law_979 rfl ?_
    refine zg_i2l X dL_law_981 ?_
    refine zg_lcmp X dL_law_982 ?_
    refine zg_if_eq X dL_law_983 (tgt := 988) (by decide) (fun _ => ?_) (fun c9 => absurd (lw_cmp (hf0 cv)) c9)
    exact zg_goto X dL_law_988 (tgt := 3268) (by decide) (lw_k ⟨rfl, rfl, rfl, rfl, rfl, rfl, trivial⟩ hCC (by omega) (by omega) (k t1 f1 g hVt))
set_option maxHeartbeats 4000000 in
theorem lcase_10 (X : zC p s m #[Value.ref b] meth c cL_law 9 (wsLR ++ lwH) RL D (zT T) A) (hfl : l.stackTraces = false) (hX : va_X b L xs s s.heap) (hbl : b < s.heap.size) (hbA : ¬ A b) (hL : L ≤ 2048) (hi : i + 4 ≤ L) (hV : zV σ) (hc : cells + 4 ≤ 603072) (hs : slots + 24 ≤ 7215210) (k : ∀ (t : ZS) (f' : Nat → Int64) (g' : Nat → UInt64), zV t → zG p l e room_1 s m #[Value.ref b] below meth c D 9 A (cells + 4) (slots + 24) Q (wL adC adM aL aD T t t f' g') 3268 (lw0 b adC adM aL aD i) []) : zG p l e room_1 s m #[Value.ref b] below meth c D 9 A cells slots Q (wL adC adM aL aD T σ σ f g) 991 (lw0 b adC adM aL aD i) [] := by
  refine zg_aload_n X dL_law_991 rfl ?_
  refine zg_aload_n X dL_law_992 rfl ?_
  refine zg_iload X dL_law_993 rfl ?_
  refine zg_iconst X (v := nI 1) dL_law_995 (by decide) ?_
  refine zg_iadd X dL_law_996 ?_
  refine zg_top (lw_add i 1) ?_
  refine zg_sld X hX hbl hbA (i := i + 1) (by omega) (by omega) dL_law_997 ?_
  refine zg_aload_n X dL_law_998 rfl ?_
  refine zg_iload X dL_law_999 rfl ?_
  refine zg_iconst X (v := nI 2) dL_law_1001 (by decide) ?_
  refine zg_iadd X dL_law_1002 ?_
  refine zg_top (lw_add i 2) ?_
  refine zg_sld X hX hbl hbA (i := i + 2) (by omega) (by omega) dL_law_1003 ?_
  refine zg_aload_n X dL_law_1004 rfl ?_
  refine zg_lawS X (k_L_use l hfl D adC T σ hV (xs (i + 1)) (xs (i + 2)) aL f) (lh_S gL_law_L_use) rfl rfl rfl qd_L_use rfl ⟨Nat.le_of_ble_eq_true rfl, Nat.le_of_ble_eq_true rfl⟩ rfl (Nat.le_of_ble_eq_true rfl) ⟨by show _ ≤ 603072; omega, by show _ ≤ 7215210; omega⟩ dL_law_1005 (fun v u f1 hl => ?_)
  refine zg_istore X dL_law_1008 (by decide) ?_
  refine zg_aload_n X dL_law_1010 rfl ?_
  refine zg_aload_n X dL_law_1011 rfl ?_
  refine zg_iload X dL_law_1012 rfl ?_
  refine zg_iconst X (v := nI 1) dL_law_1014 (by decide) ?_
  refine zg_iadd X dL_law_1015 ?_
  refine zg_top (lw_add i 1) ?_
  refine zg_sld X hX hbl hbA (i := i + 1) (by omega) (by omega) dL_law_1016 ?_
  refine zg_aload_n X dL_law_1017 rfl ?_
  refine zg_iload X dL_law_1018 rfl ?_
  refine zg_iconst X (v := nI 2) dL_law_1020 (by decide) ?_
  refine zg_iadd X dL_law_1021 ?_
  refine zg_top (lw_add i 2) ?_
  refine zg_sld X hX hbl hbA (i := i + 2) (by omega) (by omega) dL_law_1022 ?_
  refine zg_lawMi X (k_X7_use l D adM T σ hV.1.1.1 (xs (i + 1)) (xs (i + 2))) (lh_m gL_law_X7_use) rfl rfl rfl qv_X7_use rfl ⟨Nat.le_of_ble_eq_true rfl, Nat.le_of_ble_eq_true rfl⟩ rfl (Nat.le_of_ble_eq_true rfl) ⟨by show _ ≤ 603072; omega, by show _ ≤ 7215210; omega⟩ dL_law_1023 (fun b1 w1 h1 => ?_)
  obtain ⟨t1, hm, rfl⟩ := h1
  refine ⟨t1, rfl, ?_⟩
  obtain ⟨e8, hf0, hC0, hVt⟩ := lw_agree (by decide +kernel) (fun v0 s0 h => zV_use hV h) hV hl hm
  have hCC : wC adC T u = wC adC T t1 := hC0 adC T
  refine zg_istore X dL_law_1026 (by decide) ?_
  refine zg_aload_n X dL_law_1028 rfl ?_
  refine zg_lawMi X (k_X7_thrown l D adM T t1) (lh_m gL_law_X7_thrown) rfl rfl rfl qv_X7_thrown rfl ⟨Nat.le_of_ble_eq_true rfl, Nat.le_of_ble_eq_true rfl⟩ rfl (Nat.le_of_ble_eq_true rfl) ⟨by show _ ≤ 603072; omega, by show _ ≤ 7215210; omega⟩ dL_law_1029 (fun b2 w2 h2 => ?_)
  obtain ⟨rfl, rfl⟩ := h2
  refine ⟨t1, rfl, ?_⟩
  refine zg_iload X dL_law_1032 rfl ?_
  refine zg_icmp_eq X dL_law_1034 (tgt := 1039) (by decide) (fun _ => ?_) (fun c9 => absurd e8 c9)
  refine zg_iload X dL_law_1039 rfl ?_
  refine zg_if_ne X dL_law_1041 (tgt := 1056) (by decide) (fun _ => ?_) (fun cv => ?_)
  · skip
    exact zg_goto X dL_law_1056 (tgt := 3268) (by decide) (lw_k ⟨rfl, rfl, rfl, rfl, rfl, rfl, trivial⟩ hCC (by omega) (by omega) (k t1 f1 g hVt))
  · skip
    refine zg_aload_n X dL_law_1044 rfl ?_
    refine zg_iconst X (v := 0) dL_law_1045 (by decide) ?_
    refine zg_lald X (q0 := 55) (t0 := 3) (n := 1) (f := f1) rfl rfl (vp_in_nI (n := 0) (N := 1) (by decide) (by decide)) dL_law_1046 ?_
    refine zg_iload X dL_law_1047 rfl ?_
    refine zg_i2l X dL_law_1049 ?_
    refine zg_lcmp X dL_law_1050 ?_
    refine zg_if_eq X dL_law_1051 (tgt := 1056) (by decide) (fun _ => ?_) (fun c9 => absurd (lw_cmp (hf0 cv)) c9)
    exact zg_goto X dL_law_1056 (tgt := 3268) (by decide) (lw_k ⟨rfl, rfl, rfl, rfl, rfl, rfl, trivial⟩ hCC (by omega) (by omega) (k t1 f1 g hVt))
set_option maxHeartbeats 4000000 in
theorem lcase_11 (X : zC p s m #[Value.ref b] meth c cL_law 9 (wsLR ++ lwH) RL D (zT T) A) (hfl : l.stackTraces = false) (hX : va_X b L xs s s.heap) (hbl : b < s.heap.size) (hbA : ¬ A b) (hL : L ≤ 2048) (hi : i + 4 ≤ L) (hV : zV σ) (hc : cells + 4 ≤ 603072) (hs : slots + 24 ≤ 7215210) (k : ∀ (t : ZS) (f' : Nat → Int64) (g' : Nat → UInt64), zV t → zG p l e room_1 s m #[Value.ref b] below meth c D 9 A (cells + 4) (slots + 24) Q (wL adC adM aL aD T t t f' g') 3268 (lw0 b adC adM aL aD i) []) : zG p l e room_1 s m #[Value.ref b] below meth c D 9 A cells slots Q (wL adC adM aL aD T σ σ f g) 1059 (lw0 b adC adM aL aD i) [] := by
  refine zg_aload_n X dL_law_1059 rfl ?_
  refine zg_aload_n X dL_law_1060 rfl ?_
  refine zg_iload X dL_law_1061 rfl ?_
  refine zg_iconst X (v := nI 1) dL_law_1063 (by decide) ?_
  refine zg_iadd X dL_law_1064 ?_
  refine zg_top (lw_add i 1) ?_
  refine zg_sld X hX hbl hbA (i := i + 1) (by omega) (by omega) dL_law_1065 ?_
  refine zg_aload_n X dL_law_1066 rfl ?_
  refine zg_lawS X (k_L_pass l hfl D adC T σ hV (xs (i + 1)) aL f) (lh_S gL_law_L_pass) rfl rfl rfl qd_L_pass rfl ⟨Nat.le_of_ble_eq_true rfl, Nat.le_of_ble_eq_true rfl⟩ rfl (Nat.le_of_ble_eq_true rfl) ⟨by show _ ≤ 603072; omega, by show _ ≤ 7215210; omega⟩ dL_law_1067 (fun v u f1 hl => ?_)
  refine zg_istore X dL_law_1070 (by decide) ?_
  refine zg_aload_n X dL_law_1072 rfl ?_
  refine zg_aload_n X dL_law_1073 rfl ?_
  refine zg_iload X dL_law_1074 rfl ?_
  refine zg_iconst X (v := nI 1) dL_law_1076 (by decide) ?_
  refine zg_iadd X dL_law_1077 ?_
  refine zg_top (lw_add i 1) ?_
  refine zg_sld X hX hbl hbA (i := i + 1) (by omega) (by omega) dL_law_1078 ?_
  refine zg_lawMi X (k_X7_pass l D adM T σ hV.1.1.1 (xs (i + 1)) hV.1.1.2.1 hV.1.1.2.2 hV.2) (lh_m gL_law_X7_pass) rfl rfl rfl qv_X7_pass rfl ⟨Nat.le_of_ble_eq_true rfl, Nat.le_of_ble_eq_true rfl⟩ rfl (Nat.le_of_ble_eq_true rfl) ⟨by show _ ≤ 603072; omega, by show _ ≤ 7215210; omega⟩ dL_law_1079 (fun b1 w1 h1 => ?_)
  obtain ⟨t1, hm, rfl⟩ := h1
  refine ⟨t1, rfl, ?_⟩
  obtain ⟨e8, hf0, hC0, hVt⟩ := lw_agree (by decide +kernel) (fun v0 s0 h => zV_pass hV h) hV hl hm
  have hCC : wC adC T u = wC adC T t1 := hC0 adC T
  refine zg_istore X dL_law_1082 (by decide) ?_
  refine zg_aload_n X dL_law_1084 rfl ?_
  refine zg_lawMi X (k_X7_thrown l D adM T t1) (lh_m gL_law_X7_thrown) rfl rfl rfl qv_X7_thrown rfl ⟨Nat.le_of_ble_eq_true rfl, Nat.le_of_ble_eq_true rfl⟩ rfl (Nat.le_of_ble_eq_true rfl) ⟨by show _ ≤ 603072; omega, by show _ ≤ 7215210; omega⟩ dL_law_1085 (fun b2 w2 h2 => ?_)
  obtain ⟨rfl, rfl⟩ := h2
  refine ⟨t1, rfl, ?_⟩
  refine zg_iload X dL_law_1088 rfl ?_
  refine zg_icmp_eq X dL_law_1090 (tgt := 1095) (by decide) (fun _ => ?_) (fun c9 => absurd e8 c9)
  refine zg_iload X dL_law_1095 rfl ?_
  refine zg_if_ne X dL_law_1097 (tgt := 1112) (by decide) (fun _ => ?_) (fun cv => ?_)
  · skip
    exact zg_goto X dL_law_1112 (tgt := 3268) (by decide) (lw_k ⟨rfl, rfl, rfl, rfl, rfl, rfl, trivial⟩ hCC (by omega) (by omega) (k t1 f1 g hVt))
  · skip
    refine zg_aload_n X dL_law_1100 rfl ?_
    refine zg_iconst X (v := 0) dL_law_1101 (by decide) ?_
    refine zg_lald X (q0 := 55) (t0 := 3) (n := 1) (f := f1) rfl rfl (vp_in_nI (n := 0) (N := 1) (by decide) (by decide)) dL_law_1102 ?_
    refine zg_iload X dL_law_1103 rfl ?_
    refine zg_i2l X dL_law_1105 ?_
    refine zg_lcmp X dL_law_1106 ?_
    refine zg_if_eq X dL_law_1107 (tgt := 1112) (by decide) (fun _ => ?_) (fun c9 => absurd (lw_cmp (hf0 cv)) c9)
    exact zg_goto X dL_law_1112 (tgt := 3268) (by decide) (lw_k ⟨rfl, rfl, rfl, rfl, rfl, rfl, trivial⟩ hCC (by omega) (by omega) (k t1 f1 g hVt))
set_option maxHeartbeats 4000000 in
theorem lcase_12 (X : zC p s m #[Value.ref b] meth c cL_law 9 (wsLR ++ lwH) RL D (zT T) A) (hfl : l.stackTraces = false) (hX : va_X b L xs s s.heap) (hbl : b < s.heap.size) (hbA : ¬ A b) (hL : L ≤ 2048) (hi : i + 4 ≤ L) (hV : zV σ) (hc : cells + 4 ≤ 603072) (hs : slots + 24 ≤ 7215210) (k : ∀ (t : ZS) (f' : Nat → Int64) (g' : Nat → UInt64), zV t → zG p l e room_1 s m #[Value.ref b] below meth c D 9 A (cells + 4) (slots + 24) Q (wL adC adM aL aD T t t f' g') 3268 (lw0 b adC adM aL aD i) []) : zG p l e room_1 s m #[Value.ref b] below meth c D 9 A cells slots Q (wL adC adM aL aD T σ σ f g) 1115 (lw0 b adC adM aL aD i) [] := by
  refine zg_aload_n X dL_law_1115 rfl ?_
  refine zg_aload_n X dL_law_1116 rfl ?_
  refine zg_iload X dL_law_1117 rfl ?_
  refine zg_iconst X (v := nI 1) dL_law_1119 (by decide) ?_
  refine zg_iadd X dL_law_1120 ?_
  refine zg_top (lw_add i 1) ?_
  refine zg_sld X hX hbl hbA (i := i + 1) (by omega) (by omega) dL_law_1121 ?_
  refine zg_aload_n X dL_law_1122 rfl ?_
  refine zg_lawS X (k_L_setLimit l hfl D adC T σ hV (xs (i + 1)) aL f) (lh_S gL_law_L_setLimit) rfl rfl rfl qd_L_setLimit rfl ⟨Nat.le_of_ble_eq_true rfl, Nat.le_of_ble_eq_true rfl⟩ rfl (Nat.le_of_ble_eq_true rfl) ⟨by show _ ≤ 603072; omega, by show _ ≤ 7215210; omega⟩ dL_law_1123 (fun v u f1 hl => ?_)
  refine zg_istore X dL_law_1126 (by decide) ?_
  refine zg_aload_n X dL_law_1128 rfl ?_
  refine zg_aload_n X dL_law_1129 rfl ?_
  refine zg_iload X dL_law_1130 rfl ?_
  refine zg_iconst X (v := nI 1) dL_law_1132 (by decide) ?_
  refine zg_iadd X dL_law_1133 ?_
  refine zg_top (lw_add i 1) ?_
  refine zg_sld X hX hbl hbA (i := i + 1) (by omega) (by omega) dL_law_1134 ?_
  refine zg_lawMi X (k_X7_setLimit l D adM T σ hV.1.1.1 (xs (i + 1))) (lh_m gL_law_X7_setLimit) rfl rfl rfl qv_X7_setLimit rfl ⟨Nat.le_of_ble_eq_true rfl, Nat.le_of_ble_eq_true rfl⟩ rfl (Nat.le_of_ble_eq_true rfl) ⟨by show _ ≤ 603072; omega, by show _ ≤ 7215210; omega⟩ dL_law_1135 (fun b1 w1 h1 => ?_)
  obtain ⟨t1, hm, rfl⟩ := h1
  refine ⟨t1, rfl, ?_⟩
  obtain ⟨e8, hf0, hC0, hVt⟩ := lw_agree (by decide +kernel) (fun v0 s0 h => zV_setLimit hV h) hV hl hm
  have hCC : wC adC T u = wC adC T t1 := hC0 adC T
  refine zg_istore X dL_law_1138 (by decide) ?_
  refine zg_aload_n X dL_law_1140 rfl ?_
  refine zg_lawMi X (k_X7_thrown l D adM T t1) (lh_m gL_law_X7_thrown) rfl rfl rfl qv_X7_thrown rfl ⟨Nat.le_of_ble_eq_true rfl, Nat.le_of_ble_eq_true rfl⟩ rfl (Nat.le_of_ble_eq_true rfl) ⟨by show _ ≤ 603072; omega, by show _ ≤ 7215210; omega⟩ dL_law_1141 (fun b2 w2 h2 => ?_)
  obtain ⟨rfl, rfl⟩ := h2
  refine ⟨t1, rfl, ?_⟩
  refine zg_iload X dL_law_1144 rfl ?_
  refine zg_icmp_eq X dL_law_1146 (tgt := 1151) (by decide) (fun _ => ?_) (fun c9 => absurd e8 c9)
  refine zg_iload X dL_law_1151 rfl ?_
  refine zg_if_ne X dL_law_1153 (tgt := 1168) (by decide) (fun _ => ?_) (fun cv => ?_)
  · skip
    exact zg_goto X dL_law_1168 (tgt := 3268) (by decide) (lw_k ⟨rfl, rfl, rfl, rfl, rfl, rfl, trivial⟩ hCC (by omega) (by omega) (k t1 f1 g hVt))
  · skip
    refine zg_aload_n X dL_law_1156 rfl ?_
    refine zg_iconst X (v := 0) dL_law_1157 (by decide) ?_
    refine zg_lald X (q0 := 55) (t0 := 3) (n := 1) (f := f1) rfl rfl (vp_in_nI (n := 0) (N := 1) (by decide) (by decide)) dL_law_1158 ?_
    refine zg_iload X dL_law_1159 rfl ?_
    refine zg_i2l X dL_law_1161 ?_
    refine zg_lcmp X dL_law_1162 ?_
    refine zg_if_eq X dL_law_1163 (tgt := 1168) (by decide) (fun _ => ?_) (fun c9 => absurd (lw_cmp (hf0 cv)) c9)
    exact zg_goto X dL_law_1168 (tgt := 3268) (by decide) (lw_k ⟨rfl, rfl, rfl, rfl, rfl, rfl, trivial⟩ hCC (by omega) (by omega) (k t1 f1 g hVt))
set_option maxHeartbeats 4000000 in
theorem lcase_13 (X : zC p s m #[Value.ref b] meth c cL_law 9 (wsLR ++ lwH) RL D (zT T) A) (hfl : l.stackTraces = false) (hX : va_X b L xs s s.heap) (hbl : b < s.heap.size) (hbA : ¬ A b) (hL : L ≤ 2048) (hi : i + 4 ≤ L) (hV : zV σ) (hc : cells + 4 ≤ 603072) (hs : slots + 24 ≤ 7215210) (k : ∀ (t : ZS) (f' : Nat → Int64) (g' : Nat → UInt64), zV t → zG p l e room_1 s m #[Value.ref b] below meth c D 9 A (cells + 4) (slots + 24) Q (wL adC adM aL aD T t t f' g') 3268 (lw0 b adC adM aL aD i) []) : zG p l e room_1 s m #[Value.ref b] below meth c D 9 A cells slots Q (wL adC adM aL aD T σ σ f g) 1171 (lw0 b adC adM aL aD i) [] := by
  refine zg_aload_n X dL_law_1171 rfl ?_
  refine zg_aload_n X dL_law_1172 rfl ?_
  refine zg_iload X dL_law_1173 rfl ?_
  refine zg_iconst X (v := nI 1) dL_law_1175 (by decide) ?_
  refine zg_iadd X dL_law_1176 ?_
  refine zg_top (lw_add i 1) ?_
  refine zg_sld X hX hbl hbA (i := i + 1) (by omega) (by omega) dL_law_1177 ?_
  refine zg_aload_n X dL_law_1178 rfl ?_
  refine zg_lawS X (k_L_setGrace l hfl D adC T σ hV (xs (i + 1)) aL f) (lh_S gL_law_L_setGrace) rfl rfl rfl qd_L_setGrace rfl ⟨Nat.le_of_ble_eq_true rfl, Nat.le_of_ble_eq_true rfl⟩ rfl (Nat.le_of_ble_eq_true rfl) ⟨by show _ ≤ 603072; omega, by show _ ≤ 7215210; omega⟩ dL_law_1179 (fun v u f1 hl => ?_)
  refine zg_istore X dL_law_1182 (by decide) ?_
  refine zg_aload_n X dL_law_1184 rfl ?_
  refine zg_aload_n X dL_law_1185 rfl ?_
  refine zg_iload X dL_law_1186 rfl ?_
  refine zg_iconst X (v := nI 1) dL_law_1188 (by decide) ?_
  refine zg_iadd X dL_law_1189 ?_
  refine zg_top (lw_add i 1) ?_
  refine zg_sld X hX hbl hbA (i := i + 1) (by omega) (by omega) dL_law_1190 ?_
  refine zg_lawMi X (k_X7_setGrace l D adM T σ hV.1.1.1 (xs (i + 1))) (lh_m gL_law_X7_setGrace) rfl rfl rfl qv_X7_setGrace rfl ⟨Nat.le_of_ble_eq_true rfl, Nat.le_of_ble_eq_true rfl⟩ rfl (Nat.le_of_ble_eq_true rfl) ⟨by show _ ≤ 603072; omega, by show _ ≤ 7215210; omega⟩ dL_law_1191 (fun b1 w1 h1 => ?_)
  obtain ⟨t1, hm, rfl⟩ := h1
  refine ⟨t1, rfl, ?_⟩
  obtain ⟨e8, hf0, hC0, hVt⟩ := lw_agree (by decide +kernel) (fun v0 s0 h => zV_setGrace hV h) hV hl hm
  have hCC : wC adC T u = wC adC T t1 := hC0 adC T
  refine zg_istore X dL_law_1194 (by decide) ?_
  refine zg_aload_n X dL_law_1196 rfl ?_
  refine zg_lawMi X (k_X7_thrown l D adM T t1) (lh_m gL_law_X7_thrown) rfl rfl rfl qv_X7_thrown rfl ⟨Nat.le_of_ble_eq_true rfl, Nat.le_of_ble_eq_true rfl⟩ rfl (Nat.le_of_ble_eq_true rfl) ⟨by show _ ≤ 603072; omega, by show _ ≤ 7215210; omega⟩ dL_law_1197 (fun b2 w2 h2 => ?_)
  obtain ⟨rfl, rfl⟩ := h2
  refine ⟨t1, rfl, ?_⟩
  refine zg_iload X dL_law_1200 rfl ?_
  refine zg_icmp_eq X dL_law_1202 (tgt := 1207) (by decide) (fun _ => ?_) (fun c9 => absurd e8 c9)
  refine zg_iload X dL_law_1207 rfl ?_
  refine zg_if_ne X dL_law_1209 (tgt := 1224) (by decide) (fun _ => ?_) (fun cv => ?_)
  · skip
    exact zg_goto X dL_law_1224 (tgt := 3268) (by decide) (lw_k ⟨rfl, rfl, rfl, rfl, rfl, rfl, trivial⟩ hCC (by omega) (by omega) (k t1 f1 g hVt))
  · skip
    refine zg_aload_n X dL_law_1212 rfl ?_
    refine zg_iconst X (v := 0) dL_law_1213 (by decide) ?_
    refine zg_lald X (q0 := 55) (t0 := 3) (n := 1) (f := f1) rfl rfl (vp_in_nI (n := 0) (N := 1) (by decide) (by decide)) dL_law_1214 ?_
    refine zg_iload X dL_law_1215 rfl ?_
    refine zg_i2l X dL_law_1217 ?_
    refine zg_lcmp X dL_law_1218 ?_
    refine zg_if_eq X dL_law_1219 (tgt := 1224) (by decide) (fun _ => ?_) (fun c9 => absurd (lw_cmp (hf0 cv)) c9)
    exact zg_goto X dL_law_1224 (tgt := 3268) (by decide) (lw_k ⟨rfl, rfl, rfl, rfl, rfl, rfl, trivial⟩ hCC (by omega) (by omega) (k t1 f1 g hVt))
end LC
