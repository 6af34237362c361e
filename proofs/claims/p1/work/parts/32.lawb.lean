set_option maxHeartbeats 4000000 in
set_option maxRecDepth 100000 in
theorem law_corner (G : sv_G) (P : sv_P) (b m o q : Nat) (I I1 : sv_h → Nat → Prop) (hL : G.2.2.2.2.2.1 ≤ 4609) (hq0 : q + 9 ≤ G.2.2.2.2.2.1) (hIn : sv_In G b m o I) (H : OpZ G mX12_corner mX13_corner b m o ["java/lang/IndexOutOfBoundsException", "java/lang/IllegalStateException", "java/lang/IllegalArgumentException"] [.int (G.2.2.2.2.2.2 (nI q + 1).toNatClampNeg), .long (((G.2.2.2.2.2.2 (nI q + 2).toNatClampNeg).toInt64 <<< ((32 : Int32).toInt64 &&& 63)) ||| ((G.2.2.2.2.2.2 (nI q + 3).toNatClampNeg).toInt64 &&& 4294967295)), .long (((G.2.2.2.2.2.2 (nI q + 4).toNatClampNeg).toInt64 <<< ((32 : Int32).toInt64 &&& 63)) ||| ((G.2.2.2.2.2.2 (nI q + 5).toNatClampNeg).toInt64 &&& 4294967295))] I I1) (h : sv_h) (z ce sl : Nat) (hce : ce + 6 ≤ 600002) (hsl : sl + 100 ≤ 7302198) (hend : ∀ (h : sv_h) (z : Nat), I1 h z → V G mL_law P 1428 [(4, .int (nI q)), (3, .ref o), (2, .ref m), (1, .ref b), (0, .ref (G.2.2.2.2.1 100))] [] h z (ce + 6) (sl + 100)) (hi : I h z) : V G mL_law P 303 [(4, .int (nI q)), (3, .ref o), (2, .ref m), (1, .ref b), (0, .ref (G.2.2.2.2.1 100))] [] h z ce sl := by
  obtain ⟨⟨fsb, hb⟩, ⟨fsm, hm⟩, ⟨f0, ho⟩⟩ := hIn h z hi
  refine v_aload_n dL_law_303 rfl 3 rfl ?_
  refine v_aload_n dL_law_304 rfl 4 rfl ?_
  refine v_iload dL_law_305 0 rfl ?_
  refine v_iconst (v := 1) dL_law_307 (by decide) ?_
  refine v_iadd dL_law_308 ?_
  refine v_sld dL_law_309 (sv_sin (a := q) (c := 1) (by omega) (by omega)) ?_
  refine v_aload_n dL_law_310 rfl 4 rfl ?_
  refine v_iload dL_law_311 0 rfl ?_
  refine v_iconst (v := 2) dL_law_313 (by decide) ?_
  refine v_iadd dL_law_314 ?_
  refine v_sld dL_law_315 (sv_sin (a := q) (c := 2) (by omega) (by omega)) ?_
  refine v_i2l dL_law_316 rfl ?_
  refine v_bipush (v := 32) dL_law_317 (by decide) ?_
  refine v_lshl dL_law_319 rfl ?_
  refine v_aload_n dL_law_320 rfl 4 rfl ?_
  refine v_iload dL_law_321 0 rfl ?_
  refine v_iconst (v := 3) dL_law_323 (by decide) ?_
  refine v_iadd dL_law_324 ?_
  refine v_sld dL_law_325 (sv_sin (a := q) (c := 3) (by omega) (by omega)) ?_
  refine v_i2l dL_law_326 rfl ?_
  refine v_ldc2 (v := (4294967295)) (by decide +kernel) dL_law_327 ?_
  refine v_land dL_law_330 ?_
  refine v_lor dL_law_331 ?_
  refine v_aload_n dL_law_332 rfl 4 rfl ?_
  refine v_iload dL_law_333 0 rfl ?_
  refine v_iconst (v := 4) dL_law_335 (by decide) ?_
  refine v_iadd dL_law_336 ?_
  refine v_sld dL_law_337 (sv_sin (a := q) (c := 4) (by omega) (by omega)) ?_
  refine v_i2l dL_law_338 rfl ?_
  refine v_bipush (v := 32) dL_law_339 (by decide) ?_
  refine v_lshl dL_law_341 rfl ?_
  refine v_aload_n dL_law_342 rfl 4 rfl ?_
  refine v_iload dL_law_343 0 rfl ?_
  refine v_iconst (v := 5) dL_law_345 (by decide) ?_
  refine v_iadd dL_law_346 ?_
  refine v_sld dL_law_347 (sv_sin (a := q) (c := 5) (by omega) (by omega)) ?_
  refine v_i2l dL_law_348 rfl ?_
  refine v_ldc2 (v := (4294967295)) (by decide +kernel) dL_law_349 ?_
  refine v_land dL_law_352 ?_
  refine v_lor dL_law_353 ?_
  refine v_aload_n dL_law_354 rfl 1 rfl ?_
  obtain ⟨Qr, Qx, ct, hR, hX⟩ := H h z hi
  refine v_callSW (M' := mL_corner) (n := 5) (As := [_, _, _, _, _]) gc_103 rfl (by decide +kernel) ⟨(Nat.le_of_ble_eq_true rfl), (Nat.le_of_ble_eq_true rfl)⟩ dL_law_355 rfl ⟨by show ce + 6 ≤ 600002; omega, by show sl + 100 ≤ 7302198; omega⟩ (Nat.le_of_ble_eq_true rfl) rfl (w_corner G h z b o _ _ _ fsb f0 Qr Qx hb ho ct (fun v h1 z1 hq => by obtain ⟨w, e1, ⟨f, e2⟩, _⟩ := hR v h1 z1 hq; exact ⟨w, f, e1, e2⟩) (fun E h1 z1 hq => by obtain ⟨j, e1, _⟩ := hX E h1 z1 hq; exact ((sv_n3 e1).elim (fun q => Or.inl q.1) (fun q => q.elim (fun q => Or.inr (Or.inl q.1)) (fun q => Or.inr (Or.inr q.1)))))) (fun v h1 z1 hq => ?_)
  rcases hq with ⟨rfl, w, h2, g, hqr, ho1, hg0, hfr⟩ | ⟨rfl, hqx⟩ | ⟨rfl, hqx⟩ | ⟨rfl, hqx⟩
  · obtain ⟨w9, e1, -, hmo, ⟨fsm1, hm1⟩, hK⟩ := hR _ _ _ hqr
    cases e1
    obtain ⟨Q2, ct2, hQ2⟩ := hK h1 g ho1 hg0 hfr
    refine v_istore (L' := [(5, _), (4, _), (3, _), (2, _), (1, _), (0, _)]) dL_law_358 (Nat.le_of_ble_eq_true rfl) rfl ?_
    refine v_aload_n dL_law_360 rfl 3 rfl ?_
    refine v_aload_n dL_law_361 rfl 5 rfl ?_
    refine v_iload dL_law_362 1 rfl ?_
    refine v_iconst (v := 1) dL_law_364 (by decide) ?_
    refine v_iadd dL_law_365 ?_
    refine v_sld dL_law_366 (sv_sin (a := q) (c := 1) (by omega) (by omega)) ?_
    refine v_aload_n dL_law_367 rfl 5 rfl ?_
    refine v_iload dL_law_368 1 rfl ?_
    refine v_iconst (v := 2) dL_law_370 (by decide) ?_
    refine v_iadd dL_law_371 ?_
    refine v_sld dL_law_372 (sv_sin (a := q) (c := 2) (by omega) (by omega)) ?_
    refine v_i2l dL_law_373 rfl ?_
    refine v_bipush (v := 32) dL_law_374 (by decide) ?_
    refine v_lshl dL_law_376 rfl ?_
    refine v_aload_n dL_law_377 rfl 5 rfl ?_
    refine v_iload dL_law_378 1 rfl ?_
    refine v_iconst (v := 3) dL_law_380 (by decide) ?_
    refine v_iadd dL_law_381 ?_
    refine v_sld dL_law_382 (sv_sin (a := q) (c := 3) (by omega) (by omega)) ?_
    refine v_i2l dL_law_383 rfl ?_
    refine v_ldc2 (v := (4294967295)) (by decide +kernel) dL_law_384 ?_
    refine v_land dL_law_387 ?_
    refine v_lor dL_law_388 ?_
    refine v_aload_n dL_law_389 rfl 5 rfl ?_
    refine v_iload dL_law_390 1 rfl ?_
    refine v_iconst (v := 4) dL_law_392 (by decide) ?_
    refine v_iadd dL_law_393 ?_
    refine v_sld dL_law_394 (sv_sin (a := q) (c := 4) (by omega) (by omega)) ?_
    refine v_i2l dL_law_395 rfl ?_
    refine v_bipush (v := 32) dL_law_396 (by decide) ?_
    refine v_lshl dL_law_398 rfl ?_
    refine v_aload_n dL_law_399 rfl 5 rfl ?_
    refine v_iload dL_law_400 1 rfl ?_
    refine v_iconst (v := 5) dL_law_402 (by decide) ?_
    refine v_iadd dL_law_403 ?_
    refine v_sld dL_law_404 (sv_sin (a := q) (c := 5) (by omega) (by omega)) ?_
    refine v_i2l dL_law_405 rfl ?_
    refine v_ldc2 (v := (4294967295)) (by decide +kernel) dL_law_406 ?_
    refine v_land dL_law_409 ?_
    refine v_lor dL_law_410 ?_
    refine v_callV (M' := mX13_corner) (n := 3) (As := [_, _, _]) (ci := 11) (r := (RX13, TX13, 71)) gc_106 rfl (by decide +kernel) ⟨(Nat.le_of_ble_eq_true rfl), (Nat.le_of_ble_eq_true rfl)⟩ rfl rfl dL_law_411 rfl ⟨by show ce + 6 + 0 ≤ 600002; omega, by show sl + 100 + 0 ≤ 7302198; omega⟩ (Nat.le_of_ble_eq_true rfl) ((hfr _ hmo).trans hm1) rfl ct2 (fun v2 h3 z3 hq2 => ?_)
    obtain ⟨rfl, ⟨fs3, k1, k2, k3⟩, ho3, hi3⟩ := hQ2 _ _ _ hq2
    refine v_istore (L' := [(6, _), (5, _), (4, _), (3, _), (2, _), (1, _), (0, _)]) dL_law_414 (Nat.le_of_ble_eq_true rfl) rfl ?_
    refine v_aload_n dL_law_416 rfl 4 rfl ?_
    refine v_callV (M' := mX13_thrown) (n := 0) (As := []) (ci := 11) (r := (RX13, TX13, 71)) gc_94 rfl (by decide +kernel) ⟨(Nat.le_of_ble_eq_true rfl), (Nat.le_of_ble_eq_true rfl)⟩ rfl rfl dL_law_417 rfl ⟨by show ce + 6 + 0 + 0 ≤ 600002; omega, by show sl + 100 + 0 + 0 ≤ 7302198; omega⟩ (Nat.le_of_ble_eq_true rfl) k1 rfl (m_thrown G _ _ _ fs3 k2 k1 _ k3) (fun v4 h4 z4 hq4 => ?_)
    obtain ⟨rfl, rfl, rfl⟩ := hq4
    refine v_iload dL_law_420 1 rfl ?_
    refine v_icmp_eq (tgt := 427) dL_law_422 (by decide) (fun c_422 => ?_) (fun c_422 => ?_)
    · refine v_iload dL_law_427 1 rfl ?_
      refine v_if_ne (tgt := 451) dL_law_429 (by decide) (fun c_429 => ?_) (fun c_429 => ?_)
      · exact absurd rfl c_429
      · refine v_aload_n dL_law_432 rfl 3 rfl ?_
        refine v_iconst (v := 0) dL_law_433 (by decide) ?_
        refine v_lald dL_law_434 ho3 (by rw [← nI_0]; exact vp_in_nI (by omega) (by omega)) ?_
        refine v_iload dL_law_435 0 rfl ?_
        refine v_if_eq (tgt := 444) dL_law_437 (by decide) (fun c_437 => ?_) (fun c_437 => ?_)
        · refine v_lconst (v := 0) dL_law_444 (by decide) ?_
          refine v_lcmp_eq (tgt := 451) dL_law_445 dL_law_446 (by decide) (fun c_446 => ?_) (fun c_446 => ?_)
          · refine v_goto (tgt := 1428) dL_law_451 (by decide) ?_
            refine v_sub (L' := [(4, _), (3, _), (2, _), (1, _), (0, _)]) [2, 3, 4, 5, 6] rfl ?_
            refine v_widen (ce' := ce + 6) (sl' := sl + 100) (by show ce + 6 + 0 + 0 ≤ ce + 6; omega) (by show sl + 100 + 0 + 0 ≤ sl + 100; omega) ?_
            exact hend _ _ hi3
          · exact absurd (by rw [sb_cl0, hg0]; simp [*]) c_446
        · refine v_lconst (v := 1) dL_law_440 (by decide) ?_
          refine v_goto (tgt := 445) dL_law_441 (by decide) ?_
          refine v_lcmp_eq (tgt := 451) dL_law_445 dL_law_446 (by decide) (fun c_446 => ?_) (fun c_446 => ?_)
          · refine v_goto (tgt := 1428) dL_law_451 (by decide) ?_
            refine v_sub (L' := [(4, _), (3, _), (2, _), (1, _), (0, _)]) [2, 3, 4, 5, 6] rfl ?_
            refine v_widen (ce' := ce + 6) (sl' := sl + 100) (by show ce + 6 + 0 + 0 ≤ ce + 6; omega) (by show sl + 100 + 0 + 0 ≤ sl + 100; omega) ?_
            exact hend _ _ hi3
          · exact absurd (by rw [sb_cl0, hg0]; simp [*]) c_446
    · exact absurd rfl c_422
  · obtain ⟨j, e1, ⟨fsm1, hm1⟩, Q2, ct2, hQ2⟩ := hX _ _ _ hqx
    obtain rfl : j = 0 := by
      rcases sv_n3 e1 with ⟨e2, e3⟩ | ⟨e2, e3⟩ | ⟨e2, e3⟩
      · exact e3
      · exact absurd e2 (by decide)
      · exact absurd e2 (by decide)
    refine v_istore (L' := [(5, _), (4, _), (3, _), (2, _), (1, _), (0, _)]) dL_law_358 (Nat.le_of_ble_eq_true rfl) rfl ?_
    refine v_aload_n dL_law_360 rfl 3 rfl ?_
    refine v_aload_n dL_law_361 rfl 5 rfl ?_
    refine v_iload dL_law_362 1 rfl ?_
    refine v_iconst (v := 1) dL_law_364 (by decide) ?_
    refine v_iadd dL_law_365 ?_
    refine v_sld dL_law_366 (sv_sin (a := q) (c := 1) (by omega) (by omega)) ?_
    refine v_aload_n dL_law_367 rfl 5 rfl ?_
    refine v_iload dL_law_368 1 rfl ?_
    refine v_iconst (v := 2) dL_law_370 (by decide) ?_
    refine v_iadd dL_law_371 ?_
    refine v_sld dL_law_372 (sv_sin (a := q) (c := 2) (by omega) (by omega)) ?_
    refine v_i2l dL_law_373 rfl ?_
    refine v_bipush (v := 32) dL_law_374 (by decide) ?_
    refine v_lshl dL_law_376 rfl ?_
    refine v_aload_n dL_law_377 rfl 5 rfl ?_
    refine v_iload dL_law_378 1 rfl ?_
    refine v_iconst (v := 3) dL_law_380 (by decide) ?_
    refine v_iadd dL_law_381 ?_
    refine v_sld dL_law_382 (sv_sin (a := q) (c := 3) (by omega) (by omega)) ?_
    refine v_i2l dL_law_383 rfl ?_
    refine v_ldc2 (v := (4294967295)) (by decide +kernel) dL_law_384 ?_
    refine v_land dL_law_387 ?_
    refine v_lor dL_law_388 ?_
    refine v_aload_n dL_law_389 rfl 5 rfl ?_
    refine v_iload dL_law_390 1 rfl ?_
    refine v_iconst (v := 4) dL_law_392 (by decide) ?_
    refine v_iadd dL_law_393 ?_
    refine v_sld dL_law_394 (sv_sin (a := q) (c := 4) (by omega) (by omega)) ?_
    refine v_i2l dL_law_395 rfl ?_
    refine v_bipush (v := 32) dL_law_396 (by decide) ?_
    refine v_lshl dL_law_398 rfl ?_
    refine v_aload_n dL_law_399 rfl 5 rfl ?_
    refine v_iload dL_law_400 1 rfl ?_
    refine v_iconst (v := 5) dL_law_402 (by decide) ?_
    refine v_iadd dL_law_403 ?_
    refine v_sld dL_law_404 (sv_sin (a := q) (c := 5) (by omega) (by omega)) ?_
    refine v_i2l dL_law_405 rfl ?_
    refine v_ldc2 (v := (4294967295)) (by decide +kernel) dL_law_406 ?_
    refine v_land dL_law_409 ?_
    refine v_lor dL_law_410 ?_
    refine v_callV (M' := mX13_corner) (n := 3) (As := [_, _, _]) (ci := 11) (r := (RX13, TX13, 71)) gc_106 rfl (by decide +kernel) ⟨(Nat.le_of_ble_eq_true rfl), (Nat.le_of_ble_eq_true rfl)⟩ rfl rfl dL_law_411 rfl ⟨by show ce + 6 + 0 ≤ 600002; omega, by show sl + 100 + 0 ≤ 7302198; omega⟩ (Nat.le_of_ble_eq_true rfl) hm1 rfl ct2 (fun v2 h3 z3 hq2 => ?_)
    obtain ⟨⟨w2, rfl⟩, ⟨fs3, k1, k2, k3⟩, hi3⟩ := hQ2 _ _ _ hq2
    refine v_istore (L' := [(6, _), (5, _), (4, _), (3, _), (2, _), (1, _), (0, _)]) dL_law_414 (Nat.le_of_ble_eq_true rfl) rfl ?_
    refine v_aload_n dL_law_416 rfl 4 rfl ?_
    refine v_callV (M' := mX13_thrown) (n := 0) (As := []) (ci := 11) (r := (RX13, TX13, 71)) gc_94 rfl (by decide +kernel) ⟨(Nat.le_of_ble_eq_true rfl), (Nat.le_of_ble_eq_true rfl)⟩ rfl rfl dL_law_417 rfl ⟨by show ce + 6 + 0 + 0 ≤ 600002; omega, by show sl + 100 + 0 + 0 ≤ 7302198; omega⟩ (Nat.le_of_ble_eq_true rfl) k1 rfl (m_thrown G _ _ _ fs3 k2 k1 _ k3) (fun v4 h4 z4 hq4 => ?_)
    obtain ⟨rfl, rfl, rfl⟩ := hq4
    refine v_iload dL_law_420 1 rfl ?_
    refine v_icmp_eq (tgt := 427) dL_law_422 (by decide) (fun c_422 => ?_) (fun c_422 => ?_)
    · refine v_iload dL_law_427 1 rfl ?_
      refine v_if_ne (tgt := 451) dL_law_429 (by decide) (fun c_429 => ?_) (fun c_429 => ?_)
      · refine v_goto (tgt := 1428) dL_law_451 (by decide) ?_
        refine v_sub (L' := [(4, _), (3, _), (2, _), (1, _), (0, _)]) [2, 3, 4, 5, 6] rfl ?_
        refine v_widen (ce' := ce + 6) (sl' := sl + 100) (by show ce + 6 + 0 + 0 ≤ ce + 6; omega) (by show sl + 100 + 0 + 0 ≤ sl + 100; omega) ?_
        exact hend _ _ hi3
      · exact absurd c_429 (by decide)
    · exact absurd rfl c_422
  · obtain ⟨j, e1, ⟨fsm1, hm1⟩, Q2, ct2, hQ2⟩ := hX _ _ _ hqx
    obtain rfl : j = 1 := by
      rcases sv_n3 e1 with ⟨e2, e3⟩ | ⟨e2, e3⟩ | ⟨e2, e3⟩
      · exact absurd e2 (by decide)
      · exact e3
      · exact absurd e2 (by decide)
    refine v_istore (L' := [(5, _), (4, _), (3, _), (2, _), (1, _), (0, _)]) dL_law_358 (Nat.le_of_ble_eq_true rfl) rfl ?_
    refine v_aload_n dL_law_360 rfl 3 rfl ?_
    refine v_aload_n dL_law_361 rfl 5 rfl ?_
    refine v_iload dL_law_362 1 rfl ?_
    refine v_iconst (v := 1) dL_law_364 (by decide) ?_
    refine v_iadd dL_law_365 ?_
    refine v_sld dL_law_366 (sv_sin (a := q) (c := 1) (by omega) (by omega)) ?_
    refine v_aload_n dL_law_367 rfl 5 rfl ?_
    refine v_iload dL_law_368 1 rfl ?_
    refine v_iconst (v := 2) dL_law_370 (by decide) ?_
    refine v_iadd dL_law_371 ?_
    refine v_sld dL_law_372 (sv_sin (a := q) (c := 2) (by omega) (by omega)) ?_
    refine v_i2l dL_law_373 rfl ?_
    refine v_bipush (v := 32) dL_law_374 (by decide) ?_
    refine v_lshl dL_law_376 rfl ?_
    refine v_aload_n dL_law_377 rfl 5 rfl ?_
    refine v_iload dL_law_378 1 rfl ?_
    refine v_iconst (v := 3) dL_law_380 (by decide) ?_
    refine v_iadd dL_law_381 ?_
    refine v_sld dL_law_382 (sv_sin (a := q) (c := 3) (by omega) (by omega)) ?_
    refine v_i2l dL_law_383 rfl ?_
    refine v_ldc2 (v := (4294967295)) (by decide +kernel) dL_law_384 ?_
    refine v_land dL_law_387 ?_
    refine v_lor dL_law_388 ?_
    refine v_aload_n dL_law_389 rfl 5 rfl ?_
    refine v_iload dL_law_390 1 rfl ?_
    refine v_iconst (v := 4) dL_law_392 (by decide) ?_
    refine v_iadd dL_law_393 ?_
    refine v_sld dL_law_394 (sv_sin (a := q) (c := 4) (by omega) (by omega)) ?_
    refine v_i2l dL_law_395 rfl ?_
    refine v_bipush (v := 32) dL_law_396 (by decide) ?_
    refine v_lshl dL_law_398 rfl ?_
    refine v_aload_n dL_law_399 rfl 5 rfl ?_
    refine v_iload dL_law_400 1 rfl ?_
    refine v_iconst (v := 5) dL_law_402 (by decide) ?_
    refine v_iadd dL_law_403 ?_
    refine v_sld dL_law_404 (sv_sin (a := q) (c := 5) (by omega) (by omega)) ?_
    refine v_i2l dL_law_405 rfl ?_
    refine v_ldc2 (v := (4294967295)) (by decide +kernel) dL_law_406 ?_
    refine v_land dL_law_409 ?_
    refine v_lor dL_law_410 ?_
    refine v_callV (M' := mX13_corner) (n := 3) (As := [_, _, _]) (ci := 11) (r := (RX13, TX13, 71)) gc_106 rfl (by decide +kernel) ⟨(Nat.le_of_ble_eq_true rfl), (Nat.le_of_ble_eq_true rfl)⟩ rfl rfl dL_law_411 rfl ⟨by show ce + 6 + 0 ≤ 600002; omega, by show sl + 100 + 0 ≤ 7302198; omega⟩ (Nat.le_of_ble_eq_true rfl) hm1 rfl ct2 (fun v2 h3 z3 hq2 => ?_)
    obtain ⟨⟨w2, rfl⟩, ⟨fs3, k1, k2, k3⟩, hi3⟩ := hQ2 _ _ _ hq2
    refine v_istore (L' := [(6, _), (5, _), (4, _), (3, _), (2, _), (1, _), (0, _)]) dL_law_414 (Nat.le_of_ble_eq_true rfl) rfl ?_
    refine v_aload_n dL_law_416 rfl 4 rfl ?_
    refine v_callV (M' := mX13_thrown) (n := 0) (As := []) (ci := 11) (r := (RX13, TX13, 71)) gc_94 rfl (by decide +kernel) ⟨(Nat.le_of_ble_eq_true rfl), (Nat.le_of_ble_eq_true rfl)⟩ rfl rfl dL_law_417 rfl ⟨by show ce + 6 + 0 + 0 ≤ 600002; omega, by show sl + 100 + 0 + 0 ≤ 7302198; omega⟩ (Nat.le_of_ble_eq_true rfl) k1 rfl (m_thrown G _ _ _ fs3 k2 k1 _ k3) (fun v4 h4 z4 hq4 => ?_)
    obtain ⟨rfl, rfl, rfl⟩ := hq4
    refine v_iload dL_law_420 1 rfl ?_
    refine v_icmp_eq (tgt := 427) dL_law_422 (by decide) (fun c_422 => ?_) (fun c_422 => ?_)
    · refine v_iload dL_law_427 1 rfl ?_
      refine v_if_ne (tgt := 451) dL_law_429 (by decide) (fun c_429 => ?_) (fun c_429 => ?_)
      · refine v_goto (tgt := 1428) dL_law_451 (by decide) ?_
        refine v_sub (L' := [(4, _), (3, _), (2, _), (1, _), (0, _)]) [2, 3, 4, 5, 6] rfl ?_
        refine v_widen (ce' := ce + 6) (sl' := sl + 100) (by show ce + 6 + 0 + 0 ≤ ce + 6; omega) (by show sl + 100 + 0 + 0 ≤ sl + 100; omega) ?_
        exact hend _ _ hi3
      · exact absurd c_429 (by decide)
    · exact absurd rfl c_422
  · obtain ⟨j, e1, ⟨fsm1, hm1⟩, Q2, ct2, hQ2⟩ := hX _ _ _ hqx
    obtain rfl : j = 2 := by
      rcases sv_n3 e1 with ⟨e2, e3⟩ | ⟨e2, e3⟩ | ⟨e2, e3⟩
      · exact absurd e2 (by decide)
      · exact absurd e2 (by decide)
      · exact e3
    refine v_istore (L' := [(5, _), (4, _), (3, _), (2, _), (1, _), (0, _)]) dL_law_358 (Nat.le_of_ble_eq_true rfl) rfl ?_
    refine v_aload_n dL_law_360 rfl 3 rfl ?_
    refine v_aload_n dL_law_361 rfl 5 rfl ?_
    refine v_iload dL_law_362 1 rfl ?_
    refine v_iconst (v := 1) dL_law_364 (by decide) ?_
    refine v_iadd dL_law_365 ?_
    refine v_sld dL_law_366 (sv_sin (a := q) (c := 1) (by omega) (by omega)) ?_
    refine v_aload_n dL_law_367 rfl 5 rfl ?_
    refine v_iload dL_law_368 1 rfl ?_
    refine v_iconst (v := 2) dL_law_370 (by decide) ?_
    refine v_iadd dL_law_371 ?_
    refine v_sld dL_law_372 (sv_sin (a := q) (c := 2) (by omega) (by omega)) ?_
    refine v_i2l dL_law_373 rfl ?_
    refine v_bipush (v := 32) dL_law_374 (by decide) ?_
    refine v_lshl dL_law_376 rfl ?_
    refine v_aload_n dL_law_377 rfl 5 rfl ?_
    refine v_iload dL_law_378 1 rfl ?_
    refine v_iconst (v := 3) dL_law_380 (by decide) ?_
    refine v_iadd dL_law_381 ?_
    refine v_sld dL_law_382 (sv_sin (a := q) (c := 3) (by omega) (by omega)) ?_
    refine v_i2l dL_law_383 rfl ?_
    refine v_ldc2 (v := (4294967295)) (by decide +kernel) dL_law_384 ?_
    refine v_land dL_law_387 ?_
    refine v_lor dL_law_388 ?_
    refine v_aload_n dL_law_389 rfl 5 rfl ?_
    refine v_iload dL_law_390 1 rfl ?_
    refine v_iconst (v := 4) dL_law_392 (by decide) ?_
    refine v_iadd dL_law_393 ?_
    refine v_sld dL_law_394 (sv_sin (a := q) (c := 4) (by omega) (by omega)) ?_
    refine v_i2l dL_law_395 rfl ?_
    refine v_bipush (v := 32) dL_law_396 (by decide) ?_
    refine v_lshl dL_law_398 rfl ?_
    refine v_aload_n dL_law_399 rfl 5 rfl ?_
    refine v_iload dL_law_400 1 rfl ?_
    refine v_iconst (v := 5) dL_law_402 (by decide) ?_
    refine v_iadd dL_law_403 ?_
    refine v_sld dL_law_404 (sv_sin (a := q) (c := 5) (by omega) (by omega)) ?_
    refine v_i2l dL_law_405 rfl ?_
    refine v_ldc2 (v := (4294967295)) (by decide +kernel) dL_law_406 ?_
    refine v_land dL_law_409 ?_
    refine v_lor dL_law_410 ?_
    refine v_callV (M' := mX13_corner) (n := 3) (As := [_, _, _]) (ci := 11) (r := (RX13, TX13, 71)) gc_106 rfl (by decide +kernel) ⟨(Nat.le_of_ble_eq_true rfl), (Nat.le_of_ble_eq_true rfl)⟩ rfl rfl dL_law_411 rfl ⟨by show ce + 6 + 0 ≤ 600002; omega, by show sl + 100 + 0 ≤ 7302198; omega⟩ (Nat.le_of_ble_eq_true rfl) hm1 rfl ct2 (fun v2 h3 z3 hq2 => ?_)
    obtain ⟨⟨w2, rfl⟩, ⟨fs3, k1, k2, k3⟩, hi3⟩ := hQ2 _ _ _ hq2
    refine v_istore (L' := [(6, _), (5, _), (4, _), (3, _), (2, _), (1, _), (0, _)]) dL_law_414 (Nat.le_of_ble_eq_true rfl) rfl ?_
    refine v_aload_n dL_law_416 rfl 4 rfl ?_
    refine v_callV (M' := mX13_thrown) (n := 0) (As := []) (ci := 11) (r := (RX13, TX13, 71)) gc_94 rfl (by decide +kernel) ⟨(Nat.le_of_ble_eq_true rfl), (Nat.le_of_ble_eq_true rfl)⟩ rfl rfl dL_law_417 rfl ⟨by show ce + 6 + 0 + 0 ≤ 600002; omega, by show sl + 100 + 0 + 0 ≤ 7302198; omega⟩ (Nat.le_of_ble_eq_true rfl) k1 rfl (m_thrown G _ _ _ fs3 k2 k1 _ k3) (fun v4 h4 z4 hq4 => ?_)
    obtain ⟨rfl, rfl, rfl⟩ := hq4
    refine v_iload dL_law_420 1 rfl ?_
    refine v_icmp_eq (tgt := 427) dL_law_422 (by decide) (fun c_422 => ?_) (fun c_422 => ?_)
    · refine v_iload dL_law_427 1 rfl ?_
      refine v_if_ne (tgt := 451) dL_law_429 (by decide) (fun c_429 => ?_) (fun c_429 => ?_)
      · refine v_goto (tgt := 1428) dL_law_451 (by decide) ?_
        refine v_sub (L' := [(4, _), (3, _), (2, _), (1, _), (0, _)]) [2, 3, 4, 5, 6] rfl ?_
        refine v_widen (ce' := ce + 6) (sl' := sl + 100) (by show ce + 6 + 0 + 0 ≤ ce + 6; omega) (by show sl + 100 + 0 + 0 ≤ sl + 100; omega) ?_
        exact hend _ _ hi3
      · exact absurd c_429 (by decide)
    · exact absurd rfl c_422

set_option maxHeartbeats 4000000 in
set_option maxRecDepth 100000 in
theorem law_voltage (G : sv_G) (P : sv_P) (b m o q : Nat) (I I1 : sv_h → Nat → Prop) (hL : G.2.2.2.2.2.1 ≤ 4609) (hq0 : q + 9 ≤ G.2.2.2.2.2.1) (hIn : sv_In G b m o I) (H : OpZ G mX12_voltage mX13_voltage b m o ["java/lang/IndexOutOfBoundsException", "java/lang/IllegalArgumentException"] [.int (G.2.2.2.2.2.2 (nI q + 1).toNatClampNeg), .long (((G.2.2.2.2.2.2 (nI q + 2).toNatClampNeg).toInt64 <<< ((32 : Int32).toInt64 &&& 63)) ||| ((G.2.2.2.2.2.2 (nI q + 3).toNatClampNeg).toInt64 &&& 4294967295))] I I1) (h : sv_h) (z ce sl : Nat) (hce : ce + 6 ≤ 600002) (hsl : sl + 100 ≤ 7302198) (hend : ∀ (h : sv_h) (z : Nat), I1 h z → V G mL_law P 1428 [(4, .int (nI q)), (3, .ref o), (2, .ref m), (1, .ref b), (0, .ref (G.2.2.2.2.1 100))] [] h z (ce + 6) (sl + 100)) (hi : I h z) : V G mL_law P 454 [(4, .int (nI q)), (3, .ref o), (2, .ref m), (1, .ref b), (0, .ref (G.2.2.2.2.1 100))] [] h z ce sl := by
  obtain ⟨⟨fsb, hb⟩, ⟨fsm, hm⟩, ⟨f0, ho⟩⟩ := hIn h z hi
  refine v_aload_n dL_law_454 rfl 3 rfl ?_
  refine v_aload_n dL_law_455 rfl 4 rfl ?_
  refine v_iload dL_law_456 0 rfl ?_
  refine v_iconst (v := 1) dL_law_458 (by decide) ?_
  refine v_iadd dL_law_459 ?_
  refine v_sld dL_law_460 (sv_sin (a := q) (c := 1) (by omega) (by omega)) ?_
  refine v_aload_n dL_law_461 rfl 4 rfl ?_
  refine v_iload dL_law_462 0 rfl ?_
  refine v_iconst (v := 2) dL_law_464 (by decide) ?_
  refine v_iadd dL_law_465 ?_
  refine v_sld dL_law_466 (sv_sin (a := q) (c := 2) (by omega) (by omega)) ?_
  refine v_i2l dL_law_467 rfl ?_
  refine v_bipush (v := 32) dL_law_468 (by decide) ?_
  refine v_lshl dL_law_470 rfl ?_
  refine v_aload_n dL_law_471 rfl 4 rfl ?_
  refine v_iload dL_law_472 0 rfl ?_
  refine v_iconst (v := 3) dL_law_474 (by decide) ?_
  refine v_iadd dL_law_475 ?_
  refine v_sld dL_law_476 (sv_sin (a := q) (c := 3) (by omega) (by omega)) ?_
  refine v_i2l dL_law_477 rfl ?_
  refine v_ldc2 (v := (4294967295)) (by decide +kernel) dL_law_478 ?_
  refine v_land dL_law_481 ?_
  refine v_lor dL_law_482 ?_
  refine v_aload_n dL_law_483 rfl 1 rfl ?_
  obtain ⟨Qr, Qx, ct, hR, hX⟩ := H h z hi
  refine v_callSW (M' := mL_voltage) (n := 4) (As := [_, _, _, _]) gc_107 rfl (by decide +kernel) ⟨(Nat.le_of_ble_eq_true rfl), (Nat.le_of_ble_eq_true rfl)⟩ dL_law_484 rfl ⟨by show ce + 6 ≤ 600002; omega, by show sl + 100 ≤ 7302198; omega⟩ (Nat.le_of_ble_eq_true rfl) rfl (w_voltage G h z b o _ _ fsb f0 Qr Qx hb ho ct (fun v h1 z1 hq => by obtain ⟨w, e1, ⟨f, e2⟩, _⟩ := hR v h1 z1 hq; exact ⟨w, f, e1, e2⟩) (fun E h1 z1 hq => by obtain ⟨j, e1, _⟩ := hX E h1 z1 hq; exact ((sv_n2 e1).elim (fun q => Or.inl q.1) (fun q => Or.inr q.1)))) (fun v h1 z1 hq => ?_)
  rcases hq with ⟨rfl, w, h2, g, hqr, ho1, hg0, hfr⟩ | ⟨rfl, hqx⟩ | ⟨rfl, hqx⟩
  · obtain ⟨w9, e1, -, hmo, ⟨fsm1, hm1⟩, hK⟩ := hR _ _ _ hqr
    cases e1
    obtain ⟨Q2, ct2, hQ2⟩ := hK h1 g ho1 hg0 hfr
    refine v_istore (L' := [(5, _), (4, _), (3, _), (2, _), (1, _), (0, _)]) dL_law_487 (Nat.le_of_ble_eq_true rfl) rfl ?_
    refine v_aload_n dL_law_489 rfl 3 rfl ?_
    refine v_aload_n dL_law_490 rfl 5 rfl ?_
    refine v_iload dL_law_491 1 rfl ?_
    refine v_iconst (v := 1) dL_law_493 (by decide) ?_
    refine v_iadd dL_law_494 ?_
    refine v_sld dL_law_495 (sv_sin (a := q) (c := 1) (by omega) (by omega)) ?_
    refine v_aload_n dL_law_496 rfl 5 rfl ?_
    refine v_iload dL_law_497 1 rfl ?_
    refine v_iconst (v := 2) dL_law_499 (by decide) ?_
    refine v_iadd dL_law_500 ?_
    refine v_sld dL_law_501 (sv_sin (a := q) (c := 2) (by omega) (by omega)) ?_
    refine v_i2l dL_law_502 rfl ?_
    refine v_bipush (v := 32) dL_law_503 (by decide) ?_
    refine v_lshl dL_law_505 rfl ?_
    refine v_aload_n dL_law_506 rfl 5 rfl ?_
    refine v_iload dL_law_507 1 rfl ?_
    refine v_iconst (v := 3) dL_law_509 (by decide) ?_
    refine v_iadd dL_law_510 ?_
    refine v_sld dL_law_511 (sv_sin (a := q) (c := 3) (by omega) (by omega)) ?_
    refine v_i2l dL_law_512 rfl ?_
    refine v_ldc2 (v := (4294967295)) (by decide +kernel) dL_law_513 ?_
    refine v_land dL_law_516 ?_
    refine v_lor dL_law_517 ?_
    refine v_callV (M' := mX13_voltage) (n := 2) (As := [_, _]) (ci := 11) (r := (RX13, TX13, 71)) gc_110 rfl (by decide +kernel) ⟨(Nat.le_of_ble_eq_true rfl), (Nat.le_of_ble_eq_true rfl)⟩ rfl rfl dL_law_518 rfl ⟨by show ce + 6 + 0 ≤ 600002; omega, by show sl + 100 + 0 ≤ 7302198; omega⟩ (Nat.le_of_ble_eq_true rfl) ((hfr _ hmo).trans hm1) rfl ct2 (fun v2 h3 z3 hq2 => ?_)
    obtain ⟨rfl, ⟨fs3, k1, k2, k3⟩, ho3, hi3⟩ := hQ2 _ _ _ hq2
    refine v_istore (L' := [(6, _), (5, _), (4, _), (3, _), (2, _), (1, _), (0, _)]) dL_law_521 (Nat.le_of_ble_eq_true rfl) rfl ?_
    refine v_aload_n dL_law_523 rfl 4 rfl ?_
    refine v_callV (M' := mX13_thrown) (n := 0) (As := []) (ci := 11) (r := (RX13, TX13, 71)) gc_94 rfl (by decide +kernel) ⟨(Nat.le_of_ble_eq_true rfl), (Nat.le_of_ble_eq_true rfl)⟩ rfl rfl dL_law_524 rfl ⟨by show ce + 6 + 0 + 0 ≤ 600002; omega, by show sl + 100 + 0 + 0 ≤ 7302198; omega⟩ (Nat.le_of_ble_eq_true rfl) k1 rfl (m_thrown G _ _ _ fs3 k2 k1 _ k3) (fun v4 h4 z4 hq4 => ?_)
    obtain ⟨rfl, rfl, rfl⟩ := hq4
    refine v_iload dL_law_527 1 rfl ?_
    refine v_icmp_eq (tgt := 534) dL_law_529 (by decide) (fun c_529 => ?_) (fun c_529 => ?_)
    · refine v_iload dL_law_534 1 rfl ?_
      refine v_if_ne (tgt := 558) dL_law_536 (by decide) (fun c_536 => ?_) (fun c_536 => ?_)
      · exact absurd rfl c_536
      · refine v_aload_n dL_law_539 rfl 3 rfl ?_
        refine v_iconst (v := 0) dL_law_540 (by decide) ?_
        refine v_lald dL_law_541 ho3 (by rw [← nI_0]; exact vp_in_nI (by omega) (by omega)) ?_
        refine v_iload dL_law_542 0 rfl ?_
        refine v_if_eq (tgt := 551) dL_law_544 (by decide) (fun c_544 => ?_) (fun c_544 => ?_)
        · refine v_lconst (v := 0) dL_law_551 (by decide) ?_
          refine v_lcmp_eq (tgt := 558) dL_law_552 dL_law_553 (by decide) (fun c_553 => ?_) (fun c_553 => ?_)
          · refine v_goto (tgt := 1428) dL_law_558 (by decide) ?_
            refine v_sub (L' := [(4, _), (3, _), (2, _), (1, _), (0, _)]) [2, 3, 4, 5, 6] rfl ?_
            refine v_widen (ce' := ce + 6) (sl' := sl + 100) (by show ce + 6 + 0 + 0 ≤ ce + 6; omega) (by show sl + 100 + 0 + 0 ≤ sl + 100; omega) ?_
            exact hend _ _ hi3
          · exact absurd (by rw [sb_cl0, hg0]; simp [*]) c_553
        · refine v_lconst (v := 1) dL_law_547 (by decide) ?_
          refine v_goto (tgt := 552) dL_law_548 (by decide) ?_
          refine v_lcmp_eq (tgt := 558) dL_law_552 dL_law_553 (by decide) (fun c_553 => ?_) (fun c_553 => ?_)
          · refine v_goto (tgt := 1428) dL_law_558 (by decide) ?_
            refine v_sub (L' := [(4, _), (3, _), (2, _), (1, _), (0, _)]) [2, 3, 4, 5, 6] rfl ?_
            refine v_widen (ce' := ce + 6) (sl' := sl + 100) (by show ce + 6 + 0 + 0 ≤ ce + 6; omega) (by show sl + 100 + 0 + 0 ≤ sl + 100; omega) ?_
            exact hend _ _ hi3
          · exact absurd (by rw [sb_cl0, hg0]; simp [*]) c_553
    · exact absurd rfl c_529
  · obtain ⟨j, e1, ⟨fsm1, hm1⟩, Q2, ct2, hQ2⟩ := hX _ _ _ hqx
    obtain rfl : j = 0 := by
      rcases sv_n2 e1 with ⟨e2, e3⟩ | ⟨e2, e3⟩
      · exact e3
      · exact absurd e2 (by decide)
    refine v_istore (L' := [(5, _), (4, _), (3, _), (2, _), (1, _), (0, _)]) dL_law_487 (Nat.le_of_ble_eq_true rfl) rfl ?_
    refine v_aload_n dL_law_489 rfl 3 rfl ?_
    refine v_aload_n dL_law_490 rfl 5 rfl ?_
    refine v_iload dL_law_491 1 rfl ?_
    refine v_iconst (v := 1) dL_law_493 (by decide) ?_
    refine v_iadd dL_law_494 ?_
    refine v_sld dL_law_495 (sv_sin (a := q) (c := 1) (by omega) (by omega)) ?_
    refine v_aload_n dL_law_496 rfl 5 rfl ?_
    refine v_iload dL_law_497 1 rfl ?_
    refine v_iconst (v := 2) dL_law_499 (by decide) ?_
    refine v_iadd dL_law_500 ?_
    refine v_sld dL_law_501 (sv_sin (a := q) (c := 2) (by omega) (by omega)) ?_
    refine v_i2l dL_law_502 rfl ?_
    refine v_bipush (v := 32) dL_law_503 (by decide) ?_
    refine v_lshl dL_law_505 rfl ?_
    refine v_aload_n dL_law_506 rfl 5 rfl ?_
    refine v_iload dL_law_507 1 rfl ?_
    refine v_iconst (v := 3) dL_law_509 (by decide) ?_
    refine v_iadd dL_law_510 ?_
    refine v_sld dL_law_511 (sv_sin (a := q) (c := 3) (by omega) (by omega)) ?_
    refine v_i2l dL_law_512 rfl ?_
    refine v_ldc2 (v := (4294967295)) (by decide +kernel) dL_law_513 ?_
    refine v_land dL_law_516 ?_
    refine v_lor dL_law_517 ?_
    refine v_callV (M' := mX13_voltage) (n := 2) (As := [_, _]) (ci := 11) (r := (RX13, TX13, 71)) gc_110 rfl (by decide +kernel) ⟨(Nat.le_of_ble_eq_true rfl), (Nat.le_of_ble_eq_true rfl)⟩ rfl rfl dL_law_518 rfl ⟨by show ce + 6 + 0 ≤ 600002; omega, by show sl + 100 + 0 ≤ 7302198; omega⟩ (Nat.le_of_ble_eq_true rfl) hm1 rfl ct2 (fun v2 h3 z3 hq2 => ?_)
    obtain ⟨⟨w2, rfl⟩, ⟨fs3, k1, k2, k3⟩, hi3⟩ := hQ2 _ _ _ hq2
    refine v_istore (L' := [(6, _), (5, _), (4, _), (3, _), (2, _), (1, _), (0, _)]) dL_law_521 (Nat.le_of_ble_eq_true rfl) rfl ?_
    refine v_aload_n dL_law_523 rfl 4 rfl ?_
    refine v_callV (M' := mX13_thrown) (n := 0) (As := []) (ci := 11) (r := (RX13, TX13, 71)) gc_94 rfl (by decide +kernel) ⟨(Nat.le_of_ble_eq_true rfl), (Nat.le_of_ble_eq_true rfl)⟩ rfl rfl dL_law_524 rfl ⟨by show ce + 6 + 0 + 0 ≤ 600002; omega, by show sl + 100 + 0 + 0 ≤ 7302198; omega⟩ (Nat.le_of_ble_eq_true rfl) k1 rfl (m_thrown G _ _ _ fs3 k2 k1 _ k3) (fun v4 h4 z4 hq4 => ?_)
    obtain ⟨rfl, rfl, rfl⟩ := hq4
    refine v_iload dL_law_527 1 rfl ?_
    refine v_icmp_eq (tgt := 534) dL_law_529 (by decide) (fun c_529 => ?_) (fun c_529 => ?_)
    · refine v_iload dL_law_534 1 rfl ?_
      refine v_if_ne (tgt := 558) dL_law_536 (by decide) (fun c_536 => ?_) (fun c_536 => ?_)
      · refine v_goto (tgt := 1428) dL_law_558 (by decide) ?_
        refine v_sub (L' := [(4, _), (3, _), (2, _), (1, _), (0, _)]) [2, 3, 4, 5, 6] rfl ?_
        refine v_widen (ce' := ce + 6) (sl' := sl + 100) (by show ce + 6 + 0 + 0 ≤ ce + 6; omega) (by show sl + 100 + 0 + 0 ≤ sl + 100; omega) ?_
        exact hend _ _ hi3
      · exact absurd c_536 (by decide)
    · exact absurd rfl c_529
  · obtain ⟨j, e1, ⟨fsm1, hm1⟩, Q2, ct2, hQ2⟩ := hX _ _ _ hqx
    obtain rfl : j = 1 := by
      rcases sv_n2 e1 with ⟨e2, e3⟩ | ⟨e2, e3⟩
      · exact absurd e2 (by decide)
      · exact e3
    refine v_istore (L' := [(5, _), (4, _), (3, _), (2, _), (1, _), (0, _)]) dL_law_487 (Nat.le_of_ble_eq_true rfl) rfl ?_
    refine v_aload_n dL_law_489 rfl 3 rfl ?_
    refine v_aload_n dL_law_490 rfl 5 rfl ?_
    refine v_iload dL_law_491 1 rfl ?_
    refine v_iconst (v := 1) dL_law_493 (by decide) ?_
    refine v_iadd dL_law_494 ?_
    refine v_sld dL_law_495 (sv_sin (a := q) (c := 1) (by omega) (by omega)) ?_
    refine v_aload_n dL_law_496 rfl 5 rfl ?_
    refine v_iload dL_law_497 1 rfl ?_
    refine v_iconst (v := 2) dL_law_499 (by decide) ?_
    refine v_iadd dL_law_500 ?_
    refine v_sld dL_law_501 (sv_sin (a := q) (c := 2) (by omega) (by omega)) ?_
    refine v_i2l dL_law_502 rfl ?_
    refine v_bipush (v := 32) dL_law_503 (by decide) ?_
    refine v_lshl dL_law_505 rfl ?_
    refine v_aload_n dL_law_506 rfl 5 rfl ?_
    refine v_iload dL_law_507 1 rfl ?_
    refine v_iconst (v := 3) dL_law_509 (by decide) ?_
    refine v_iadd dL_law_510 ?_
    refine v_sld dL_law_511 (sv_sin (a := q) (c := 3) (by omega) (by omega)) ?_
    refine v_i2l dL_law_512 rfl ?_
    refine v_ldc2 (v := (4294967295)) (by decide +kernel) dL_law_513 ?_
    refine v_land dL_law_516 ?_
    refine v_lor dL_law_517 ?_
    refine v_callV (M' := mX13_voltage) (n := 2) (As := [_, _]) (ci := 11) (r := (RX13, TX13, 71)) gc_110 rfl (by decide +kernel) ⟨(Nat.le_of_ble_eq_true rfl), (Nat.le_of_ble_eq_true rfl)⟩ rfl rfl dL_law_518 rfl ⟨by show ce + 6 + 0 ≤ 600002; omega, by show sl + 100 + 0 ≤ 7302198; omega⟩ (Nat.le_of_ble_eq_true rfl) hm1 rfl ct2 (fun v2 h3 z3 hq2 => ?_)
    obtain ⟨⟨w2, rfl⟩, ⟨fs3, k1, k2, k3⟩, hi3⟩ := hQ2 _ _ _ hq2
    refine v_istore (L' := [(6, _), (5, _), (4, _), (3, _), (2, _), (1, _), (0, _)]) dL_law_521 (Nat.le_of_ble_eq_true rfl) rfl ?_
    refine v_aload_n dL_law_523 rfl 4 rfl ?_
    refine v_callV (M' := mX13_thrown) (n := 0) (As := []) (ci := 11) (r := (RX13, TX13, 71)) gc_94 rfl (by decide +kernel) ⟨(Nat.le_of_ble_eq_true rfl), (Nat.le_of_ble_eq_true rfl)⟩ rfl rfl dL_law_524 rfl ⟨by show ce + 6 + 0 + 0 ≤ 600002; omega, by show sl + 100 + 0 + 0 ≤ 7302198; omega⟩ (Nat.le_of_ble_eq_true rfl) k1 rfl (m_thrown G _ _ _ fs3 k2 k1 _ k3) (fun v4 h4 z4 hq4 => ?_)
    obtain ⟨rfl, rfl, rfl⟩ := hq4
    refine v_iload dL_law_527 1 rfl ?_
    refine v_icmp_eq (tgt := 534) dL_law_529 (by decide) (fun c_529 => ?_) (fun c_529 => ?_)
    · refine v_iload dL_law_534 1 rfl ?_
      refine v_if_ne (tgt := 558) dL_law_536 (by decide) (fun c_536 => ?_) (fun c_536 => ?_)
      · refine v_goto (tgt := 1428) dL_law_558 (by decide) ?_
        refine v_sub (L' := [(4, _), (3, _), (2, _), (1, _), (0, _)]) [2, 3, 4, 5, 6] rfl ?_
        refine v_widen (ce' := ce + 6) (sl' := sl + 100) (by show ce + 6 + 0 + 0 ≤ ce + 6; omega) (by show sl + 100 + 0 + 0 ≤ sl + 100; omega) ?_
        exact hend _ _ hi3
      · exact absurd c_536 (by decide)
    · exact absurd rfl c_529

set_option maxHeartbeats 4000000 in
set_option maxRecDepth 100000 in
theorem law_place (G : sv_G) (P : sv_P) (b m o q : Nat) (I I1 : sv_h → Nat → Prop) (hL : G.2.2.2.2.2.1 ≤ 4609) (hq0 : q + 9 ≤ G.2.2.2.2.2.1) (hIn : sv_In G b m o I) (H : OpI G mX12_place mX13_place b m o ["java/lang/IndexOutOfBoundsException", "java/lang/IllegalStateException", "java/lang/IllegalArgumentException"] [.int (G.2.2.2.2.2.2 (nI q + 1).toNatClampNeg), .int (G.2.2.2.2.2.2 (nI q + 2).toNatClampNeg), .long (((G.2.2.2.2.2.2 (nI q + 3).toNatClampNeg).toInt64 <<< ((32 : Int32).toInt64 &&& 63)) ||| ((G.2.2.2.2.2.2 (nI q + 4).toNatClampNeg).toInt64 &&& 4294967295)), .long (((G.2.2.2.2.2.2 (nI q + 5).toNatClampNeg).toInt64 <<< ((32 : Int32).toInt64 &&& 63)) ||| ((G.2.2.2.2.2.2 (nI q + 6).toNatClampNeg).toInt64 &&& 4294967295)), .int (G.2.2.2.2.2.2 (nI q + 7).toNatClampNeg)] I I1) (h : sv_h) (z ce sl : Nat) (hce : ce + 6 ≤ 600002) (hsl : sl + 100 ≤ 7302198) (hend : ∀ (h : sv_h) (z : Nat), I1 h z → V G mL_law P 1428 [(4, .int (nI q)), (3, .ref o), (2, .ref m), (1, .ref b), (0, .ref (G.2.2.2.2.1 100))] [] h z (ce + 6) (sl + 100)) (hi : I h z) : V G mL_law P 561 [(4, .int (nI q)), (3, .ref o), (2, .ref m), (1, .ref b), (0, .ref (G.2.2.2.2.1 100))] [] h z ce sl := by
  obtain ⟨⟨fsb, hb⟩, ⟨fsm, hm⟩, ⟨f0, ho⟩⟩ := hIn h z hi
  refine v_aload_n dL_law_561 rfl 3 rfl ?_
  refine v_aload_n dL_law_562 rfl 4 rfl ?_
  refine v_iload dL_law_563 0 rfl ?_
  refine v_iconst (v := 1) dL_law_565 (by decide) ?_
  refine v_iadd dL_law_566 ?_
  refine v_sld dL_law_567 (sv_sin (a := q) (c := 1) (by omega) (by omega)) ?_
  refine v_aload_n dL_law_568 rfl 4 rfl ?_
  refine v_iload dL_law_569 0 rfl ?_
  refine v_iconst (v := 2) dL_law_571 (by decide) ?_
  refine v_iadd dL_law_572 ?_
  refine v_sld dL_law_573 (sv_sin (a := q) (c := 2) (by omega) (by omega)) ?_
  refine v_aload_n dL_law_574 rfl 4 rfl ?_
  refine v_iload dL_law_575 0 rfl ?_
  refine v_iconst (v := 3) dL_law_577 (by decide) ?_
  refine v_iadd dL_law_578 ?_
  refine v_sld dL_law_579 (sv_sin (a := q) (c := 3) (by omega) (by omega)) ?_
  refine v_i2l dL_law_580 rfl ?_
  refine v_bipush (v := 32) dL_law_581 (by decide) ?_
  refine v_lshl dL_law_583 rfl ?_
  refine v_aload_n dL_law_584 rfl 4 rfl ?_
  refine v_iload dL_law_585 0 rfl ?_
  refine v_iconst (v := 4) dL_law_587 (by decide) ?_
  refine v_iadd dL_law_588 ?_
  refine v_sld dL_law_589 (sv_sin (a := q) (c := 4) (by omega) (by omega)) ?_
  refine v_i2l dL_law_590 rfl ?_
  refine v_ldc2 (v := (4294967295)) (by decide +kernel) dL_law_591 ?_
  refine v_land dL_law_594 ?_
  refine v_lor dL_law_595 ?_
  refine v_aload_n dL_law_596 rfl 4 rfl ?_
  refine v_iload dL_law_597 0 rfl ?_
  refine v_iconst (v := 5) dL_law_599 (by decide) ?_
  refine v_iadd dL_law_600 ?_
  refine v_sld dL_law_601 (sv_sin (a := q) (c := 5) (by omega) (by omega)) ?_
  refine v_i2l dL_law_602 rfl ?_
  refine v_bipush (v := 32) dL_law_603 (by decide) ?_
  refine v_lshl dL_law_605 rfl ?_
  refine v_aload_n dL_law_606 rfl 4 rfl ?_
  refine v_iload dL_law_607 0 rfl ?_
  refine v_bipush (v := 6) dL_law_609 (by decide) ?_
  refine v_iadd dL_law_611 ?_
  refine v_sld dL_law_612 (sv_sin (a := q) (c := 6) (by omega) (by omega)) ?_
  refine v_i2l dL_law_613 rfl ?_
  refine v_ldc2 (v := (4294967295)) (by decide +kernel) dL_law_614 ?_
  refine v_land dL_law_617 ?_
  refine v_lor dL_law_618 ?_
  refine v_aload_n dL_law_619 rfl 4 rfl ?_
  refine v_iload dL_law_620 0 rfl ?_
  refine v_bipush (v := 7) dL_law_622 (by decide) ?_
  refine v_iadd dL_law_624 ?_
  refine v_sld dL_law_625 (sv_sin (a := q) (c := 7) (by omega) (by omega)) ?_
  refine v_aload_n dL_law_626 rfl 1 rfl ?_
  obtain ⟨Qr, Qx, ct, hR, hX⟩ := H h z hi
  refine v_callSW (M' := mL_place) (n := 7) (As := [_, _, _, _, _, _, _]) gc_111 rfl (by decide +kernel) ⟨(Nat.le_of_ble_eq_true rfl), (Nat.le_of_ble_eq_true rfl)⟩ dL_law_627 rfl ⟨by show ce + 6 ≤ 600002; omega, by show sl + 100 ≤ 7302198; omega⟩ (Nat.le_of_ble_eq_true rfl) rfl (w_place G h z b o _ _ _ _ _ fsb f0 Qr Qx hb ho ct (fun v h1 z1 hq => by obtain ⟨w, e1, ⟨f, e2⟩, _⟩ := hR v h1 z1 hq; exact ⟨w, f, e1, e2⟩) (fun E h1 z1 hq => by obtain ⟨j, e1, _⟩ := hX E h1 z1 hq; exact ((sv_n3 e1).elim (fun q => Or.inl q.1) (fun q => q.elim (fun q => Or.inr (Or.inl q.1)) (fun q => Or.inr (Or.inr q.1)))))) (fun v h1 z1 hq => ?_)
  rcases hq with ⟨rfl, w, h2, g, hqr, ho1, hg0, hfr⟩ | ⟨rfl, hqx⟩ | ⟨rfl, hqx⟩ | ⟨rfl, hqx⟩
  · obtain ⟨w9, e1, -, hmo, ⟨fsm1, hm1⟩, hK⟩ := hR _ _ _ hqr
    cases e1
    obtain ⟨Q2, ct2, hQ2⟩ := hK h1 g ho1 hg0 hfr
    refine v_istore (L' := [(5, _), (4, _), (3, _), (2, _), (1, _), (0, _)]) dL_law_630 (Nat.le_of_ble_eq_true rfl) rfl ?_
    refine v_aload_n dL_law_632 rfl 3 rfl ?_
    refine v_aload_n dL_law_633 rfl 5 rfl ?_
    refine v_iload dL_law_634 1 rfl ?_
    refine v_iconst (v := 1) dL_law_636 (by decide) ?_
    refine v_iadd dL_law_637 ?_
    refine v_sld dL_law_638 (sv_sin (a := q) (c := 1) (by omega) (by omega)) ?_
    refine v_aload_n dL_law_639 rfl 5 rfl ?_
    refine v_iload dL_law_640 1 rfl ?_
    refine v_iconst (v := 2) dL_law_642 (by decide) ?_
    refine v_iadd dL_law_643 ?_
    refine v_sld dL_law_644 (sv_sin (a := q) (c := 2) (by omega) (by omega)) ?_
    refine v_aload_n dL_law_645 rfl 5 rfl ?_
    refine v_iload dL_law_646 1 rfl ?_
    refine v_iconst (v := 3) dL_law_648 (by decide) ?_
    refine v_iadd dL_law_649 ?_
    refine v_sld dL_law_650 (sv_sin (a := q) (c := 3) (by omega) (by omega)) ?_
    refine v_i2l dL_law_651 rfl ?_
    refine v_bipush (v := 32) dL_law_652 (by decide) ?_
    refine v_lshl dL_law_654 rfl ?_
    refine v_aload_n dL_law_655 rfl 5 rfl ?_
    refine v_iload dL_law_656 1 rfl ?_
    refine v_iconst (v := 4) dL_law_658 (by decide) ?_
    refine v_iadd dL_law_659 ?_
    refine v_sld dL_law_660 (sv_sin (a := q) (c := 4) (by omega) (by omega)) ?_
    refine v_i2l dL_law_661 rfl ?_
    refine v_ldc2 (v := (4294967295)) (by decide +kernel) dL_law_662 ?_
    refine v_land dL_law_665 ?_
    refine v_lor dL_law_666 ?_
    refine v_aload_n dL_law_667 rfl 5 rfl ?_
    refine v_iload dL_law_668 1 rfl ?_
    refine v_iconst (v := 5) dL_law_670 (by decide) ?_
    refine v_iadd dL_law_671 ?_
    refine v_sld dL_law_672 (sv_sin (a := q) (c := 5) (by omega) (by omega)) ?_
    refine v_i2l dL_law_673 rfl ?_
    refine v_bipush (v := 32) dL_law_674 (by decide) ?_
    refine v_lshl dL_law_676 rfl ?_
    refine v_aload_n dL_law_677 rfl 5 rfl ?_
    refine v_iload dL_law_678 1 rfl ?_
    refine v_bipush (v := 6) dL_law_680 (by decide) ?_
    refine v_iadd dL_law_682 ?_
    refine v_sld dL_law_683 (sv_sin (a := q) (c := 6) (by omega) (by omega)) ?_
    refine v_i2l dL_law_684 rfl ?_
    refine v_ldc2 (v := (4294967295)) (by decide +kernel) dL_law_685 ?_
    refine v_land dL_law_688 ?_
    refine v_lor dL_law_689 ?_
    refine v_aload_n dL_law_690 rfl 5 rfl ?_
    refine v_iload dL_law_691 1 rfl ?_
    refine v_bipush (v := 7) dL_law_693 (by decide) ?_
    refine v_iadd dL_law_695 ?_
    refine v_sld dL_law_696 (sv_sin (a := q) (c := 7) (by omega) (by omega)) ?_
    refine v_callV (M' := mX13_place) (n := 5) (As := [_, _, _, _, _]) (ci := 11) (r := (RX13, TX13, 71)) gc_114 rfl (by decide +kernel) ⟨(Nat.le_of_ble_eq_true rfl), (Nat.le_of_ble_eq_true rfl)⟩ rfl rfl dL_law_697 rfl ⟨by show ce + 6 + 0 ≤ 600002; omega, by show sl + 100 + 0 ≤ 7302198; omega⟩ (Nat.le_of_ble_eq_true rfl) ((hfr _ hmo).trans hm1) rfl ct2 (fun v2 h3 z3 hq2 => ?_)
    obtain ⟨rfl, ⟨fs3, k1, k2, k3⟩, ho3, hi3⟩ := hQ2 _ _ _ hq2
    refine v_istore (L' := [(6, _), (5, _), (4, _), (3, _), (2, _), (1, _), (0, _)]) dL_law_700 (Nat.le_of_ble_eq_true rfl) rfl ?_
    refine v_aload_n dL_law_702 rfl 4 rfl ?_
    refine v_callV (M' := mX13_thrown) (n := 0) (As := []) (ci := 11) (r := (RX13, TX13, 71)) gc_94 rfl (by decide +kernel) ⟨(Nat.le_of_ble_eq_true rfl), (Nat.le_of_ble_eq_true rfl)⟩ rfl rfl dL_law_703 rfl ⟨by show ce + 6 + 0 + 0 ≤ 600002; omega, by show sl + 100 + 0 + 0 ≤ 7302198; omega⟩ (Nat.le_of_ble_eq_true rfl) k1 rfl (m_thrown G _ _ _ fs3 k2 k1 _ k3) (fun v4 h4 z4 hq4 => ?_)
    obtain ⟨rfl, rfl, rfl⟩ := hq4
    refine v_iload dL_law_706 1 rfl ?_
    refine v_icmp_eq (tgt := 713) dL_law_708 (by decide) (fun c_708 => ?_) (fun c_708 => ?_)
    · refine v_iload dL_law_713 1 rfl ?_
      refine v_if_ne (tgt := 730) dL_law_715 (by decide) (fun c_715 => ?_) (fun c_715 => ?_)
      · exact absurd rfl c_715
      · refine v_aload_n dL_law_718 rfl 3 rfl ?_
        refine v_iconst (v := 0) dL_law_719 (by decide) ?_
        refine v_lald dL_law_720 ho3 (by rw [← nI_0]; exact vp_in_nI (by omega) (by omega)) ?_
        refine v_iload dL_law_721 0 rfl ?_
        refine v_i2l dL_law_723 rfl ?_
        refine v_lcmp_eq (tgt := 730) dL_law_724 dL_law_725 (by decide) (fun c_725 => ?_) (fun c_725 => ?_)
        · refine v_goto (tgt := 1428) dL_law_730 (by decide) ?_
          refine v_sub (L' := [(4, _), (3, _), (2, _), (1, _), (0, _)]) [2, 3, 4, 5, 6] rfl ?_
          refine v_widen (ce' := ce + 6) (sl' := sl + 100) (by show ce + 6 + 0 + 0 ≤ ce + 6; omega) (by show sl + 100 + 0 + 0 ≤ sl + 100; omega) ?_
          exact hend _ _ hi3
        · exact absurd (by rw [sb_cl0, hg0]) c_725
    · exact absurd rfl c_708
  · obtain ⟨j, e1, ⟨fsm1, hm1⟩, Q2, ct2, hQ2⟩ := hX _ _ _ hqx
    obtain rfl : j = 0 := by
      rcases sv_n3 e1 with ⟨e2, e3⟩ | ⟨e2, e3⟩ | ⟨e2, e3⟩
      · exact e3
      · exact absurd e2 (by decide)
      · exact absurd e2 (by decide)
    refine v_istore (L' := [(5, _), (4, _), (3, _), (2, _), (1, _), (0, _)]) dL_law_630 (Nat.le_of_ble_eq_true rfl) rfl ?_
    refine v_aload_n dL_law_632 rfl 3 rfl ?_
    refine v_aload_n dL_law_633 rfl 5 rfl ?_
    refine v_iload dL_law_634 1 rfl ?_
    refine v_iconst (v := 1) dL_law_636 (by decide) ?_
    refine v_iadd dL_law_637 ?_
    refine v_sld dL_law_638 (sv_sin (a := q) (c := 1) (by omega) (by omega)) ?_
    refine v_aload_n dL_law_639 rfl 5 rfl ?_
    refine v_iload dL_law_640 1 rfl ?_
    refine v_iconst (v := 2) dL_law_642 (by decide) ?_
    refine v_iadd dL_law_643 ?_
    refine v_sld dL_law_644 (sv_sin (a := q) (c := 2) (by omega) (by omega)) ?_
    refine v_aload_n dL_law_645 rfl 5 rfl ?_
    refine v_iload dL_law_646 1 rfl ?_
    refine v_iconst (v := 3) dL_law_648 (by decide) ?_
    refine v_iadd dL_law_649 ?_
    refine v_sld dL_law_650 (sv_sin (a := q) (c := 3) (by omega) (by omega)) ?_
    refine v_i2l dL_law_651 rfl ?_
    refine v_bipush (v := 32) dL_law_652 (by decide) ?_
    refine v_lshl dL_law_654 rfl ?_
    refine v_aload_n dL_law_655 rfl 5 rfl ?_
    refine v_iload dL_law_656 1 rfl ?_
    refine v_iconst (v := 4) dL_law_658 (by decide) ?_
    refine v_iadd dL_law_659 ?_
    refine v_sld dL_law_660 (sv_sin (a := q) (c := 4) (by omega) (by omega)) ?_
    refine v_i2l dL_law_661 rfl ?_
    refine v_ldc2 (v := (4294967295)) (by decide +kernel) dL_law_662 ?_
    refine v_land dL_law_665 ?_
    refine v_lor dL_law_666 ?_
    refine v_aload_n dL_law_667 rfl 5 rfl ?_
    refine v_iload dL_law_668 1 rfl ?_
    refine v_iconst (v := 5) dL_law_670 (by decide) ?_
    refine v_iadd dL_law_671 ?_
    refine v_sld dL_law_672 (sv_sin (a := q) (c := 5) (by omega) (by omega)) ?_
    refine v_i2l dL_law_673 rfl ?_
    refine v_bipush (v := 32) dL_law_674 (by decide) ?_
    refine v_lshl dL_law_676 rfl ?_
    refine v_aload_n dL_law_677 rfl 5 rfl ?_
    refine v_iload dL_law_678 1 rfl ?_
    refine v_bipush (v := 6) dL_law_680 (by decide) ?_
    refine v_iadd dL_law_682 ?_
    refine v_sld dL_law_683 (sv_sin (a := q) (c := 6) (by omega) (by omega)) ?_
    refine v_i2l dL_law_684 rfl ?_
    refine v_ldc2 (v := (4294967295)) (by decide +kernel) dL_law_685 ?_
    refine v_land dL_law_688 ?_
    refine v_lor dL_law_689 ?_
    refine v_aload_n dL_law_690 rfl 5 rfl ?_
    refine v_iload dL_law_691 1 rfl ?_
    refine v_bipush (v := 7) dL_law_693 (by decide) ?_
    refine v_iadd dL_law_695 ?_
    refine v_sld dL_law_696 (sv_sin (a := q) (c := 7) (by omega) (by omega)) ?_
    refine v_callV (M' := mX13_place) (n := 5) (As := [_, _, _, _, _]) (ci := 11) (r := (RX13, TX13, 71)) gc_114 rfl (by decide +kernel) ⟨(Nat.le_of_ble_eq_true rfl), (Nat.le_of_ble_eq_true rfl)⟩ rfl rfl dL_law_697 rfl ⟨by show ce + 6 + 0 ≤ 600002; omega, by show sl + 100 + 0 ≤ 7302198; omega⟩ (Nat.le_of_ble_eq_true rfl) hm1 rfl ct2 (fun v2 h3 z3 hq2 => ?_)
    obtain ⟨⟨w2, rfl⟩, ⟨fs3, k1, k2, k3⟩, hi3⟩ := hQ2 _ _ _ hq2
    refine v_istore (L' := [(6, _), (5, _), (4, _), (3, _), (2, _), (1, _), (0, _)]) dL_law_700 (Nat.le_of_ble_eq_true rfl) rfl ?_
    refine v_aload_n dL_law_702 rfl 4 rfl ?_
    refine v_callV (M' := mX13_thrown) (n := 0) (As := []) (ci := 11) (r := (RX13, TX13, 71)) gc_94 rfl (by decide +kernel) ⟨(Nat.le_of_ble_eq_true rfl), (Nat.le_of_ble_eq_true rfl)⟩ rfl rfl dL_law_703 rfl ⟨by show ce + 6 + 0 + 0 ≤ 600002; omega, by show sl + 100 + 0 + 0 ≤ 7302198; omega⟩ (Nat.le_of_ble_eq_true rfl) k1 rfl (m_thrown G _ _ _ fs3 k2 k1 _ k3) (fun v4 h4 z4 hq4 => ?_)
    obtain ⟨rfl, rfl, rfl⟩ := hq4
    refine v_iload dL_law_706 1 rfl ?_
    refine v_icmp_eq (tgt := 713) dL_law_708 (by decide) (fun c_708 => ?_) (fun c_708 => ?_)
    · refine v_iload dL_law_713 1 rfl ?_
      refine v_if_ne (tgt := 730) dL_law_715 (by decide) (fun c_715 => ?_) (fun c_715 => ?_)
      · refine v_goto (tgt := 1428) dL_law_730 (by decide) ?_
        refine v_sub (L' := [(4, _), (3, _), (2, _), (1, _), (0, _)]) [2, 3, 4, 5, 6] rfl ?_
        refine v_widen (ce' := ce + 6) (sl' := sl + 100) (by show ce + 6 + 0 + 0 ≤ ce + 6; omega) (by show sl + 100 + 0 + 0 ≤ sl + 100; omega) ?_
        exact hend _ _ hi3
      · exact absurd c_715 (by decide)
    · exact absurd rfl c_708
  · obtain ⟨j, e1, ⟨fsm1, hm1⟩, Q2, ct2, hQ2⟩ := hX _ _ _ hqx
    obtain rfl : j = 1 := by
      rcases sv_n3 e1 with ⟨e2, e3⟩ | ⟨e2, e3⟩ | ⟨e2, e3⟩
      · exact absurd e2 (by decide)
      · exact e3
      · exact absurd e2 (by decide)
    refine v_istore (L' := [(5, _), (4, _), (3, _), (2, _), (1, _), (0, _)]) dL_law_630 (Nat.le_of_ble_eq_true rfl) rfl ?_
    refine v_aload_n dL_law_632 rfl 3 rfl ?_
    refine v_aload_n dL_law_633 rfl 5 rfl ?_
    refine v_iload dL_law_634 1 rfl ?_
    refine v_iconst (v := 1) dL_law_636 (by decide) ?_
    refine v_iadd dL_law_637 ?_
    refine v_sld dL_law_638 (sv_sin (a := q) (c := 1) (by omega) (by omega)) ?_
    refine v_aload_n dL_law_639 rfl 5 rfl ?_
    refine v_iload dL_law_640 1 rfl ?_
    refine v_iconst (v := 2) dL_law_642 (by decide) ?_
    refine v_iadd dL_law_643 ?_
    refine v_sld dL_law_644 (sv_sin (a := q) (c := 2) (by omega) (by omega)) ?_
    refine v_aload_n dL_law_645 rfl 5 rfl ?_
    refine v_iload dL_law_646 1 rfl ?_
    refine v_iconst (v := 3) dL_law_648 (by decide) ?_
    refine v_iadd dL_law_649 ?_
    refine v_sld dL_law_650 (sv_sin (a := q) (c := 3) (by omega) (by omega)) ?_
    refine v_i2l dL_law_651 rfl ?_
    refine v_bipush (v := 32) dL_law_652 (by decide) ?_
    refine v_lshl dL_law_654 rfl ?_
    refine v_aload_n dL_law_655 rfl 5 rfl ?_
    refine v_iload dL_law_656 1 rfl ?_
    refine v_iconst (v := 4) dL_law_658 (by decide) ?_
    refine v_iadd dL_law_659 ?_
    refine v_sld dL_law_660 (sv_sin (a := q) (c := 4) (by omega) (by omega)) ?_
    refine v_i2l dL_law_661 rfl ?_
    refine v_ldc2 (v := (4294967295)) (by decide +kernel) dL_law_662 ?_
    refine v_land dL_law_665 ?_
    refine v_lor dL_law_666 ?_
    refine v_aload_n dL_law_667 rfl 5 rfl ?_
    refine v_iload dL_law_668 1 rfl ?_
    refine v_iconst (v := 5) dL_law_670 (by decide) ?_
    refine v_iadd dL_law_671 ?_
    refine v_sld dL_law_672 (sv_sin (a := q) (c := 5) (by omega) (by omega)) ?_
    refine v_i2l dL_law_673 rfl ?_
    refine v_bipush (v := 32) dL_law_674 (by decide) ?_
    refine v_lshl dL_law_676 rfl ?_
    refine v_aload_n dL_law_677 rfl 5 rfl ?_
    refine v_iload dL_law_678 1 rfl ?_
    refine v_bipush (v := 6) dL_law_680 (by decide) ?_
    refine v_iadd dL_law_682 ?_
    refine v_sld dL_law_683 (sv_sin (a := q) (c := 6) (by omega) (by omega)) ?_
    refine v_i2l dL_law_684 rfl ?_
    refine v_ldc2 (v := (4294967295)) (by decide +kernel) dL_law_685 ?_
    refine v_land dL_law_688 ?_
    refine v_lor dL_law_689 ?_
    refine v_aload_n dL_law_690 rfl 5 rfl ?_
    refine v_iload dL_law_691 1 rfl ?_
    refine v_bipush (v := 7) dL_law_693 (by decide) ?_
    refine v_iadd dL_law_695 ?_
    refine v_sld dL_law_696 (sv_sin (a := q) (c := 7) (by omega) (by omega)) ?_
    refine v_callV (M' := mX13_place) (n := 5) (As := [_, _, _, _, _]) (ci := 11) (r := (RX13, TX13, 71)) gc_114 rfl (by decide +kernel) ⟨(Nat.le_of_ble_eq_true rfl), (Nat.le_of_ble_eq_true rfl)⟩ rfl rfl dL_law_697 rfl ⟨by show ce + 6 + 0 ≤ 600002; omega, by show sl + 100 + 0 ≤ 7302198; omega⟩ (Nat.le_of_ble_eq_true rfl) hm1 rfl ct2 (fun v2 h3 z3 hq2 => ?_)
    obtain ⟨⟨w2, rfl⟩, ⟨fs3, k1, k2, k3⟩, hi3⟩ := hQ2 _ _ _ hq2
    refine v_istore (L' := [(6, _), (5, _), (4, _), (3, _), (2, _), (1, _), (0, _)]) dL_law_700 (Nat.le_of_ble_eq_true rfl) rfl ?_
    refine v_aload_n dL_law_702 rfl 4 rfl ?_
    refine v_callV (M' := mX13_thrown) (n := 0) (As := []) (ci := 11) (r := (RX13, TX13, 71)) gc_94 rfl (by decide +kernel) ⟨(Nat.le_of_ble_eq_true rfl), (Nat.le_of_ble_eq_true rfl)⟩ rfl rfl dL_law_703 rfl ⟨by show ce + 6 + 0 + 0 ≤ 600002; omega, by show sl + 100 + 0 + 0 ≤ 7302198; omega⟩ (Nat.le_of_ble_eq_true rfl) k1 rfl (m_thrown G _ _ _ fs3 k2 k1 _ k3) (fun v4 h4 z4 hq4 => ?_)
    obtain ⟨rfl, rfl, rfl⟩ := hq4
    refine v_iload dL_law_706 1 rfl ?_
    refine v_icmp_eq (tgt := 713) dL_law_708 (by decide) (fun c_708 => ?_) (fun c_708 => ?_)
    · refine v_iload dL_law_713 1 rfl ?_
      refine v_if_ne (tgt := 730) dL_law_715 (by decide) (fun c_715 => ?_) (fun c_715 => ?_)
      · refine v_goto (tgt := 1428) dL_law_730 (by decide) ?_
        refine v_sub (L' := [(4, _), (3, _), (2, _), (1, _), (0, _)]) [2, 3, 4, 5, 6] rfl ?_
        refine v_widen (ce' := ce + 6) (sl' := sl + 100) (by show ce + 6 + 0 + 0 ≤ ce + 6; omega) (by show sl + 100 + 0 + 0 ≤ sl + 100; omega) ?_
        exact hend _ _ hi3
      · exact absurd c_715 (by decide)
    · exact absurd rfl c_708
  · obtain ⟨j, e1, ⟨fsm1, hm1⟩, Q2, ct2, hQ2⟩ := hX _ _ _ hqx
    obtain rfl : j = 2 := by
      rcases sv_n3 e1 with ⟨e2, e3⟩ | ⟨e2, e3⟩ | ⟨e2, e3⟩
      · exact absurd e2 (by decide)
      · exact absurd e2 (by decide)
      · exact e3
    refine v_istore (L' := [(5, _), (4, _), (3, _), (2, _), (1, _), (0, _)]) dL_law_630 (Nat.le_of_ble_eq_true rfl) rfl ?_
    refine v_aload_n dL_law_632 rfl 3 rfl ?_
    refine v_aload_n dL_law_633 rfl 5 rfl ?_
    refine v_iload dL_law_634 1 rfl ?_
    refine v_iconst (v := 1) dL_law_636 (by decide) ?_
    refine v_iadd dL_law_637 ?_
    refine v_sld dL_law_638 (sv_sin (a := q) (c := 1) (by omega) (by omega)) ?_
    refine v_aload_n dL_law_639 rfl 5 rfl ?_
    refine v_iload dL_law_640 1 rfl ?_
    refine v_iconst (v := 2) dL_law_642 (by decide) ?_
    refine v_iadd dL_law_643 ?_
    refine v_sld dL_law_644 (sv_sin (a := q) (c := 2) (by omega) (by omega)) ?_
    refine v_aload_n dL_law_645 rfl 5 rfl ?_
    refine v_iload dL_law_646 1 rfl ?_
    refine v_iconst (v := 3) dL_law_648 (by decide) ?_
    refine v_iadd dL_law_649 ?_
    refine v_sld dL_law_650 (sv_sin (a := q) (c := 3) (by omega) (by omega)) ?_
    refine v_i2l dL_law_651 rfl ?_
    refine v_bipush (v := 32) dL_law_652 (by decide) ?_
    refine v_lshl dL_law_654 rfl ?_
    refine v_aload_n dL_law_655 rfl 5 rfl ?_
    refine v_iload dL_law_656 1 rfl ?_
    refine v_iconst (v := 4) dL_law_658 (by decide) ?_
    refine v_iadd dL_law_659 ?_
    refine v_sld dL_law_660 (sv_sin (a := q) (c := 4) (by omega) (by omega)) ?_
    refine v_i2l dL_law_661 rfl ?_
    refine v_ldc2 (v := (4294967295)) (by decide +kernel) dL_law_662 ?_
    refine v_land dL_law_665 ?_
    refine v_lor dL_law_666 ?_
    refine v_aload_n dL_law_667 rfl 5 rfl ?_
    refine v_iload dL_law_668 1 rfl ?_
    refine v_iconst (v := 5) dL_law_670 (by decide) ?_
    refine v_iadd dL_law_671 ?_
    refine v_sld dL_law_672 (sv_sin (a := q) (c := 5) (by omega) (by omega)) ?_
    refine v_i2l dL_law_673 rfl ?_
    refine v_bipush (v := 32) dL_law_674 (by decide) ?_
    refine v_lshl dL_law_676 rfl ?_
    refine v_aload_n dL_law_677 rfl 5 rfl ?_
    refine v_iload dL_law_678 1 rfl ?_
    refine v_bipush (v := 6) dL_law_680 (by decide) ?_
    refine v_iadd dL_law_682 ?_
    refine v_sld dL_law_683 (sv_sin (a := q) (c := 6) (by omega) (by omega)) ?_
    refine v_i2l dL_law_684 rfl ?_
    refine v_ldc2 (v := (4294967295)) (by decide +kernel) dL_law_685 ?_
    refine v_land dL_law_688 ?_
    refine v_lor dL_law_689 ?_
    refine v_aload_n dL_law_690 rfl 5 rfl ?_
    refine v_iload dL_law_691 1 rfl ?_
    refine v_bipush (v := 7) dL_law_693 (by decide) ?_
    refine v_iadd dL_law_695 ?_
    refine v_sld dL_law_696 (sv_sin (a := q) (c := 7) (by omega) (by omega)) ?_
    refine v_callV (M' := mX13_place) (n := 5) (As := [_, _, _, _, _]) (ci := 11) (r := (RX13, TX13, 71)) gc_114 rfl (by decide +kernel) ⟨(Nat.le_of_ble_eq_true rfl), (Nat.le_of_ble_eq_true rfl)⟩ rfl rfl dL_law_697 rfl ⟨by show ce + 6 + 0 ≤ 600002; omega, by show sl + 100 + 0 ≤ 7302198; omega⟩ (Nat.le_of_ble_eq_true rfl) hm1 rfl ct2 (fun v2 h3 z3 hq2 => ?_)
    obtain ⟨⟨w2, rfl⟩, ⟨fs3, k1, k2, k3⟩, hi3⟩ := hQ2 _ _ _ hq2
    refine v_istore (L' := [(6, _), (5, _), (4, _), (3, _), (2, _), (1, _), (0, _)]) dL_law_700 (Nat.le_of_ble_eq_true rfl) rfl ?_
    refine v_aload_n dL_law_702 rfl 4 rfl ?_
    refine v_callV (M' := mX13_thrown) (n := 0) (As := []) (ci := 11) (r := (RX13, TX13, 71)) gc_94 rfl (by decide +kernel) ⟨(Nat.le_of_ble_eq_true rfl), (Nat.le_of_ble_eq_true rfl)⟩ rfl rfl dL_law_703 rfl ⟨by show ce + 6 + 0 + 0 ≤ 600002; omega, by show sl + 100 + 0 + 0 ≤ 7302198; omega⟩ (Nat.le_of_ble_eq_true rfl) k1 rfl (m_thrown G _ _ _ fs3 k2 k1 _ k3) (fun v4 h4 z4 hq4 => ?_)
    obtain ⟨rfl, rfl, rfl⟩ := hq4
    refine v_iload dL_law_706 1 rfl ?_
    refine v_icmp_eq (tgt := 713) dL_law_708 (by decide) (fun c_708 => ?_) (fun c_708 => ?_)
    · refine v_iload dL_law_713 1 rfl ?_
      refine v_if_ne (tgt := 730) dL_law_715 (by decide) (fun c_715 => ?_) (fun c_715 => ?_)
      · refine v_goto (tgt := 1428) dL_law_730 (by decide) ?_
        refine v_sub (L' := [(4, _), (3, _), (2, _), (1, _), (0, _)]) [2, 3, 4, 5, 6] rfl ?_
        refine v_widen (ce' := ce + 6) (sl' := sl + 100) (by show ce + 6 + 0 + 0 ≤ ce + 6; omega) (by show sl + 100 + 0 + 0 ≤ sl + 100; omega) ?_
        exact hend _ _ hi3
      · exact absurd c_715 (by decide)
    · exact absurd rfl c_708

set_option maxHeartbeats 4000000 in
set_option maxRecDepth 100000 in
theorem law_run (G : sv_G) (P : sv_P) (b m o q : Nat) (I I1 : sv_h → Nat → Prop) (hL : G.2.2.2.2.2.1 ≤ 4609) (hq0 : q + 9 ≤ G.2.2.2.2.2.1) (hIn : sv_In G b m o I) (H1 : OpI G mX12_run mX13_run b m o ["java/lang/IndexOutOfBoundsException", "java/lang/UnsupportedOperationException"] [.int (G.2.2.2.2.2.2 (nI q + 1).toNatClampNeg), .int (G.2.2.2.2.2.2 (nI q + 2).toNatClampNeg), .int 1] I I1) (H0 : OpI G mX12_run mX13_run b m o ["java/lang/IndexOutOfBoundsException", "java/lang/UnsupportedOperationException"] [.int (G.2.2.2.2.2.2 (nI q + 1).toNatClampNeg), .int (G.2.2.2.2.2.2 (nI q + 2).toNatClampNeg), .int 0] I I1) (h : sv_h) (z ce sl : Nat) (hce : ce + 6 ≤ 600002) (hsl : sl + 100 ≤ 7302198) (hend : ∀ (h : sv_h) (z : Nat), I1 h z → V G mL_law P 1428 [(4, .int (nI q)), (3, .ref o), (2, .ref m), (1, .ref b), (0, .ref (G.2.2.2.2.1 100))] [] h z (ce + 6) (sl + 100)) (hi : I h z) : V G mL_law P 733 [(4, .int (nI q)), (3, .ref o), (2, .ref m), (1, .ref b), (0, .ref (G.2.2.2.2.1 100))] [] h z ce sl := by
  obtain ⟨⟨fsb, hb⟩, ⟨fsm, hm⟩, ⟨f0, ho⟩⟩ := hIn h z hi
  refine v_aload_n dL_law_733 rfl 3 rfl ?_
  refine v_aload_n dL_law_734 rfl 4 rfl ?_
  refine v_iload dL_law_735 0 rfl ?_
  refine v_iconst (v := 1) dL_law_737 (by decide) ?_
  refine v_iadd dL_law_738 ?_
  refine v_sld dL_law_739 (sv_sin (a := q) (c := 1) (by omega) (by omega)) ?_
  refine v_aload_n dL_law_740 rfl 4 rfl ?_
  refine v_iload dL_law_741 0 rfl ?_
  refine v_iconst (v := 2) dL_law_743 (by decide) ?_
  refine v_iadd dL_law_744 ?_
  refine v_sld dL_law_745 (sv_sin (a := q) (c := 2) (by omega) (by omega)) ?_
  refine v_aload_n dL_law_746 rfl 4 rfl ?_
  refine v_iload dL_law_747 0 rfl ?_
  refine v_iconst (v := 3) dL_law_749 (by decide) ?_
  refine v_iadd dL_law_750 ?_
  refine v_sld dL_law_751 (sv_sin (a := q) (c := 3) (by omega) (by omega)) ?_
  refine v_if_eq (tgt := 759) dL_law_752 (by decide) (fun c_752 => ?_) (fun c_752 => ?_)
  · refine v_iconst (v := 0) dL_law_759 (by decide) ?_
    refine v_aload_n dL_law_760 rfl 1 rfl ?_
    obtain ⟨Qr, Qx, ct, hR, hX⟩ := H0 h z hi
    refine v_callSW (M' := mL_run) (n := 5) (As := [_, _, _, _, _]) gc_115 rfl (by decide +kernel) ⟨(Nat.le_of_ble_eq_true rfl), (Nat.le_of_ble_eq_true rfl)⟩ dL_law_761 rfl ⟨by show ce + 6 ≤ 600002; omega, by show sl + 100 ≤ 7302198; omega⟩ (Nat.le_of_ble_eq_true rfl) rfl (w_run G h z b o _ _ _ fsb f0 Qr Qx hb ho ct (fun v h1 z1 hq => by obtain ⟨w, e1, ⟨f, e2⟩, _⟩ := hR v h1 z1 hq; exact ⟨w, f, e1, e2⟩) (fun E h1 z1 hq => by obtain ⟨j, e1, _⟩ := hX E h1 z1 hq; exact ((sv_n2 e1).elim (fun q => Or.inl q.1) (fun q => Or.inr q.1)))) (fun v h1 z1 hq => ?_)
    rcases hq with ⟨rfl, w, h2, g, hqr, ho1, hg0, hfr⟩ | ⟨rfl, hqx⟩ | ⟨rfl, hqx⟩
    · obtain ⟨w9, e1, -, hmo, ⟨fsm1, hm1⟩, hK⟩ := hR _ _ _ hqr
      cases e1
      obtain ⟨Q2, ct2, hQ2⟩ := hK h1 g ho1 hg0 hfr
      refine v_istore (L' := [(5, _), (4, _), (3, _), (2, _), (1, _), (0, _)]) dL_law_764 (Nat.le_of_ble_eq_true rfl) rfl ?_
      refine v_aload_n dL_law_766 rfl 3 rfl ?_
      refine v_aload_n dL_law_767 rfl 5 rfl ?_
      refine v_iload dL_law_768 1 rfl ?_
      refine v_iconst (v := 1) dL_law_770 (by decide) ?_
      refine v_iadd dL_law_771 ?_
      refine v_sld dL_law_772 (sv_sin (a := q) (c := 1) (by omega) (by omega)) ?_
      refine v_aload_n dL_law_773 rfl 5 rfl ?_
      refine v_iload dL_law_774 1 rfl ?_
      refine v_iconst (v := 2) dL_law_776 (by decide) ?_
      refine v_iadd dL_law_777 ?_
      refine v_sld dL_law_778 (sv_sin (a := q) (c := 2) (by omega) (by omega)) ?_
      refine v_aload_n dL_law_779 rfl 5 rfl ?_
      refine v_iload dL_law_780 1 rfl ?_
      refine v_iconst (v := 3) dL_law_782 (by decide) ?_
      refine v_iadd dL_law_783 ?_
      refine v_sld dL_law_784 (sv_sin (a := q) (c := 3) (by omega) (by omega)) ?_
      refine v_if_eq (tgt := 792) dL_law_785 (by decide) (fun c_785 => ?_) (fun c_785 => ?_)
      · refine v_iconst (v := 0) dL_law_792 (by decide) ?_
        refine v_callV (M' := mX13_run) (n := 3) (As := [_, _, _]) (ci := 11) (r := (RX13, TX13, 71)) gc_118 rfl (by decide +kernel) ⟨(Nat.le_of_ble_eq_true rfl), (Nat.le_of_ble_eq_true rfl)⟩ rfl rfl dL_law_793 rfl ⟨by show ce + 6 + 0 ≤ 600002; omega, by show sl + 100 + 0 ≤ 7302198; omega⟩ (Nat.le_of_ble_eq_true rfl) ((hfr _ hmo).trans hm1) rfl ct2 (fun v2 h3 z3 hq2 => ?_)
        obtain ⟨rfl, ⟨fs3, k1, k2, k3⟩, ho3, hi3⟩ := hQ2 _ _ _ hq2
        refine v_istore (L' := [(6, _), (5, _), (4, _), (3, _), (2, _), (1, _), (0, _)]) dL_law_796 (Nat.le_of_ble_eq_true rfl) rfl ?_
        refine v_aload_n dL_law_798 rfl 4 rfl ?_
        refine v_callV (M' := mX13_thrown) (n := 0) (As := []) (ci := 11) (r := (RX13, TX13, 71)) gc_94 rfl (by decide +kernel) ⟨(Nat.le_of_ble_eq_true rfl), (Nat.le_of_ble_eq_true rfl)⟩ rfl rfl dL_law_799 rfl ⟨by show ce + 6 + 0 + 0 ≤ 600002; omega, by show sl + 100 + 0 + 0 ≤ 7302198; omega⟩ (Nat.le_of_ble_eq_true rfl) k1 rfl (m_thrown G _ _ _ fs3 k2 k1 _ k3) (fun v4 h4 z4 hq4 => ?_)
        obtain ⟨rfl, rfl, rfl⟩ := hq4
        refine v_iload dL_law_802 1 rfl ?_
        refine v_icmp_eq (tgt := 809) dL_law_804 (by decide) (fun c_804 => ?_) (fun c_804 => ?_)
        · refine v_iload dL_law_809 1 rfl ?_
          refine v_if_ne (tgt := 826) dL_law_811 (by decide) (fun c_811 => ?_) (fun c_811 => ?_)
          · exact absurd rfl c_811
          · refine v_aload_n dL_law_814 rfl 3 rfl ?_
            refine v_iconst (v := 0) dL_law_815 (by decide) ?_
            refine v_lald dL_law_816 ho3 (by rw [← nI_0]; exact vp_in_nI (by omega) (by omega)) ?_
            refine v_iload dL_law_817 0 rfl ?_
            refine v_i2l dL_law_819 rfl ?_
            refine v_lcmp_eq (tgt := 826) dL_law_820 dL_law_821 (by decide) (fun c_821 => ?_) (fun c_821 => ?_)
            · refine v_goto (tgt := 1428) dL_law_826 (by decide) ?_
              refine v_sub (L' := [(4, _), (3, _), (2, _), (1, _), (0, _)]) [2, 3, 4, 5, 6] rfl ?_
              refine v_widen (ce' := ce + 6) (sl' := sl + 100) (by show ce + 6 + 0 + 0 ≤ ce + 6; omega) (by show sl + 100 + 0 + 0 ≤ sl + 100; omega) ?_
              exact hend _ _ hi3
            · exact absurd (by rw [sb_cl0, hg0]) c_821
        · exact absurd rfl c_804
      · exact absurd c_752 c_785
    · obtain ⟨j, e1, ⟨fsm1, hm1⟩, Q2, ct2, hQ2⟩ := hX _ _ _ hqx
      obtain rfl : j = 0 := by
        rcases sv_n2 e1 with ⟨e2, e3⟩ | ⟨e2, e3⟩
        · exact e3
        · exact absurd e2 (by decide)
      refine v_istore (L' := [(5, _), (4, _), (3, _), (2, _), (1, _), (0, _)]) dL_law_764 (Nat.le_of_ble_eq_true rfl) rfl ?_
      refine v_aload_n dL_law_766 rfl 3 rfl ?_
      refine v_aload_n dL_law_767 rfl 5 rfl ?_
      refine v_iload dL_law_768 1 rfl ?_
      refine v_iconst (v := 1) dL_law_770 (by decide) ?_
      refine v_iadd dL_law_771 ?_
      refine v_sld dL_law_772 (sv_sin (a := q) (c := 1) (by omega) (by omega)) ?_
      refine v_aload_n dL_law_773 rfl 5 rfl ?_
      refine v_iload dL_law_774 1 rfl ?_
      refine v_iconst (v := 2) dL_law_776 (by decide) ?_
      refine v_iadd dL_law_777 ?_
      refine v_sld dL_law_778 (sv_sin (a := q) (c := 2) (by omega) (by omega)) ?_
      refine v_aload_n dL_law_779 rfl 5 rfl ?_
      refine v_iload dL_law_780 1 rfl ?_
      refine v_iconst (v := 3) dL_law_782 (by decide) ?_
      refine v_iadd dL_law_783 ?_
      refine v_sld dL_law_784 (sv_sin (a := q) (c := 3) (by omega) (by omega)) ?_
      refine v_if_eq (tgt := 792) dL_law_785 (by decide) (fun c_785 => ?_) (fun c_785 => ?_)
      · refine v_iconst (v := 0) dL_law_792 (by decide) ?_
        refine v_callV (M' := mX13_run) (n := 3) (As := [_, _, _]) (ci := 11) (r := (RX13, TX13, 71)) gc_118 rfl (by decide +kernel) ⟨(Nat.le_of_ble_eq_true rfl), (Nat.le_of_ble_eq_true rfl)⟩ rfl rfl dL_law_793 rfl ⟨by show ce + 6 + 0 ≤ 600002; omega, by show sl + 100 + 0 ≤ 7302198; omega⟩ (Nat.le_of_ble_eq_true rfl) hm1 rfl ct2 (fun v2 h3 z3 hq2 => ?_)
        obtain ⟨⟨w2, rfl⟩, ⟨fs3, k1, k2, k3⟩, hi3⟩ := hQ2 _ _ _ hq2
        refine v_istore (L' := [(6, _), (5, _), (4, _), (3, _), (2, _), (1, _), (0, _)]) dL_law_796 (Nat.le_of_ble_eq_true rfl) rfl ?_
        refine v_aload_n dL_law_798 rfl 4 rfl ?_
        refine v_callV (M' := mX13_thrown) (n := 0) (As := []) (ci := 11) (r := (RX13, TX13, 71)) gc_94 rfl (by decide +kernel) ⟨(Nat.le_of_ble_eq_true rfl), (Nat.le_of_ble_eq_true rfl)⟩ rfl rfl dL_law_799 rfl ⟨by show ce + 6 + 0 + 0 ≤ 600002; omega, by show sl + 100 + 0 + 0 ≤ 7302198; omega⟩ (Nat.le_of_ble_eq_true rfl) k1 rfl (m_thrown G _ _ _ fs3 k2 k1 _ k3) (fun v4 h4 z4 hq4 => ?_)
        obtain ⟨rfl, rfl, rfl⟩ := hq4
        refine v_iload dL_law_802 1 rfl ?_
        refine v_icmp_eq (tgt := 809) dL_law_804 (by decide) (fun c_804 => ?_) (fun c_804 => ?_)
        · refine v_iload dL_law_809 1 rfl ?_
          refine v_if_ne (tgt := 826) dL_law_811 (by decide) (fun c_811 => ?_) (fun c_811 => ?_)
          · refine v_goto (tgt := 1428) dL_law_826 (by decide) ?_
            refine v_sub (L' := [(4, _), (3, _), (2, _), (1, _), (0, _)]) [2, 3, 4, 5, 6] rfl ?_
            refine v_widen (ce' := ce + 6) (sl' := sl + 100) (by show ce + 6 + 0 + 0 ≤ ce + 6; omega) (by show sl + 100 + 0 + 0 ≤ sl + 100; omega) ?_
            exact hend _ _ hi3
          · exact absurd c_811 (by decide)
        · exact absurd rfl c_804
      · exact absurd c_752 c_785
    · obtain ⟨j, e1, ⟨fsm1, hm1⟩, Q2, ct2, hQ2⟩ := hX _ _ _ hqx
      obtain rfl : j = 1 := by
        rcases sv_n2 e1 with ⟨e2, e3⟩ | ⟨e2, e3⟩
        · exact absurd e2 (by decide)
        · exact e3
      refine v_istore (L' := [(5, _), (4, _), (3, _), (2, _), (1, _), (0, _)]) dL_law_764 (Nat.le_of_ble_eq_true rfl) rfl ?_
      refine v_aload_n dL_law_766 rfl 3 rfl ?_
      refine v_aload_n dL_law_767 rfl 5 rfl ?_
      refine v_iload dL_law_768 1 rfl ?_
      refine v_iconst (v := 1) dL_law_770 (by decide) ?_
      refine v_iadd dL_law_771 ?_
      refine v_sld dL_law_772 (sv_sin (a := q) (c := 1) (by omega) (by omega)) ?_
      refine v_aload_n dL_law_773 rfl 5 rfl ?_
      refine v_iload dL_law_774 1 rfl ?_
      refine v_iconst (v := 2) dL_law_776 (by decide) ?_
      refine v_iadd dL_law_777 ?_
      refine v_sld dL_law_778 (sv_sin (a := q) (c := 2) (by omega) (by omega)) ?_
      refine v_aload_n dL_law_779 rfl 5 rfl ?_
      refine v_iload dL_law_780 1 rfl ?_
      refine v_iconst (v := 3) dL_law_782 (by decide) ?_
      refine v_iadd dL_law_783 ?_
      refine v_sld dL_law_784 (sv_sin (a := q) (c := 3) (by omega) (by omega)) ?_
      refine v_if_eq (tgt := 792) dL_law_785 (by decide) (fun c_785 => ?_) (fun c_785 => ?_)
      · refine v_iconst (v := 0) dL_law_792 (by decide) ?_
        refine v_callV (M' := mX13_run) (n := 3) (As := [_, _, _]) (ci := 11) (r := (RX13, TX13, 71)) gc_118 rfl (by decide +kernel) ⟨(Nat.le_of_ble_eq_true rfl), (Nat.le_of_ble_eq_true rfl)⟩ rfl rfl dL_law_793 rfl ⟨by show ce + 6 + 0 ≤ 600002; omega, by show sl + 100 + 0 ≤ 7302198; omega⟩ (Nat.le_of_ble_eq_true rfl) hm1 rfl ct2 (fun v2 h3 z3 hq2 => ?_)
        obtain ⟨⟨w2, rfl⟩, ⟨fs3, k1, k2, k3⟩, hi3⟩ := hQ2 _ _ _ hq2
        refine v_istore (L' := [(6, _), (5, _), (4, _), (3, _), (2, _), (1, _), (0, _)]) dL_law_796 (Nat.le_of_ble_eq_true rfl) rfl ?_
        refine v_aload_n dL_law_798 rfl 4 rfl ?_
        refine v_callV (M' := mX13_thrown) (n := 0) (As := []) (ci := 11) (r := (RX13, TX13, 71)) gc_94 rfl (by decide +kernel) ⟨(Nat.le_of_ble_eq_true rfl), (Nat.le_of_ble_eq_true rfl)⟩ rfl rfl dL_law_799 rfl ⟨by show ce + 6 + 0 + 0 ≤ 600002; omega, by show sl + 100 + 0 + 0 ≤ 7302198; omega⟩ (Nat.le_of_ble_eq_true rfl) k1 rfl (m_thrown G _ _ _ fs3 k2 k1 _ k3) (fun v4 h4 z4 hq4 => ?_)
        obtain ⟨rfl, rfl, rfl⟩ := hq4
        refine v_iload dL_law_802 1 rfl ?_
        refine v_icmp_eq (tgt := 809) dL_law_804 (by decide) (fun c_804 => ?_) (fun c_804 => ?_)
        · refine v_iload dL_law_809 1 rfl ?_
          refine v_if_ne (tgt := 826) dL_law_811 (by decide) (fun c_811 => ?_) (fun c_811 => ?_)
          · refine v_goto (tgt := 1428) dL_law_826 (by decide) ?_
            refine v_sub (L' := [(4, _), (3, _), (2, _), (1, _), (0, _)]) [2, 3, 4, 5, 6] rfl ?_
            refine v_widen (ce' := ce + 6) (sl' := sl + 100) (by show ce + 6 + 0 + 0 ≤ ce + 6; omega) (by show sl + 100 + 0 + 0 ≤ sl + 100; omega) ?_
            exact hend _ _ hi3
          · exact absurd c_811 (by decide)
        · exact absurd rfl c_804
      · exact absurd c_752 c_785
  · refine v_iconst (v := 1) dL_law_755 (by decide) ?_
    refine v_goto (tgt := 760) dL_law_756 (by decide) ?_
    refine v_aload_n dL_law_760 rfl 1 rfl ?_
    obtain ⟨Qr, Qx, ct, hR, hX⟩ := H1 h z hi
    refine v_callSW (M' := mL_run) (n := 5) (As := [_, _, _, _, _]) gc_115 rfl (by decide +kernel) ⟨(Nat.le_of_ble_eq_true rfl), (Nat.le_of_ble_eq_true rfl)⟩ dL_law_761 rfl ⟨by show ce + 6 ≤ 600002; omega, by show sl + 100 ≤ 7302198; omega⟩ (Nat.le_of_ble_eq_true rfl) rfl (w_run G h z b o _ _ _ fsb f0 Qr Qx hb ho ct (fun v h1 z1 hq => by obtain ⟨w, e1, ⟨f, e2⟩, _⟩ := hR v h1 z1 hq; exact ⟨w, f, e1, e2⟩) (fun E h1 z1 hq => by obtain ⟨j, e1, _⟩ := hX E h1 z1 hq; exact ((sv_n2 e1).elim (fun q => Or.inl q.1) (fun q => Or.inr q.1)))) (fun v h1 z1 hq => ?_)
    rcases hq with ⟨rfl, w, h2, g, hqr, ho1, hg0, hfr⟩ | ⟨rfl, hqx⟩ | ⟨rfl, hqx⟩
    · obtain ⟨w9, e1, -, hmo, ⟨fsm1, hm1⟩, hK⟩ := hR _ _ _ hqr
      cases e1
      obtain ⟨Q2, ct2, hQ2⟩ := hK h1 g ho1 hg0 hfr
      refine v_istore (L' := [(5, _), (4, _), (3, _), (2, _), (1, _), (0, _)]) dL_law_764 (Nat.le_of_ble_eq_true rfl) rfl ?_
      refine v_aload_n dL_law_766 rfl 3 rfl ?_
      refine v_aload_n dL_law_767 rfl 5 rfl ?_
      refine v_iload dL_law_768 1 rfl ?_
      refine v_iconst (v := 1) dL_law_770 (by decide) ?_
      refine v_iadd dL_law_771 ?_
      refine v_sld dL_law_772 (sv_sin (a := q) (c := 1) (by omega) (by omega)) ?_
      refine v_aload_n dL_law_773 rfl 5 rfl ?_
      refine v_iload dL_law_774 1 rfl ?_
      refine v_iconst (v := 2) dL_law_776 (by decide) ?_
      refine v_iadd dL_law_777 ?_
      refine v_sld dL_law_778 (sv_sin (a := q) (c := 2) (by omega) (by omega)) ?_
      refine v_aload_n dL_law_779 rfl 5 rfl ?_
      refine v_iload dL_law_780 1 rfl ?_
      refine v_iconst (v := 3) dL_law_782 (by decide) ?_
      refine v_iadd dL_law_783 ?_
      refine v_sld dL_law_784 (sv_sin (a := q) (c := 3) (by omega) (by omega)) ?_
      refine v_if_eq (tgt := 792) dL_law_785 (by decide) (fun c_785 => ?_) (fun c_785 => ?_)
      · exact absurd c_785 c_752
      · refine v_iconst (v := 1) dL_law_788 (by decide) ?_
        refine v_goto (tgt := 793) dL_law_789 (by decide) ?_
        refine v_callV (M' := mX13_run) (n := 3) (As := [_, _, _]) (ci := 11) (r := (RX13, TX13, 71)) gc_118 rfl (by decide +kernel) ⟨(Nat.le_of_ble_eq_true rfl), (Nat.le_of_ble_eq_true rfl)⟩ rfl rfl dL_law_793 rfl ⟨by show ce + 6 + 0 ≤ 600002; omega, by show sl + 100 + 0 ≤ 7302198; omega⟩ (Nat.le_of_ble_eq_true rfl) ((hfr _ hmo).trans hm1) rfl ct2 (fun v2 h3 z3 hq2 => ?_)
        obtain ⟨rfl, ⟨fs3, k1, k2, k3⟩, ho3, hi3⟩ := hQ2 _ _ _ hq2
        refine v_istore (L' := [(6, _), (5, _), (4, _), (3, _), (2, _), (1, _), (0, _)]) dL_law_796 (Nat.le_of_ble_eq_true rfl) rfl ?_
        refine v_aload_n dL_law_798 rfl 4 rfl ?_
        refine v_callV (M' := mX13_thrown) (n := 0) (As := []) (ci := 11) (r := (RX13, TX13, 71)) gc_94 rfl (by decide +kernel) ⟨(Nat.le_of_ble_eq_true rfl), (Nat.le_of_ble_eq_true rfl)⟩ rfl rfl dL_law_799 rfl ⟨by show ce + 6 + 0 + 0 ≤ 600002; omega, by show sl + 100 + 0 + 0 ≤ 7302198; omega⟩ (Nat.le_of_ble_eq_true rfl) k1 rfl (m_thrown G _ _ _ fs3 k2 k1 _ k3) (fun v4 h4 z4 hq4 => ?_)
        obtain ⟨rfl, rfl, rfl⟩ := hq4
        refine v_iload dL_law_802 1 rfl ?_
        refine v_icmp_eq (tgt := 809) dL_law_804 (by decide) (fun c_804 => ?_) (fun c_804 => ?_)
        · refine v_iload dL_law_809 1 rfl ?_
          refine v_if_ne (tgt := 826) dL_law_811 (by decide) (fun c_811 => ?_) (fun c_811 => ?_)
          · exact absurd rfl c_811
          · refine v_aload_n dL_law_814 rfl 3 rfl ?_
            refine v_iconst (v := 0) dL_law_815 (by decide) ?_
            refine v_lald dL_law_816 ho3 (by rw [← nI_0]; exact vp_in_nI (by omega) (by omega)) ?_
            refine v_iload dL_law_817 0 rfl ?_
            refine v_i2l dL_law_819 rfl ?_
            refine v_lcmp_eq (tgt := 826) dL_law_820 dL_law_821 (by decide) (fun c_821 => ?_) (fun c_821 => ?_)
            · refine v_goto (tgt := 1428) dL_law_826 (by decide) ?_
              refine v_sub (L' := [(4, _), (3, _), (2, _), (1, _), (0, _)]) [2, 3, 4, 5, 6] rfl ?_
              refine v_widen (ce' := ce + 6) (sl' := sl + 100) (by show ce + 6 + 0 + 0 ≤ ce + 6; omega) (by show sl + 100 + 0 + 0 ≤ sl + 100; omega) ?_
              exact hend _ _ hi3
            · exact absurd (by rw [sb_cl0, hg0]) c_821
        · exact absurd rfl c_804
    · obtain ⟨j, e1, ⟨fsm1, hm1⟩, Q2, ct2, hQ2⟩ := hX _ _ _ hqx
      obtain rfl : j = 0 := by
        rcases sv_n2 e1 with ⟨e2, e3⟩ | ⟨e2, e3⟩
        · exact e3
        · exact absurd e2 (by decide)
      refine v_istore (L' := [(5, _), (4, _), (3, _), (2, _), (1, _), (0, _)]) dL_law_764 (Nat.le_of_ble_eq_true rfl) rfl ?_
      refine v_aload_n dL_law_766 rfl 3 rfl ?_
      refine v_aload_n dL_law_767 rfl 5 rfl ?_
      refine v_iload dL_law_768 1 rfl ?_
      refine v_iconst (v := 1) dL_law_770 (by decide) ?_
      refine v_iadd dL_law_771 ?_
      refine v_sld dL_law_772 (sv_sin (a := q) (c := 1) (by omega) (by omega)) ?_
      refine v_aload_n dL_law_773 rfl 5 rfl ?_
      refine v_iload dL_law_774 1 rfl ?_
      refine v_iconst (v := 2) dL_law_776 (by decide) ?_
      refine v_iadd dL_law_777 ?_
      refine v_sld dL_law_778 (sv_sin (a := q) (c := 2) (by omega) (by omega)) ?_
      refine v_aload_n dL_law_779 rfl 5 rfl ?_
      refine v_iload dL_law_780 1 rfl ?_
      refine v_iconst (v := 3) dL_law_782 (by decide) ?_
      refine v_iadd dL_law_783 ?_
      refine v_sld dL_law_784 (sv_sin (a := q) (c := 3) (by omega) (by omega)) ?_
      refine v_if_eq (tgt := 792) dL_law_785 (by decide) (fun c_785 => ?_) (fun c_785 => ?_)
      · exact absurd c_785 c_752
      · refine v_iconst (v := 1) dL_law_788 (by decide) ?_
        refine v_goto (tgt := 793) dL_law_789 (by decide) ?_
        refine v_callV (M' := mX13_run) (n := 3) (As := [_, _, _]) (ci := 11) (r := (RX13, TX13, 71)) gc_118 rfl (by decide +kernel) ⟨(Nat.le_of_ble_eq_true rfl), (Nat.le_of_ble_eq_true rfl)⟩ rfl rfl dL_law_793 rfl ⟨by show ce + 6 + 0 ≤ 600002; omega, by show sl + 100 + 0 ≤ 7302198; omega⟩ (Nat.le_of_ble_eq_true rfl) hm1 rfl ct2 (fun v2 h3 z3 hq2 => ?_)
        obtain ⟨⟨w2, rfl⟩, ⟨fs3, k1, k2, k3⟩, hi3⟩ := hQ2 _ _ _ hq2
        refine v_istore (L' := [(6, _), (5, _), (4, _), (3, _), (2, _), (1, _), (0, _)]) dL_law_796 (Nat.le_of_ble_eq_true rfl) rfl ?_
        refine v_aload_n dL_law_798 rfl 4 rfl ?_
        refine v_callV (M' := mX13_thrown) (n := 0) (As := []) (ci := 11) (r := (RX13, TX13, 71)) gc_94 rfl (by decide +kernel) ⟨(Nat.le_of_ble_eq_true rfl), (Nat.le_of_ble_eq_true rfl)⟩ rfl rfl dL_law_799 rfl ⟨by show ce + 6 + 0 + 0 ≤ 600002; omega, by show sl + 100 + 0 + 0 ≤ 7302198; omega⟩ (Nat.le_of_ble_eq_true rfl) k1 rfl (m_thrown G _ _ _ fs3 k2 k1 _ k3) (fun v4 h4 z4 hq4 => ?_)
        obtain ⟨rfl, rfl, rfl⟩ := hq4
        refine v_iload dL_law_802 1 rfl ?_
        refine v_icmp_eq (tgt := 809) dL_law_804 (by decide) (fun c_804 => ?_) (fun c_804 => ?_)
        · refine v_iload dL_law_809 1 rfl ?_
          refine v_if_ne (tgt := 826) dL_law_811 (by decide) (fun c_811 => ?_) (fun c_811 => ?_)
          · refine v_goto (tgt := 1428) dL_law_826 (by decide) ?_
            refine v_sub (L' := [(4, _), (3, _), (2, _), (1, _), (0, _)]) [2, 3, 4, 5, 6] rfl ?_
            refine v_widen (ce' := ce + 6) (sl' := sl + 100) (by show ce + 6 + 0 + 0 ≤ ce + 6; omega) (by show sl + 100 + 0 + 0 ≤ sl + 100; omega) ?_
            exact hend _ _ hi3
          · exact absurd c_811 (by decide)
        · exact absurd rfl c_804
    · obtain ⟨j, e1, ⟨fsm1, hm1⟩, Q2, ct2, hQ2⟩ := hX _ _ _ hqx
      obtain rfl : j = 1 := by
        rcases sv_n2 e1 with ⟨e2, e3⟩ | ⟨e2, e3⟩
        · exact absurd e2 (by decide)
        · exact e3
      refine v_istore (L' := [(5, _), (4, _), (3, _), (2, _), (1, _), (0, _)]) dL_law_764 (Nat.le_of_ble_eq_true rfl) rfl ?_
      refine v_aload_n dL_law_766 rfl 3 rfl ?_
      refine v_aload_n dL_law_767 rfl 5 rfl ?_
      refine v_iload dL_law_768 1 rfl ?_
      refine v_iconst (v := 1) dL_law_770 (by decide) ?_
      refine v_iadd dL_law_771 ?_
      refine v_sld dL_law_772 (sv_sin (a := q) (c := 1) (by omega) (by omega)) ?_
      refine v_aload_n dL_law_773 rfl 5 rfl ?_
      refine v_iload dL_law_774 1 rfl ?_
      refine v_iconst (v := 2) dL_law_776 (by decide) ?_
      refine v_iadd dL_law_777 ?_
      refine v_sld dL_law_778 (sv_sin (a := q) (c := 2) (by omega) (by omega)) ?_
      refine v_aload_n dL_law_779 rfl 5 rfl ?_
      refine v_iload dL_law_780 1 rfl ?_
      refine v_iconst (v := 3) dL_law_782 (by decide) ?_
      refine v_iadd dL_law_783 ?_
      refine v_sld dL_law_784 (sv_sin (a := q) (c := 3) (by omega) (by omega)) ?_
      refine v_if_eq (tgt := 792) dL_law_785 (by decide) (fun c_785 => ?_) (fun c_785 => ?_)
      · exact absurd c_785 c_752
      · refine v_iconst (v := 1) dL_law_788 (by decide) ?_
        refine v_goto (tgt := 793) dL_law_789 (by decide) ?_
        refine v_callV (M' := mX13_run) (n := 3) (As := [_, _, _]) (ci := 11) (r := (RX13, TX13, 71)) gc_118 rfl (by decide +kernel) ⟨(Nat.le_of_ble_eq_true rfl), (Nat.le_of_ble_eq_true rfl)⟩ rfl rfl dL_law_793 rfl ⟨by show ce + 6 + 0 ≤ 600002; omega, by show sl + 100 + 0 ≤ 7302198; omega⟩ (Nat.le_of_ble_eq_true rfl) hm1 rfl ct2 (fun v2 h3 z3 hq2 => ?_)
        obtain ⟨⟨w2, rfl⟩, ⟨fs3, k1, k2, k3⟩, hi3⟩ := hQ2 _ _ _ hq2
        refine v_istore (L' := [(6, _), (5, _), (4, _), (3, _), (2, _), (1, _), (0, _)]) dL_law_796 (Nat.le_of_ble_eq_true rfl) rfl ?_
        refine v_aload_n dL_law_798 rfl 4 rfl ?_
        refine v_callV (M' := mX13_thrown) (n := 0) (As := []) (ci := 11) (r := (RX13, TX13, 71)) gc_94 rfl (by decide +kernel) ⟨(Nat.le_of_ble_eq_true rfl), (Nat.le_of_ble_eq_true rfl)⟩ rfl rfl dL_law_799 rfl ⟨by show ce + 6 + 0 + 0 ≤ 600002; omega, by show sl + 100 + 0 + 0 ≤ 7302198; omega⟩ (Nat.le_of_ble_eq_true rfl) k1 rfl (m_thrown G _ _ _ fs3 k2 k1 _ k3) (fun v4 h4 z4 hq4 => ?_)
        obtain ⟨rfl, rfl, rfl⟩ := hq4
        refine v_iload dL_law_802 1 rfl ?_
        refine v_icmp_eq (tgt := 809) dL_law_804 (by decide) (fun c_804 => ?_) (fun c_804 => ?_)
        · refine v_iload dL_law_809 1 rfl ?_
          refine v_if_ne (tgt := 826) dL_law_811 (by decide) (fun c_811 => ?_) (fun c_811 => ?_)
          · refine v_goto (tgt := 1428) dL_law_826 (by decide) ?_
            refine v_sub (L' := [(4, _), (3, _), (2, _), (1, _), (0, _)]) [2, 3, 4, 5, 6] rfl ?_
            refine v_widen (ce' := ce + 6) (sl' := sl + 100) (by show ce + 6 + 0 + 0 ≤ ce + 6; omega) (by show sl + 100 + 0 + 0 ≤ sl + 100; omega) ?_
            exact hend _ _ hi3
          · exact absurd c_811 (by decide)
        · exact absurd rfl c_804

