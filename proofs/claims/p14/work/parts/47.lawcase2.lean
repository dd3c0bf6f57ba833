set_option maxHeartbeats 4000000 in
set_option maxRecDepth 100000 in
theorem lc_10 {p : Program} {l : Launch} {e : Env} {s : State} {m : MethodId} {below : List Frame} {meth : Method} {c : Code} {D : va_G} {ca : Nat → ClassId} {b L x o j : Nat} {xs : Nat → Int32} {M : mw_M} {sz : Nat} (X : mw_X p s m #[Value.ref b] meth c cL_law 7 RL lw_tbl D vwCl (mt ca)) (hX : va_X b L xs s s.heap) (hbl : b < s.heap.size) (hl0 : l.stackTraces = false) (hZ : mx_Z (fun q => s.heap.size ≤ q) s s.heap) (hox : o = x + 14) (hj : 4 * j + 4 ≤ L) (hL : L ≤ 2048) (hI : Inv ca M x o) (hn : ∀ (M' : mw_M) (sz' : Nat), Inv ca M' x o → mw_J p l e room_1 s m #[Value.ref b] below meth c 7 D vwCl (fun q => s.heap.size ≤ q) (lw_Z below #[Value.ref b] s) 709 [(4, .int (nI (4 * j))), (3, .ref (x + 29)), (2, .ref o), (1, .ref x), (0, .ref b)] [] M' sz' (31 + 5 * (j + 1)) (9467 + 88 * (j + 1))) : mw_J p l e room_1 s m #[Value.ref b] below meth c 7 D vwCl (fun q => s.heap.size ≤ q) (lw_Z below #[Value.ref b] s) 341 [(4, .int (nI (4 * j))), (3, .ref (x + 29)), (2, .ref o), (1, .ref x), (0, .ref b)] [] M sz (31 + 5 * j) (9467 + 88 * j) := by
  refine mj_aload_n X dL_law_341 rfl 3 rfl ?_
  refine mj_aload_n X dL_law_342 rfl 4 rfl ?_
  refine mj_iload X dL_law_343 0 rfl ?_
  refine mj_iconst X (v := nI 1) dL_law_345 (by decide +kernel) ?_
  refine mj_iadd X dL_law_346 ?_
  refine mj_top (nI (4 * j + 1)) (nI_add (4 * j) 1) ?_
  refine mj_sld X hX hbl (Nat.not_le.mpr hbl) (vp_in_nI (show 4 * j + 1 < L by omega) (by omega)) dL_law_347 ?_
  refine mj_top (xs (4 * j + 1)) (by rw [nI_clamp (by omega)]) ?_
  refine mj_aload_n X dL_law_348 rfl 4 rfl ?_
  refine mj_iload X dL_law_349 0 rfl ?_
  refine mj_iconst X (v := nI 2) dL_law_351 (by decide +kernel) ?_
  refine mj_iadd X dL_law_352 ?_
  refine mj_top (nI (4 * j + 2)) (nI_add (4 * j) 2) ?_
  refine mj_sld X hX hbl (Nat.not_le.mpr hbl) (vp_in_nI (show 4 * j + 2 < L by omega) (by omega)) dL_law_353 ?_
  refine mj_top (xs (4 * j + 2)) (by rw [nI_clamp (by omega)]) ?_
  refine mj_aload_n X dL_law_354 rfl 4 rfl ?_
  refine mj_iload X dL_law_355 0 rfl ?_
  refine mj_iconst X (v := nI 3) dL_law_357 (by decide +kernel) ?_
  refine mj_iadd X dL_law_358 ?_
  refine mj_top (nI (4 * j + 3)) (nI_add (4 * j) 3) ?_
  refine mj_sld X hX hbl (Nat.not_le.mpr hbl) (vp_in_nI (show 4 * j + 3 < L by omega) (by omega)) dL_law_359 ?_
  refine mj_top (xs (4 * j + 3)) (by rw [nI_clamp (by omega)]) ?_
  obtain ⟨fx, hfx⟩ := hI.x
  refine mj_callV X 3 (lw_g gL_law_X8_about) rfl (by decide +kernel) ⟨by decide, by decide⟩ (pr_about l D hox hI ((xs (4 * j + 1))) ((xs (4 * j + 2))) ((xs (4 * j + 3)))) rfl hfx rfl rfl (Nat.le_of_ble_eq_true rfl) dL_law_360 ⟨by show 31 + 5 * j + 0 ≤ 601024; omega, by show 9467 + 88 * j + 0 ≤ 7293034; omega⟩ (mk_i (fun r1 M1 s1 h1 => ?_))
  obtain ⟨⟨fs, hfs⟩, hc⟩ := h1
  refine mj_pop X dL_law_363 rfl ?_
  refine mj_aload_n X dL_law_364 rfl 2 rfl ?_
  refine mj_aload_n X dL_law_365 rfl 4 rfl ?_
  refine mj_iload X dL_law_366 0 rfl ?_
  refine mj_iconst X (v := nI 1) dL_law_368 (by decide +kernel) ?_
  refine mj_iadd X dL_law_369 ?_
  refine mj_top (nI (4 * j + 1)) (nI_add (4 * j) 1) ?_
  refine mj_sld X hX hbl (Nat.not_le.mpr hbl) (vp_in_nI (show 4 * j + 1 < L by omega) (by omega)) dL_law_370 ?_
  refine mj_top (xs (4 * j + 1)) (by rw [nI_clamp (by omega)]) ?_
  refine mj_aload_n X dL_law_371 rfl 4 rfl ?_
  refine mj_iload X dL_law_372 0 rfl ?_
  refine mj_iconst X (v := nI 2) dL_law_374 (by decide +kernel) ?_
  refine mj_iadd X dL_law_375 ?_
  refine mj_top (nI (4 * j + 2)) (nI_add (4 * j) 2) ?_
  refine mj_sld X hX hbl (Nat.not_le.mpr hbl) (vp_in_nI (show 4 * j + 2 < L by omega) (by omega)) dL_law_376 ?_
  refine mj_top (xs (4 * j + 2)) (by rw [nI_clamp (by omega)]) ?_
  refine mj_aload_n X dL_law_377 rfl 4 rfl ?_
  refine mj_iload X dL_law_378 0 rfl ?_
  refine mj_iconst X (v := nI 3) dL_law_380 (by decide +kernel) ?_
  refine mj_iadd X dL_law_381 ?_
  refine mj_top (nI (4 * j + 3)) (nI_add (4 * j) 3) ?_
  refine mj_sld X hX hbl (Nat.not_le.mpr hbl) (vp_in_nI (show 4 * j + 3 < L by omega) (by omega)) dL_law_382 ?_
  refine mj_top (xs (4 * j + 3)) (by rw [nI_clamp (by omega)]) ?_
  refine mj_callV X 3 (lw_g gL_law_X9_about) rfl (by decide +kernel) ⟨by decide, by decide⟩ hc rfl hfs rfl rfl (Nat.le_of_ble_eq_true rfl) dL_law_383 ⟨by show 31 + 5 * j + 0 + 0 ≤ 601024; omega, by show 9467 + 88 * j + 0 + 0 ≤ 7293034; omega⟩ (mk_i (fun r2 M2 s2 h2 => ?_))
  refine mj_pop X dL_law_386 rfl ?_
  refine mj_goto X 709 dL_law_387 (by decide) ?_
  exact mj_widen (31 + 5 * (j + 1)) (9467 + 88 * (j + 1)) (by show 31 + 5 * j + 0 + 0 ≤ 31 + 5 * (j + 1); omega) (by show 9467 + 88 * j + 0 + 0 ≤ 9467 + 88 * (j + 1); omega) (hn M2 s2 h2.2)

set_option maxHeartbeats 4000000 in
set_option maxRecDepth 100000 in
theorem lc_11 {p : Program} {l : Launch} {e : Env} {s : State} {m : MethodId} {below : List Frame} {meth : Method} {c : Code} {D : va_G} {ca : Nat → ClassId} {b L x o j : Nat} {xs : Nat → Int32} {M : mw_M} {sz : Nat} (X : mw_X p s m #[Value.ref b] meth c cL_law 7 RL lw_tbl D vwCl (mt ca)) (hX : va_X b L xs s s.heap) (hbl : b < s.heap.size) (hl0 : l.stackTraces = false) (hZ : mx_Z (fun q => s.heap.size ≤ q) s s.heap) (hox : o = x + 14) (hj : 4 * j + 4 ≤ L) (hL : L ≤ 2048) (hI : Inv ca M x o) (hn : ∀ (M' : mw_M) (sz' : Nat), Inv ca M' x o → mw_J p l e room_1 s m #[Value.ref b] below meth c 7 D vwCl (fun q => s.heap.size ≤ q) (lw_Z below #[Value.ref b] s) 709 [(4, .int (nI (4 * j))), (3, .ref (x + 29)), (2, .ref o), (1, .ref x), (0, .ref b)] [] M' sz' (31 + 5 * (j + 1)) (9467 + 88 * (j + 1))) : mw_J p l e room_1 s m #[Value.ref b] below meth c 7 D vwCl (fun q => s.heap.size ≤ q) (lw_Z below #[Value.ref b] s) 390 [(4, .int (nI (4 * j))), (3, .ref (x + 29)), (2, .ref o), (1, .ref x), (0, .ref b)] [] M sz (31 + 5 * j) (9467 + 88 * j) := by
  refine mj_aload_n X dL_law_390 rfl 3 rfl ?_
  refine mj_aload_n X dL_law_391 rfl 4 rfl ?_
  refine mj_iload X dL_law_392 0 rfl ?_
  refine mj_iconst X (v := nI 1) dL_law_394 (by decide +kernel) ?_
  refine mj_iadd X dL_law_395 ?_
  refine mj_top (nI (4 * j + 1)) (nI_add (4 * j) 1) ?_
  refine mj_sld X hX hbl (Nat.not_le.mpr hbl) (vp_in_nI (show 4 * j + 1 < L by omega) (by omega)) dL_law_396 ?_
  refine mj_top (xs (4 * j + 1)) (by rw [nI_clamp (by omega)]) ?_
  refine mj_aload_n X dL_law_397 rfl 4 rfl ?_
  refine mj_iload X dL_law_398 0 rfl ?_
  refine mj_iconst X (v := nI 2) dL_law_400 (by decide +kernel) ?_
  refine mj_iadd X dL_law_401 ?_
  refine mj_top (nI (4 * j + 2)) (nI_add (4 * j) 2) ?_
  refine mj_sld X hX hbl (Nat.not_le.mpr hbl) (vp_in_nI (show 4 * j + 2 < L by omega) (by omega)) dL_law_402 ?_
  refine mj_top (xs (4 * j + 2)) (by rw [nI_clamp (by omega)]) ?_
  refine mj_aload_n X dL_law_403 rfl 4 rfl ?_
  refine mj_iload X dL_law_404 0 rfl ?_
  refine mj_iconst X (v := nI 3) dL_law_406 (by decide +kernel) ?_
  refine mj_iadd X dL_law_407 ?_
  refine mj_top (nI (4 * j + 3)) (nI_add (4 * j) 3) ?_
  refine mj_sld X hX hbl (Nat.not_le.mpr hbl) (vp_in_nI (show 4 * j + 3 < L by omega) (by omega)) dL_law_408 ?_
  refine mj_top (xs (4 * j + 3)) (by rw [nI_clamp (by omega)]) ?_
  obtain ⟨fx, hfx⟩ := hI.x
  refine mj_callV X 3 (lw_g gL_law_X8_sign) rfl (by decide +kernel) ⟨by decide, by decide⟩ (pr_sign l D hox hI ((xs (4 * j + 1))) ((xs (4 * j + 2))) ((xs (4 * j + 3)))) rfl hfx rfl rfl (Nat.le_of_ble_eq_true rfl) dL_law_409 ⟨by show 31 + 5 * j + 0 ≤ 601024; omega, by show 9467 + 88 * j + 0 ≤ 7293034; omega⟩ (mk_i (fun r1 M1 s1 h1 => ?_))
  obtain ⟨⟨fs, hfs⟩, hc⟩ := h1
  refine mj_pop X dL_law_412 rfl ?_
  refine mj_aload_n X dL_law_413 rfl 2 rfl ?_
  refine mj_aload_n X dL_law_414 rfl 4 rfl ?_
  refine mj_iload X dL_law_415 0 rfl ?_
  refine mj_iconst X (v := nI 1) dL_law_417 (by decide +kernel) ?_
  refine mj_iadd X dL_law_418 ?_
  refine mj_top (nI (4 * j + 1)) (nI_add (4 * j) 1) ?_
  refine mj_sld X hX hbl (Nat.not_le.mpr hbl) (vp_in_nI (show 4 * j + 1 < L by omega) (by omega)) dL_law_419 ?_
  refine mj_top (xs (4 * j + 1)) (by rw [nI_clamp (by omega)]) ?_
  refine mj_aload_n X dL_law_420 rfl 4 rfl ?_
  refine mj_iload X dL_law_421 0 rfl ?_
  refine mj_iconst X (v := nI 2) dL_law_423 (by decide +kernel) ?_
  refine mj_iadd X dL_law_424 ?_
  refine mj_top (nI (4 * j + 2)) (nI_add (4 * j) 2) ?_
  refine mj_sld X hX hbl (Nat.not_le.mpr hbl) (vp_in_nI (show 4 * j + 2 < L by omega) (by omega)) dL_law_425 ?_
  refine mj_top (xs (4 * j + 2)) (by rw [nI_clamp (by omega)]) ?_
  refine mj_aload_n X dL_law_426 rfl 4 rfl ?_
  refine mj_iload X dL_law_427 0 rfl ?_
  refine mj_iconst X (v := nI 3) dL_law_429 (by decide +kernel) ?_
  refine mj_iadd X dL_law_430 ?_
  refine mj_top (nI (4 * j + 3)) (nI_add (4 * j) 3) ?_
  refine mj_sld X hX hbl (Nat.not_le.mpr hbl) (vp_in_nI (show 4 * j + 3 < L by omega) (by omega)) dL_law_431 ?_
  refine mj_top (xs (4 * j + 3)) (by rw [nI_clamp (by omega)]) ?_
  refine mj_callV X 3 (lw_g gL_law_X9_sign) rfl (by decide +kernel) ⟨by decide, by decide⟩ hc rfl hfs rfl rfl (Nat.le_of_ble_eq_true rfl) dL_law_432 ⟨by show 31 + 5 * j + 0 + 0 ≤ 601024; omega, by show 9467 + 88 * j + 0 + 0 ≤ 7293034; omega⟩ (mk_i (fun r2 M2 s2 h2 => ?_))
  refine mj_pop X dL_law_435 rfl ?_
  refine mj_goto X 709 dL_law_436 (by decide) ?_
  exact mj_widen (31 + 5 * (j + 1)) (9467 + 88 * (j + 1)) (by show 31 + 5 * j + 0 + 0 ≤ 31 + 5 * (j + 1); omega) (by show 9467 + 88 * j + 0 + 0 ≤ 9467 + 88 * (j + 1); omega) (hn M2 s2 h2.2)

set_option maxHeartbeats 4000000 in
set_option maxRecDepth 100000 in
theorem lc_12 {p : Program} {l : Launch} {e : Env} {s : State} {m : MethodId} {below : List Frame} {meth : Method} {c : Code} {D : va_G} {ca : Nat → ClassId} {b L x o j : Nat} {xs : Nat → Int32} {M : mw_M} {sz : Nat} (X : mw_X p s m #[Value.ref b] meth c cL_law 7 RL lw_tbl D vwCl (mt ca)) (hX : va_X b L xs s s.heap) (hbl : b < s.heap.size) (hl0 : l.stackTraces = false) (hZ : mx_Z (fun q => s.heap.size ≤ q) s s.heap) (hox : o = x + 14) (hj : 4 * j + 4 ≤ L) (hL : L ≤ 2048) (hI : Inv ca M x o) (hn : ∀ (M' : mw_M) (sz' : Nat), Inv ca M' x o → mw_J p l e room_1 s m #[Value.ref b] below meth c 7 D vwCl (fun q => s.heap.size ≤ q) (lw_Z below #[Value.ref b] s) 709 [(4, .int (nI (4 * j))), (3, .ref (x + 29)), (2, .ref o), (1, .ref x), (0, .ref b)] [] M' sz' (31 + 5 * (j + 1)) (9467 + 88 * (j + 1))) : mw_J p l e room_1 s m #[Value.ref b] below meth c 7 D vwCl (fun q => s.heap.size ≤ q) (lw_Z below #[Value.ref b] s) 439 [(4, .int (nI (4 * j))), (3, .ref (x + 29)), (2, .ref o), (1, .ref x), (0, .ref b)] [] M sz (31 + 5 * j) (9467 + 88 * j) := by
  refine mj_aload_n X dL_law_439 rfl 3 rfl ?_
  refine mj_aload_n X dL_law_440 rfl 4 rfl ?_
  refine mj_iload X dL_law_441 0 rfl ?_
  refine mj_iconst X (v := nI 1) dL_law_443 (by decide +kernel) ?_
  refine mj_iadd X dL_law_444 ?_
  refine mj_top (nI (4 * j + 1)) (nI_add (4 * j) 1) ?_
  refine mj_sld X hX hbl (Nat.not_le.mpr hbl) (vp_in_nI (show 4 * j + 1 < L by omega) (by omega)) dL_law_445 ?_
  refine mj_top (xs (4 * j + 1)) (by rw [nI_clamp (by omega)]) ?_
  refine mj_aload_n X dL_law_446 rfl 4 rfl ?_
  refine mj_iload X dL_law_447 0 rfl ?_
  refine mj_iconst X (v := nI 2) dL_law_449 (by decide +kernel) ?_
  refine mj_iadd X dL_law_450 ?_
  refine mj_top (nI (4 * j + 2)) (nI_add (4 * j) 2) ?_
  refine mj_sld X hX hbl (Nat.not_le.mpr hbl) (vp_in_nI (show 4 * j + 2 < L by omega) (by omega)) dL_law_451 ?_
  refine mj_top (xs (4 * j + 2)) (by rw [nI_clamp (by omega)]) ?_
  refine mj_aload_n X dL_law_452 rfl 4 rfl ?_
  refine mj_iload X dL_law_453 0 rfl ?_
  refine mj_iconst X (v := nI 3) dL_law_455 (by decide +kernel) ?_
  refine mj_iadd X dL_law_456 ?_
  refine mj_top (nI (4 * j + 3)) (nI_add (4 * j) 3) ?_
  refine mj_sld X hX hbl (Nat.not_le.mpr hbl) (vp_in_nI (show 4 * j + 3 < L by omega) (by omega)) dL_law_457 ?_
  refine mj_top (xs (4 * j + 3)) (by rw [nI_clamp (by omega)]) ?_
  refine mj_aload_n X dL_law_458 rfl 1 rfl ?_
  refine mx_callSW X 5 lw_gat rfl (by decide +kernel) ⟨by decide, by decide⟩ (pr_at l hl0 D hox hI ((xs (4 * j + 1))) ((xs (4 * j + 2))) ((xs (4 * j + 3)))) hZ rfl rfl (Nat.le_of_ble_eq_true rfl) dL_law_459 ⟨by show 31 + 5 * j + 1 ≤ 601024; omega, by show 9467 + 88 * j + 6 ≤ 7293034; omega⟩ (mk_i (fun r1 M1 s1 h1 => ?_))
  obtain ⟨⟨fs, hfs⟩, hc⟩ := h1
  refine mj_istore X [(5, .int r1), (4, .int (nI (4 * j))), (3, .ref (x + 29)), (2, .ref o), (1, .ref x), (0, .ref b)] dL_law_462 (by decide) rfl ?_
  refine mj_aload_n X dL_law_464 rfl 3 rfl ?_
  refine mj_aload_n X dL_law_465 rfl 5 rfl ?_
  refine mj_iload X dL_law_466 1 rfl ?_
  refine mj_iconst X (v := nI 1) dL_law_468 (by decide +kernel) ?_
  refine mj_iadd X dL_law_469 ?_
  refine mj_top (nI (4 * j + 1)) (nI_add (4 * j) 1) ?_
  refine mj_sld X hX hbl (Nat.not_le.mpr hbl) (vp_in_nI (show 4 * j + 1 < L by omega) (by omega)) dL_law_470 ?_
  refine mj_top (xs (4 * j + 1)) (by rw [nI_clamp (by omega)]) ?_
  refine mj_aload_n X dL_law_471 rfl 5 rfl ?_
  refine mj_iload X dL_law_472 1 rfl ?_
  refine mj_iconst X (v := nI 2) dL_law_474 (by decide +kernel) ?_
  refine mj_iadd X dL_law_475 ?_
  refine mj_top (nI (4 * j + 2)) (nI_add (4 * j) 2) ?_
  refine mj_sld X hX hbl (Nat.not_le.mpr hbl) (vp_in_nI (show 4 * j + 2 < L by omega) (by omega)) dL_law_476 ?_
  refine mj_top (xs (4 * j + 2)) (by rw [nI_clamp (by omega)]) ?_
  refine mj_aload_n X dL_law_477 rfl 5 rfl ?_
  refine mj_iload X dL_law_478 1 rfl ?_
  refine mj_iconst X (v := nI 3) dL_law_480 (by decide +kernel) ?_
  refine mj_iadd X dL_law_481 ?_
  refine mj_top (nI (4 * j + 3)) (nI_add (4 * j) 3) ?_
  refine mj_sld X hX hbl (Nat.not_le.mpr hbl) (vp_in_nI (show 4 * j + 3 < L by omega) (by omega)) dL_law_482 ?_
  refine mj_top (xs (4 * j + 3)) (by rw [nI_clamp (by omega)]) ?_
  refine mj_callV X 3 (lw_g gL_law_X9_at) rfl (by decide +kernel) ⟨by decide, by decide⟩ hc rfl hfs rfl rfl (Nat.le_of_ble_eq_true rfl) dL_law_483 ⟨by show 31 + 5 * j + 1 + 0 ≤ 601024; omega, by show 9467 + 88 * j + 6 + 0 ≤ 7293034; omega⟩ (mk_i (fun r2 M2 s2 h2 => ?_))
  refine mj_istore X [(6, .int r2), (5, .int r1), (4, .int (nI (4 * j))), (3, .ref (x + 29)), (2, .ref o), (1, .ref x), (0, .ref b)] dL_law_486 (by decide) rfl ?_
  refine mj_aload_n X dL_law_488 rfl 4 rfl ?_
  obtain ⟨hI2, ⟨e1, ⟨t1, t2, t3, t4, t5, t6, t7, t8, t9, t10, ht⟩, fl, hfl, efl⟩ | ⟨e1, t1, t2, t3, t4, t5, t6, t7, t8, t9, t10, ht⟩⟩ := h2
  · subst e1
    refine mj_callV X 0 (lw_g gL_law_X9_thrown) rfl (by decide +kernel) ⟨by decide, by decide⟩ (c_M_thrown l D ca M2 s2 o 0 t1 t2 t3 t4 t5 t6 t7 t8 t9 t10 ht) rfl ht rfl rfl (Nat.le_of_ble_eq_true rfl) dL_law_489 ⟨by show 31 + 5 * j + 1 + 0 + 0 ≤ 601024; omega, by show 9467 + 88 * j + 6 + 0 + 0 ≤ 7293034; omega⟩ (mk_ri (fun r3 h3 => ?_))
    subst h3
    refine mj_iload X dL_law_492 1 rfl ?_
    refine mj_icmp_eq X 499 dL_law_494 (by decide) (fun _ => ?_) (fun c9 => absurd rfl c9)
    refine mj_iload X dL_law_499 1 rfl ?_
    refine mj_if_ne X 516 dL_law_501 (by decide) (fun c9 => absurd rfl c9) (fun _ => ?_)
    refine mj_aload_n X dL_law_504 rfl 3 rfl ?_
    refine mj_iconst X (v := nI 0) dL_law_505 (by decide +kernel) ?_
    refine mj_lald X 6 (fl 0) rfl hfl (vp_in_nI (by omega) (by omega)) (by rw [nI_clamp (by omega)]) dL_law_506 ?_
    refine mj_top' (.long r2.toInt64) (by rw [efl]) ?_
    refine mj_iload X dL_law_507 0 rfl ?_
    refine mj_i2l X dL_law_509 ?_
    refine mj_lcmp X dL_law_510 ?_
    refine mj_top 0 (lg_cmp_self _) ?_
    refine mj_if_eq X 516 dL_law_511 (by decide) (fun _ => ?_) (fun c9 => absurd rfl c9)
    refine mj_goto X 709 dL_law_516 (by decide) ?_
    refine mj_sub [2, 3, 4, 5, 6] rfl ?_
    exact mj_widen (31 + 5 * (j + 1)) (9467 + 88 * (j + 1)) (by show 31 + 5 * j + 1 + 0 + 0 ≤ 31 + 5 * (j + 1); omega) (by show 9467 + 88 * j + 6 + 0 + 0 ≤ 9467 + 88 * (j + 1); omega) (hn M2 s2 hI2)
  · subst e1
    refine mj_callV X 0 (lw_g gL_law_X9_thrown) rfl (by decide +kernel) ⟨by decide, by decide⟩ (c_M_thrown l D ca M2 s2 o 1 t1 t2 t3 t4 t5 t6 t7 t8 t9 t10 ht) rfl ht rfl rfl (Nat.le_of_ble_eq_true rfl) dL_law_489 ⟨by show 31 + 5 * j + 1 + 0 + 0 ≤ 601024; omega, by show 9467 + 88 * j + 6 + 0 + 0 ≤ 7293034; omega⟩ (mk_ri (fun r3 h3 => ?_))
    subst h3
    refine mj_iload X dL_law_492 1 rfl ?_
    refine mj_icmp_eq X 499 dL_law_494 (by decide) (fun _ => ?_) (fun c9 => absurd rfl c9)
    refine mj_iload X dL_law_499 1 rfl ?_
    refine mj_if_ne X 516 dL_law_501 (by decide) (fun _ => ?_) (fun c9 => absurd c9 (by decide))
    refine mj_goto X 709 dL_law_516 (by decide) ?_
    refine mj_sub [2, 3, 4, 5, 6] rfl ?_
    exact mj_widen (31 + 5 * (j + 1)) (9467 + 88 * (j + 1)) (by show 31 + 5 * j + 1 + 0 + 0 ≤ 31 + 5 * (j + 1); omega) (by show 9467 + 88 * j + 6 + 0 + 0 ≤ 9467 + 88 * (j + 1); omega) (hn M2 s2 hI2)

set_option maxHeartbeats 4000000 in
set_option maxRecDepth 100000 in
theorem lc_13 {p : Program} {l : Launch} {e : Env} {s : State} {m : MethodId} {below : List Frame} {meth : Method} {c : Code} {D : va_G} {ca : Nat → ClassId} {b L x o j : Nat} {xs : Nat → Int32} {M : mw_M} {sz : Nat} (X : mw_X p s m #[Value.ref b] meth c cL_law 7 RL lw_tbl D vwCl (mt ca)) (hX : va_X b L xs s s.heap) (hbl : b < s.heap.size) (hl0 : l.stackTraces = false) (hZ : mx_Z (fun q => s.heap.size ≤ q) s s.heap) (hox : o = x + 14) (hj : 4 * j + 4 ≤ L) (hL : L ≤ 2048) (hI : Inv ca M x o) (hn : ∀ (M' : mw_M) (sz' : Nat), Inv ca M' x o → mw_J p l e room_1 s m #[Value.ref b] below meth c 7 D vwCl (fun q => s.heap.size ≤ q) (lw_Z below #[Value.ref b] s) 709 [(4, .int (nI (4 * j))), (3, .ref (x + 29)), (2, .ref o), (1, .ref x), (0, .ref b)] [] M' sz' (31 + 5 * (j + 1)) (9467 + 88 * (j + 1))) : mw_J p l e room_1 s m #[Value.ref b] below meth c 7 D vwCl (fun q => s.heap.size ≤ q) (lw_Z below #[Value.ref b] s) 519 [(4, .int (nI (4 * j))), (3, .ref (x + 29)), (2, .ref o), (1, .ref x), (0, .ref b)] [] M sz (31 + 5 * j) (9467 + 88 * j) := by
  refine mj_aload_n X dL_law_519 rfl 3 rfl ?_
  refine mj_aload_n X dL_law_520 rfl 4 rfl ?_
  refine mj_iload X dL_law_521 0 rfl ?_
  refine mj_iconst X (v := nI 1) dL_law_523 (by decide +kernel) ?_
  refine mj_iadd X dL_law_524 ?_
  refine mj_top (nI (4 * j + 1)) (nI_add (4 * j) 1) ?_
  refine mj_sld X hX hbl (Nat.not_le.mpr hbl) (vp_in_nI (show 4 * j + 1 < L by omega) (by omega)) dL_law_525 ?_
  refine mj_top (xs (4 * j + 1)) (by rw [nI_clamp (by omega)]) ?_
  obtain ⟨fx, hfx⟩ := hI.x
  refine mj_callV X 1 (lw_g gL_law_X8_find) rfl (by decide +kernel) ⟨by decide, by decide⟩ (pr_find l D hox hI ((xs (4 * j + 1)))) rfl hfx rfl rfl (Nat.le_of_ble_eq_true rfl) dL_law_526 ⟨by show 31 + 5 * j + 0 ≤ 601024; omega, by show 9467 + 88 * j + 0 ≤ 7293034; omega⟩ (mk_i (fun r1 M1 s1 h1 => ?_))
  obtain ⟨⟨fs, hfs⟩, hc⟩ := h1
  refine mj_pop X dL_law_529 rfl ?_
  refine mj_aload_n X dL_law_530 rfl 2 rfl ?_
  refine mj_aload_n X dL_law_531 rfl 4 rfl ?_
  refine mj_iload X dL_law_532 0 rfl ?_
  refine mj_iconst X (v := nI 1) dL_law_534 (by decide +kernel) ?_
  refine mj_iadd X dL_law_535 ?_
  refine mj_top (nI (4 * j + 1)) (nI_add (4 * j) 1) ?_
  refine mj_sld X hX hbl (Nat.not_le.mpr hbl) (vp_in_nI (show 4 * j + 1 < L by omega) (by omega)) dL_law_536 ?_
  refine mj_top (xs (4 * j + 1)) (by rw [nI_clamp (by omega)]) ?_
  refine mj_callV X 1 (lw_g gL_law_X9_find) rfl (by decide +kernel) ⟨by decide, by decide⟩ hc rfl hfs rfl rfl (Nat.le_of_ble_eq_true rfl) dL_law_537 ⟨by show 31 + 5 * j + 0 + 0 ≤ 601024; omega, by show 9467 + 88 * j + 0 + 0 ≤ 7293034; omega⟩ (mk_i (fun r2 M2 s2 h2 => ?_))
  refine mj_pop X dL_law_540 rfl ?_
  refine mj_goto X 709 dL_law_541 (by decide) ?_
  exact mj_widen (31 + 5 * (j + 1)) (9467 + 88 * (j + 1)) (by show 31 + 5 * j + 0 + 0 ≤ 31 + 5 * (j + 1); omega) (by show 9467 + 88 * j + 0 + 0 ≤ 9467 + 88 * (j + 1); omega) (hn M2 s2 h2.2)

set_option maxHeartbeats 4000000 in
set_option maxRecDepth 100000 in
theorem lc_14 {p : Program} {l : Launch} {e : Env} {s : State} {m : MethodId} {below : List Frame} {meth : Method} {c : Code} {D : va_G} {ca : Nat → ClassId} {b L x o j : Nat} {xs : Nat → Int32} {M : mw_M} {sz : Nat} (X : mw_X p s m #[Value.ref b] meth c cL_law 7 RL lw_tbl D vwCl (mt ca)) (hX : va_X b L xs s s.heap) (hbl : b < s.heap.size) (hl0 : l.stackTraces = false) (hZ : mx_Z (fun q => s.heap.size ≤ q) s s.heap) (hox : o = x + 14) (hj : 4 * j + 4 ≤ L) (hL : L ≤ 2048) (hI : Inv ca M x o) (hn : ∀ (M' : mw_M) (sz' : Nat), Inv ca M' x o → mw_J p l e room_1 s m #[Value.ref b] below meth c 7 D vwCl (fun q => s.heap.size ≤ q) (lw_Z below #[Value.ref b] s) 709 [(4, .int (nI (4 * j))), (3, .ref (x + 29)), (2, .ref o), (1, .ref x), (0, .ref b)] [] M' sz' (31 + 5 * (j + 1)) (9467 + 88 * (j + 1))) : mw_J p l e room_1 s m #[Value.ref b] below meth c 7 D vwCl (fun q => s.heap.size ≤ q) (lw_Z below #[Value.ref b] s) 544 [(4, .int (nI (4 * j))), (3, .ref (x + 29)), (2, .ref o), (1, .ref x), (0, .ref b)] [] M sz (31 + 5 * j) (9467 + 88 * j) := by
  refine mj_aload_n X dL_law_544 rfl 3 rfl ?_
  refine mj_aload_n X dL_law_545 rfl 4 rfl ?_
  refine mj_iload X dL_law_546 0 rfl ?_
  refine mj_iconst X (v := nI 1) dL_law_548 (by decide +kernel) ?_
  refine mj_iadd X dL_law_549 ?_
  refine mj_top (nI (4 * j + 1)) (nI_add (4 * j) 1) ?_
  refine mj_sld X hX hbl (Nat.not_le.mpr hbl) (vp_in_nI (show 4 * j + 1 < L by omega) (by omega)) dL_law_550 ?_
  refine mj_top (xs (4 * j + 1)) (by rw [nI_clamp (by omega)]) ?_
  refine mj_aload_n X dL_law_551 rfl 4 rfl ?_
  refine mj_iload X dL_law_552 0 rfl ?_
  refine mj_iconst X (v := nI 2) dL_law_554 (by decide +kernel) ?_
  refine mj_iadd X dL_law_555 ?_
  refine mj_top (nI (4 * j + 2)) (nI_add (4 * j) 2) ?_
  refine mj_sld X hX hbl (Nat.not_le.mpr hbl) (vp_in_nI (show 4 * j + 2 < L by omega) (by omega)) dL_law_556 ?_
  refine mj_top (xs (4 * j + 2)) (by rw [nI_clamp (by omega)]) ?_
  obtain ⟨fx, hfx⟩ := hI.x
  refine mj_callV X 2 (lw_g gL_law_X8_same) rfl (by decide +kernel) ⟨by decide, by decide⟩ (pr_same l D hox hI ((xs (4 * j + 1))) ((xs (4 * j + 2)))) rfl hfx rfl rfl (Nat.le_of_ble_eq_true rfl) dL_law_557 ⟨by show 31 + 5 * j + 0 ≤ 601024; omega, by show 9467 + 88 * j + 0 ≤ 7293034; omega⟩ (mk_i (fun r1 M1 s1 h1 => ?_))
  obtain ⟨⟨fs, hfs⟩, hc⟩ := h1
  refine mj_pop X dL_law_560 rfl ?_
  refine mj_aload_n X dL_law_561 rfl 2 rfl ?_
  refine mj_aload_n X dL_law_562 rfl 4 rfl ?_
  refine mj_iload X dL_law_563 0 rfl ?_
  refine mj_iconst X (v := nI 1) dL_law_565 (by decide +kernel) ?_
  refine mj_iadd X dL_law_566 ?_
  refine mj_top (nI (4 * j + 1)) (nI_add (4 * j) 1) ?_
  refine mj_sld X hX hbl (Nat.not_le.mpr hbl) (vp_in_nI (show 4 * j + 1 < L by omega) (by omega)) dL_law_567 ?_
  refine mj_top (xs (4 * j + 1)) (by rw [nI_clamp (by omega)]) ?_
  refine mj_aload_n X dL_law_568 rfl 4 rfl ?_
  refine mj_iload X dL_law_569 0 rfl ?_
  refine mj_iconst X (v := nI 2) dL_law_571 (by decide +kernel) ?_
  refine mj_iadd X dL_law_572 ?_
  refine mj_top (nI (4 * j + 2)) (nI_add (4 * j) 2) ?_
  refine mj_sld X hX hbl (Nat.not_le.mpr hbl) (vp_in_nI (show 4 * j + 2 < L by omega) (by omega)) dL_law_573 ?_
  refine mj_top (xs (4 * j + 2)) (by rw [nI_clamp (by omega)]) ?_
  refine mj_callV X 2 (lw_g gL_law_X9_same) rfl (by decide +kernel) ⟨by decide, by decide⟩ hc rfl hfs rfl rfl (Nat.le_of_ble_eq_true rfl) dL_law_574 ⟨by show 31 + 5 * j + 0 + 0 ≤ 601024; omega, by show 9467 + 88 * j + 0 + 0 ≤ 7293034; omega⟩ (mk_i (fun r2 M2 s2 h2 => ?_))
  refine mj_pop X dL_law_577 rfl ?_
  refine mj_goto X 709 dL_law_578 (by decide) ?_
  exact mj_widen (31 + 5 * (j + 1)) (9467 + 88 * (j + 1)) (by show 31 + 5 * j + 0 + 0 ≤ 31 + 5 * (j + 1); omega) (by show 9467 + 88 * j + 0 + 0 ≤ 9467 + 88 * (j + 1); omega) (hn M2 s2 h2.2)

set_option maxHeartbeats 4000000 in
set_option maxRecDepth 100000 in
theorem lc_15 {p : Program} {l : Launch} {e : Env} {s : State} {m : MethodId} {below : List Frame} {meth : Method} {c : Code} {D : va_G} {ca : Nat → ClassId} {b L x o j : Nat} {xs : Nat → Int32} {M : mw_M} {sz : Nat} (X : mw_X p s m #[Value.ref b] meth c cL_law 7 RL lw_tbl D vwCl (mt ca)) (hX : va_X b L xs s s.heap) (hbl : b < s.heap.size) (hl0 : l.stackTraces = false) (hZ : mx_Z (fun q => s.heap.size ≤ q) s s.heap) (hox : o = x + 14) (hj : 4 * j + 4 ≤ L) (hL : L ≤ 2048) (hI : Inv ca M x o) (hn : ∀ (M' : mw_M) (sz' : Nat), Inv ca M' x o → mw_J p l e room_1 s m #[Value.ref b] below meth c 7 D vwCl (fun q => s.heap.size ≤ q) (lw_Z below #[Value.ref b] s) 709 [(4, .int (nI (4 * j))), (3, .ref (x + 29)), (2, .ref o), (1, .ref x), (0, .ref b)] [] M' sz' (31 + 5 * (j + 1)) (9467 + 88 * (j + 1))) : mw_J p l e room_1 s m #[Value.ref b] below meth c 7 D vwCl (fun q => s.heap.size ≤ q) (lw_Z below #[Value.ref b] s) 581 [(4, .int (nI (4 * j))), (3, .ref (x + 29)), (2, .ref o), (1, .ref x), (0, .ref b)] [] M sz (31 + 5 * j) (9467 + 88 * j) := by
  refine mj_aload_n X dL_law_581 rfl 3 rfl ?_
  refine mj_aload_n X dL_law_582 rfl 4 rfl ?_
  refine mj_iload X dL_law_583 0 rfl ?_
  refine mj_iconst X (v := nI 1) dL_law_585 (by decide +kernel) ?_
  refine mj_iadd X dL_law_586 ?_
  refine mj_top (nI (4 * j + 1)) (nI_add (4 * j) 1) ?_
  refine mj_sld X hX hbl (Nat.not_le.mpr hbl) (vp_in_nI (show 4 * j + 1 < L by omega) (by omega)) dL_law_587 ?_
  refine mj_top (xs (4 * j + 1)) (by rw [nI_clamp (by omega)]) ?_
  refine mj_aload_n X dL_law_588 rfl 4 rfl ?_
  refine mj_iload X dL_law_589 0 rfl ?_
  refine mj_iconst X (v := nI 2) dL_law_591 (by decide +kernel) ?_
  refine mj_iadd X dL_law_592 ?_
  refine mj_top (nI (4 * j + 2)) (nI_add (4 * j) 2) ?_
  refine mj_sld X hX hbl (Nat.not_le.mpr hbl) (vp_in_nI (show 4 * j + 2 < L by omega) (by omega)) dL_law_593 ?_
  refine mj_top (xs (4 * j + 2)) (by rw [nI_clamp (by omega)]) ?_
  obtain ⟨fx, hfx⟩ := hI.x
  refine mj_callV X 2 (lw_g gL_law_X8_split) rfl (by decide +kernel) ⟨by decide, by decide⟩ (pr_split l D hox hI ((xs (4 * j + 1))) ((xs (4 * j + 2)))) rfl hfx rfl rfl (Nat.le_of_ble_eq_true rfl) dL_law_594 ⟨by show 31 + 5 * j + 0 ≤ 601024; omega, by show 9467 + 88 * j + 0 ≤ 7293034; omega⟩ (mk_i (fun r1 M1 s1 h1 => ?_))
  obtain ⟨⟨fs, hfs⟩, hc⟩ := h1
  refine mj_pop X dL_law_597 rfl ?_
  refine mj_aload_n X dL_law_598 rfl 2 rfl ?_
  refine mj_aload_n X dL_law_599 rfl 4 rfl ?_
  refine mj_iload X dL_law_600 0 rfl ?_
  refine mj_iconst X (v := nI 1) dL_law_602 (by decide +kernel) ?_
  refine mj_iadd X dL_law_603 ?_
  refine mj_top (nI (4 * j + 1)) (nI_add (4 * j) 1) ?_
  refine mj_sld X hX hbl (Nat.not_le.mpr hbl) (vp_in_nI (show 4 * j + 1 < L by omega) (by omega)) dL_law_604 ?_
  refine mj_top (xs (4 * j + 1)) (by rw [nI_clamp (by omega)]) ?_
  refine mj_aload_n X dL_law_605 rfl 4 rfl ?_
  refine mj_iload X dL_law_606 0 rfl ?_
  refine mj_iconst X (v := nI 2) dL_law_608 (by decide +kernel) ?_
  refine mj_iadd X dL_law_609 ?_
  refine mj_top (nI (4 * j + 2)) (nI_add (4 * j) 2) ?_
  refine mj_sld X hX hbl (Nat.not_le.mpr hbl) (vp_in_nI (show 4 * j + 2 < L by omega) (by omega)) dL_law_610 ?_
  refine mj_top (xs (4 * j + 2)) (by rw [nI_clamp (by omega)]) ?_
  refine mj_callV X 2 (lw_g gL_law_X9_split) rfl (by decide +kernel) ⟨by decide, by decide⟩ hc rfl hfs rfl rfl (Nat.le_of_ble_eq_true rfl) dL_law_611 ⟨by show 31 + 5 * j + 0 + 0 ≤ 601024; omega, by show 9467 + 88 * j + 0 + 0 ≤ 7293034; omega⟩ (mk_i (fun r2 M2 s2 h2 => ?_))
  refine mj_pop X dL_law_614 rfl ?_
  refine mj_goto X 709 dL_law_615 (by decide) ?_
  exact mj_widen (31 + 5 * (j + 1)) (9467 + 88 * (j + 1)) (by show 31 + 5 * j + 0 + 0 ≤ 31 + 5 * (j + 1); omega) (by show 9467 + 88 * j + 0 + 0 ≤ 9467 + 88 * (j + 1); omega) (hn M2 s2 h2.2)

set_option maxHeartbeats 4000000 in
set_option maxRecDepth 100000 in
theorem lc_16 {p : Program} {l : Launch} {e : Env} {s : State} {m : MethodId} {below : List Frame} {meth : Method} {c : Code} {D : va_G} {ca : Nat → ClassId} {b L x o j : Nat} {xs : Nat → Int32} {M : mw_M} {sz : Nat} (X : mw_X p s m #[Value.ref b] meth c cL_law 7 RL lw_tbl D vwCl (mt ca)) (hX : va_X b L xs s s.heap) (hbl : b < s.heap.size) (hl0 : l.stackTraces = false) (hZ : mx_Z (fun q => s.heap.size ≤ q) s s.heap) (hox : o = x + 14) (hj : 4 * j + 4 ≤ L) (hL : L ≤ 2048) (hI : Inv ca M x o) (hn : ∀ (M' : mw_M) (sz' : Nat), Inv ca M' x o → mw_J p l e room_1 s m #[Value.ref b] below meth c 7 D vwCl (fun q => s.heap.size ≤ q) (lw_Z below #[Value.ref b] s) 709 [(4, .int (nI (4 * j))), (3, .ref (x + 29)), (2, .ref o), (1, .ref x), (0, .ref b)] [] M' sz' (31 + 5 * (j + 1)) (9467 + 88 * (j + 1))) : mw_J p l e room_1 s m #[Value.ref b] below meth c 7 D vwCl (fun q => s.heap.size ≤ q) (lw_Z below #[Value.ref b] s) 618 [(4, .int (nI (4 * j))), (3, .ref (x + 29)), (2, .ref o), (1, .ref x), (0, .ref b)] [] M sz (31 + 5 * j) (9467 + 88 * j) := by
  refine mj_aload_n X dL_law_618 rfl 3 rfl ?_
  refine mj_aload_n X dL_law_619 rfl 4 rfl ?_
  refine mj_iload X dL_law_620 0 rfl ?_
  refine mj_iconst X (v := nI 1) dL_law_622 (by decide +kernel) ?_
  refine mj_iadd X dL_law_623 ?_
  refine mj_top (nI (4 * j + 1)) (nI_add (4 * j) 1) ?_
  refine mj_sld X hX hbl (Nat.not_le.mpr hbl) (vp_in_nI (show 4 * j + 1 < L by omega) (by omega)) dL_law_624 ?_
  refine mj_top (xs (4 * j + 1)) (by rw [nI_clamp (by omega)]) ?_
  refine mj_aload_n X dL_law_625 rfl 4 rfl ?_
  refine mj_iload X dL_law_626 0 rfl ?_
  refine mj_iconst X (v := nI 2) dL_law_628 (by decide +kernel) ?_
  refine mj_iadd X dL_law_629 ?_
  refine mj_top (nI (4 * j + 2)) (nI_add (4 * j) 2) ?_
  refine mj_sld X hX hbl (Nat.not_le.mpr hbl) (vp_in_nI (show 4 * j + 2 < L by omega) (by omega)) dL_law_630 ?_
  refine mj_top (xs (4 * j + 2)) (by rw [nI_clamp (by omega)]) ?_
  refine mj_if_eq X 638 dL_law_631 (by decide) (fun c1 => ?_) (fun c1 => ?_)
  · refine mj_iconst X (v := nI 0) dL_law_638 (by decide +kernel) ?_
    obtain ⟨fx, hfx⟩ := hI.x
    refine mj_callV X 2 (lw_g gL_law_X8_piece) rfl (by decide +kernel) ⟨by decide, by decide⟩ (pr_piece l D hox hI ((xs (4 * j + 1))) ((nI 0))) rfl hfx rfl rfl (Nat.le_of_ble_eq_true rfl) dL_law_639 ⟨by show 31 + 5 * j + 0 ≤ 601024; omega, by show 9467 + 88 * j + 0 ≤ 7293034; omega⟩ (mk_i (fun r1 M1 s1 h1 => ?_))
    obtain ⟨⟨fs, hfs⟩, hc⟩ := h1
    refine mj_pop X dL_law_642 rfl ?_
    refine mj_aload_n X dL_law_643 rfl 2 rfl ?_
    refine mj_aload_n X dL_law_644 rfl 4 rfl ?_
    refine mj_iload X dL_law_645 0 rfl ?_
    refine mj_iconst X (v := nI 1) dL_law_647 (by decide +kernel) ?_
    refine mj_iadd X dL_law_648 ?_
    refine mj_top (nI (4 * j + 1)) (nI_add (4 * j) 1) ?_
    refine mj_sld X hX hbl (Nat.not_le.mpr hbl) (vp_in_nI (show 4 * j + 1 < L by omega) (by omega)) dL_law_649 ?_
    refine mj_top (xs (4 * j + 1)) (by rw [nI_clamp (by omega)]) ?_
    refine mj_aload_n X dL_law_650 rfl 4 rfl ?_
    refine mj_iload X dL_law_651 0 rfl ?_
    refine mj_iconst X (v := nI 2) dL_law_653 (by decide +kernel) ?_
    refine mj_iadd X dL_law_654 ?_
    refine mj_top (nI (4 * j + 2)) (nI_add (4 * j) 2) ?_
    refine mj_sld X hX hbl (Nat.not_le.mpr hbl) (vp_in_nI (show 4 * j + 2 < L by omega) (by omega)) dL_law_655 ?_
    refine mj_top (xs (4 * j + 2)) (by rw [nI_clamp (by omega)]) ?_
    refine mj_if_eq X 663 dL_law_656 (by decide) (fun _ => ?_) (fun c2 => absurd c1 c2)
    refine mj_iconst X (v := nI 0) dL_law_663 (by decide +kernel) ?_
    refine mj_callV X 2 (lw_g gL_law_X9_piece) rfl (by decide +kernel) ⟨by decide, by decide⟩ hc rfl hfs rfl rfl (Nat.le_of_ble_eq_true rfl) dL_law_664 ⟨by show 31 + 5 * j + 0 + 0 ≤ 601024; omega, by show 9467 + 88 * j + 0 + 0 ≤ 7293034; omega⟩ (mk_i (fun r2 M2 s2 h2 => ?_))
    refine mj_pop X dL_law_667 rfl ?_
    refine mj_goto X 709 dL_law_668 (by decide) ?_
    exact mj_widen (31 + 5 * (j + 1)) (9467 + 88 * (j + 1)) (by show 31 + 5 * j + 0 + 0 ≤ 31 + 5 * (j + 1); omega) (by show 9467 + 88 * j + 0 + 0 ≤ 9467 + 88 * (j + 1); omega) (hn M2 s2 h2.2)
  · refine mj_iconst X (v := nI 1) dL_law_634 (by decide +kernel) ?_
    refine mj_goto X 639 dL_law_635 (by decide) ?_
    obtain ⟨fx, hfx⟩ := hI.x
    refine mj_callV X 2 (lw_g gL_law_X8_piece) rfl (by decide +kernel) ⟨by decide, by decide⟩ (pr_piece l D hox hI ((xs (4 * j + 1))) ((nI 1))) rfl hfx rfl rfl (Nat.le_of_ble_eq_true rfl) dL_law_639 ⟨by show 31 + 5 * j + 0 ≤ 601024; omega, by show 9467 + 88 * j + 0 ≤ 7293034; omega⟩ (mk_i (fun r1 M1 s1 h1 => ?_))
    obtain ⟨⟨fs, hfs⟩, hc⟩ := h1
    refine mj_pop X dL_law_642 rfl ?_
    refine mj_aload_n X dL_law_643 rfl 2 rfl ?_
    refine mj_aload_n X dL_law_644 rfl 4 rfl ?_
    refine mj_iload X dL_law_645 0 rfl ?_
    refine mj_iconst X (v := nI 1) dL_law_647 (by decide +kernel) ?_
    refine mj_iadd X dL_law_648 ?_
    refine mj_top (nI (4 * j + 1)) (nI_add (4 * j) 1) ?_
    refine mj_sld X hX hbl (Nat.not_le.mpr hbl) (vp_in_nI (show 4 * j + 1 < L by omega) (by omega)) dL_law_649 ?_
    refine mj_top (xs (4 * j + 1)) (by rw [nI_clamp (by omega)]) ?_
    refine mj_aload_n X dL_law_650 rfl 4 rfl ?_
    refine mj_iload X dL_law_651 0 rfl ?_
    refine mj_iconst X (v := nI 2) dL_law_653 (by decide +kernel) ?_
    refine mj_iadd X dL_law_654 ?_
    refine mj_top (nI (4 * j + 2)) (nI_add (4 * j) 2) ?_
    refine mj_sld X hX hbl (Nat.not_le.mpr hbl) (vp_in_nI (show 4 * j + 2 < L by omega) (by omega)) dL_law_655 ?_
    refine mj_top (xs (4 * j + 2)) (by rw [nI_clamp (by omega)]) ?_
    refine mj_if_eq X 663 dL_law_656 (by decide) (fun c2 => absurd c2 c1) (fun _ => ?_)
    refine mj_iconst X (v := nI 1) dL_law_659 (by decide +kernel) ?_
    refine mj_goto X 664 dL_law_660 (by decide) ?_
    refine mj_callV X 2 (lw_g gL_law_X9_piece) rfl (by decide +kernel) ⟨by decide, by decide⟩ hc rfl hfs rfl rfl (Nat.le_of_ble_eq_true rfl) dL_law_664 ⟨by show 31 + 5 * j + 0 + 0 ≤ 601024; omega, by show 9467 + 88 * j + 0 + 0 ≤ 7293034; omega⟩ (mk_i (fun r2 M2 s2 h2 => ?_))
    refine mj_pop X dL_law_667 rfl ?_
    refine mj_goto X 709 dL_law_668 (by decide) ?_
    exact mj_widen (31 + 5 * (j + 1)) (9467 + 88 * (j + 1)) (by show 31 + 5 * j + 0 + 0 ≤ 31 + 5 * (j + 1); omega) (by show 9467 + 88 * j + 0 + 0 ≤ 9467 + 88 * (j + 1); omega) (hn M2 s2 h2.2)

set_option maxHeartbeats 4000000 in
set_option maxRecDepth 100000 in
theorem lc_17 {p : Program} {l : Launch} {e : Env} {s : State} {m : MethodId} {below : List Frame} {meth : Method} {c : Code} {D : va_G} {ca : Nat → ClassId} {b L x o j : Nat} {xs : Nat → Int32} {M : mw_M} {sz : Nat} (X : mw_X p s m #[Value.ref b] meth c cL_law 7 RL lw_tbl D vwCl (mt ca)) (hX : va_X b L xs s s.heap) (hbl : b < s.heap.size) (hl0 : l.stackTraces = false) (hZ : mx_Z (fun q => s.heap.size ≤ q) s s.heap) (hox : o = x + 14) (hj : 4 * j + 4 ≤ L) (hL : L ≤ 2048) (hI : Inv ca M x o) (hn : ∀ (M' : mw_M) (sz' : Nat), Inv ca M' x o → mw_J p l e room_1 s m #[Value.ref b] below meth c 7 D vwCl (fun q => s.heap.size ≤ q) (lw_Z below #[Value.ref b] s) 709 [(4, .int (nI (4 * j))), (3, .ref (x + 29)), (2, .ref o), (1, .ref x), (0, .ref b)] [] M' sz' (31 + 5 * (j + 1)) (9467 + 88 * (j + 1))) : mw_J p l e room_1 s m #[Value.ref b] below meth c 7 D vwCl (fun q => s.heap.size ≤ q) (lw_Z below #[Value.ref b] s) 671 [(4, .int (nI (4 * j))), (3, .ref (x + 29)), (2, .ref o), (1, .ref x), (0, .ref b)] [] M sz (31 + 5 * j) (9467 + 88 * j) := by
  refine mj_aload_n X dL_law_671 rfl 3 rfl ?_
  obtain ⟨fx, hfx⟩ := hI.x
  refine mj_callV X 0 (lw_g gL_law_X8_missing) rfl (by decide +kernel) ⟨by decide, by decide⟩ (pr_missing l D hox hI ) rfl hfx rfl rfl (Nat.le_of_ble_eq_true rfl) dL_law_672 ⟨by show 31 + 5 * j + 0 ≤ 601024; omega, by show 9467 + 88 * j + 0 ≤ 7293034; omega⟩ (mk_i (fun r1 M1 s1 h1 => ?_))
  obtain ⟨⟨fs, hfs⟩, hc⟩ := h1
  refine mj_pop X dL_law_675 rfl ?_
  refine mj_aload_n X dL_law_676 rfl 2 rfl ?_
  refine mj_callV X 0 (lw_g gL_law_X9_missing) rfl (by decide +kernel) ⟨by decide, by decide⟩ hc rfl hfs rfl rfl (Nat.le_of_ble_eq_true rfl) dL_law_677 ⟨by show 31 + 5 * j + 0 + 0 ≤ 601024; omega, by show 9467 + 88 * j + 0 + 0 ≤ 7293034; omega⟩ (mk_i (fun r2 M2 s2 h2 => ?_))
  refine mj_pop X dL_law_680 rfl ?_
  refine mj_goto X 709 dL_law_681 (by decide) ?_
  exact mj_widen (31 + 5 * (j + 1)) (9467 + 88 * (j + 1)) (by show 31 + 5 * j + 0 + 0 ≤ 31 + 5 * (j + 1); omega) (by show 9467 + 88 * j + 0 + 0 ≤ 9467 + 88 * (j + 1); omega) (hn M2 s2 h2.2)

set_option maxHeartbeats 4000000 in
set_option maxRecDepth 100000 in
theorem lc_18 {p : Program} {l : Launch} {e : Env} {s : State} {m : MethodId} {below : List Frame} {meth : Method} {c : Code} {D : va_G} {ca : Nat → ClassId} {b L x o j : Nat} {xs : Nat → Int32} {M : mw_M} {sz : Nat} (X : mw_X p s m #[Value.ref b] meth c cL_law 7 RL lw_tbl D vwCl (mt ca)) (hX : va_X b L xs s s.heap) (hbl : b < s.heap.size) (hl0 : l.stackTraces = false) (hZ : mx_Z (fun q => s.heap.size ≤ q) s s.heap) (hox : o = x + 14) (hj : 4 * j + 4 ≤ L) (hL : L ≤ 2048) (hI : Inv ca M x o) (hn : ∀ (M' : mw_M) (sz' : Nat), Inv ca M' x o → mw_J p l e room_1 s m #[Value.ref b] below meth c 7 D vwCl (fun q => s.heap.size ≤ q) (lw_Z below #[Value.ref b] s) 709 [(4, .int (nI (4 * j))), (3, .ref (x + 29)), (2, .ref o), (1, .ref x), (0, .ref b)] [] M' sz' (31 + 5 * (j + 1)) (9467 + 88 * (j + 1))) : mw_J p l e room_1 s m #[Value.ref b] below meth c 7 D vwCl (fun q => s.heap.size ≤ q) (lw_Z below #[Value.ref b] s) 684 [(4, .int (nI (4 * j))), (3, .ref (x + 29)), (2, .ref o), (1, .ref x), (0, .ref b)] [] M sz (31 + 5 * j) (9467 + 88 * j) := by
  refine mj_aload_n X dL_law_684 rfl 3 rfl ?_
  refine mj_aload_n X dL_law_685 rfl 4 rfl ?_
  refine mj_iload X dL_law_686 0 rfl ?_
  refine mj_iconst X (v := nI 1) dL_law_688 (by decide +kernel) ?_
  refine mj_iadd X dL_law_689 ?_
  refine mj_top (nI (4 * j + 1)) (nI_add (4 * j) 1) ?_
  refine mj_sld X hX hbl (Nat.not_le.mpr hbl) (vp_in_nI (show 4 * j + 1 < L by omega) (by omega)) dL_law_690 ?_
  refine mj_top (xs (4 * j + 1)) (by rw [nI_clamp (by omega)]) ?_
  obtain ⟨fx, hfx⟩ := hI.x
  refine mj_callV X 1 (lw_g gL_law_X8_joined) rfl (by decide +kernel) ⟨by decide, by decide⟩ (pr_joined l D hox hI ((xs (4 * j + 1)))) rfl hfx rfl rfl (Nat.le_of_ble_eq_true rfl) dL_law_691 ⟨by show 31 + 5 * j + 0 ≤ 601024; omega, by show 9467 + 88 * j + 0 ≤ 7293034; omega⟩ (mk_i (fun r1 M1 s1 h1 => ?_))
  obtain ⟨⟨fs, hfs⟩, hc⟩ := h1
  refine mj_pop X dL_law_694 rfl ?_
  refine mj_aload_n X dL_law_695 rfl 2 rfl ?_
  refine mj_aload_n X dL_law_696 rfl 4 rfl ?_
  refine mj_iload X dL_law_697 0 rfl ?_
  refine mj_iconst X (v := nI 1) dL_law_699 (by decide +kernel) ?_
  refine mj_iadd X dL_law_700 ?_
  refine mj_top (nI (4 * j + 1)) (nI_add (4 * j) 1) ?_
  refine mj_sld X hX hbl (Nat.not_le.mpr hbl) (vp_in_nI (show 4 * j + 1 < L by omega) (by omega)) dL_law_701 ?_
  refine mj_top (xs (4 * j + 1)) (by rw [nI_clamp (by omega)]) ?_
  refine mj_callV X 1 (lw_g gL_law_X9_joined) rfl (by decide +kernel) ⟨by decide, by decide⟩ hc rfl hfs rfl rfl (Nat.le_of_ble_eq_true rfl) dL_law_702 ⟨by show 31 + 5 * j + 0 + 0 ≤ 601024; omega, by show 9467 + 88 * j + 0 + 0 ≤ 7293034; omega⟩ (mk_i (fun r2 M2 s2 h2 => ?_))
  refine mj_pop X dL_law_705 rfl ?_
  refine mj_goto X 709 dL_law_706 (by decide) ?_
  exact mj_widen (31 + 5 * (j + 1)) (9467 + 88 * (j + 1)) (by show 31 + 5 * j + 0 + 0 ≤ 31 + 5 * (j + 1); omega) (by show 9467 + 88 * j + 0 + 0 ≤ 9467 + 88 * (j + 1); omega) (hn M2 s2 h2.2)
