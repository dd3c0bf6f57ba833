set_option maxHeartbeats 4000000 in
set_option maxRecDepth 100000 in
theorem lc_10 {p : Program} {l : Launch} {e : Env} {s : State} {m : MethodId} {below : List Frame} {meth : Method} {c : Code} {D : va_G} {ca : Nat → ClassId} {b L x o j : Nat} {xs : Nat → Int32} {M : mw_M} {sz : Nat} (X : mw_X p s m #[Value.ref b] meth c cL_law 7 RL lw_tbl D vwCl (mt ca)) (hX : va_X b L xs s s.heap) (hbl : b < s.heap.size) (hl0 : l.stackTraces = false) (hZ : mx_Z (fun q => s.heap.size ≤ q) s s.heap) (hox : o = x + 14) (hj : 4 * j + 4 ≤ L) (hL : L ≤ 2048) (hI : Inv ca M x o) (hn : ∀ (M' : mw_M) (sz' : Nat), Inv ca M' x o → mw_J p l e room_1 s m #[Value.ref b] below meth c 7 D vwCl (fun q => s.heap.size ≤ q) (lw_Z below #[Value.ref b] s) 681 [(4, .int (nI (4 * j))), (3, .ref (x + 29)), (2, .ref o), (1, .ref x), (0, .ref b)] [] M' sz' (31 + 5 * (j + 1)) (9467 + 88 * (j + 1))) : mw_J p l e room_1 s m #[Value.ref b] below meth c 7 D vwCl (fun q => s.heap.size ≤ q) (lw_Z below #[Value.ref b] s) 341 [(4, .int (nI (4 * j))), (3, .ref (x + 29)), (2, .ref o), (1, .ref x), (0, .ref b)] [] M sz (31 + 5 * j) (9467 + 88 * j) := by
  refine mj_aload_n X dL_law_341 rfl 3 rfl ?_
  refine mj_aload_n X dL_law_342 rfl 4 rfl ?_
  refine mj_iload X dL_law_343 0 rfl ?_
  refine mj_iconst X (v := nI 1) dL_law_345 (by decide +kernel) ?_
  refine mj_iadd X dL_law_346 ?_
  refine mj_top (nI (4 * j + 1)) (nI_add (4 * j) 1) ?_
  refine mj_sld X hX hbl (Nat.not_le.mpr hbl) (vp_in_nI (show 4 * j + 1 < L by omega) (by omega)) dL_law_347 ?_
  refine mj_top (xs (4 * j + 1)) (by rw [nI_clamp (by omega)]) ?_
  refine mj_aload_n X dL_law_348 rfl 4 rfl ?_
  refine mj_iload X dL_law_349 0 rfl ?_
  refine mj_iconst X (v := nI 2) dL_law_351 (by decide +kernel) ?_
  refine mj_iadd X dL_law_352 ?_
  refine mj_top (nI (4 * j + 2)) (nI_add (4 * j) 2) ?_
  refine mj_sld X hX hbl (Nat.not_le.mpr hbl) (vp_in_nI (show 4 * j + 2 < L by omega) (by omega)) dL_law_353 ?_
  refine mj_top (xs (4 * j + 2)) (by rw [nI_clamp (by omega)]) ?_
  refine mj_aload_n X dL_law_354 rfl 4 rfl ?_
  refine mj_iload X dL_law_355 0 rfl ?_
  refine mj_iconst X (v := nI 3) dL_law_357 (by decide +kernel) ?_
  refine mj_iadd X dL_law_358 ?_
  refine mj_top (nI (4 * j + 3)) (nI_add (4 * j) 3) ?_
  refine mj_sld X hX hbl (Nat.not_le.mpr hbl) (vp_in_nI (show 4 * j + 3 < L by omega) (by omega)) dL_law_359 ?_
  refine mj_top (xs (4 * j + 3)) (by rw [nI_clamp (by omega)]) ?_
  obtain ⟨fx, hfx⟩ := hI.x
  refine mj_callV X 3 (lw_g gL_law_X8_about) rfl (by decide +kernel) ⟨by decide, by decide⟩ (pr_about l D hox hI ((xs (4 * j + 1))) ((xs (4 * j + 2))) ((xs (4 * j + 3)))) rfl hfx rfl rfl (Nat.le_of_ble_eq_true rfl) dL_law_360 ⟨by show 31 + 5 * j + 0 ≤ 601024; omega, by show 9467 + 88 * j + 0 ≤ 7293034; omega⟩ (mk_i (fun r1 M1 s1 h1 => ?_))
  obtain ⟨⟨fs, hfs⟩, hc⟩ := h1
  refine mj_pop X dL_law_363 rfl ?_
  refine mj_aload_n X dL_law_364 rfl 2 rfl ?_
  refine mj_aload_n X dL_law_365 rfl 4 rfl ?_
  refine mj_iload X dL_law_366 0 rfl ?_
  refine mj_iconst X (v := nI 1) dL_law_368 (by decide +kernel) ?_
  refine mj_iadd X dL_law_369 ?_
  refine mj_top (nI (4 * j + 1)) (nI_add (4 * j) 1) ?_
  refine mj_sld X hX hbl (Nat.not_le.mpr hbl) (vp_in_nI (show 4 * j + 1 < L by omega) (by omega)) dL_law_370 ?_
  refine mj_top (xs (4 * j + 1)) (by rw [nI_clamp (by omega)]) ?_
  refine mj_aload_n X dL_law_371 rfl 4 rfl ?_
  refine mj_iload X dL_law_372 0 rfl ?_
  refine mj_iconst X (v := nI 2) dL_law_374 (by decide +kernel) ?_
  refine mj_iadd X dL_law_375 ?_
  refine mj_top (nI (4 * j + 2)) (nI_add (4 * j) 2) ?_
  refine mj_sld X hX hbl (Nat.not_le.mpr hbl) (vp_in_nI (show 4 * j + 2 < L by omega) (by omega)) dL_law_376 ?_
  refine mj_top (xs (4 * j + 2)) (by rw [nI_clamp (by omega)]) ?_
  refine mj_aload_n X dL_law_377 rfl 4 rfl ?_
  refine mj_iload X dL_law_378 0 rfl ?_
  refine mj_iconst X (v := nI 3) dL_law_380 (by decide +kernel) ?_
  refine mj_iadd X dL_law_381 ?_
  refine mj_top (nI (4 * j + 3)) (nI_add (4 * j) 3) ?_
  refine mj_sld X hX hbl (Nat.not_le.mpr hbl) (vp_in_nI (show 4 * j + 3 < L by omega) (by omega)) dL_law_382 ?_
  refine mj_top (xs (4 * j + 3)) (by rw [nI_clamp (by omega)]) ?_
  refine mj_callV X 3 (lw_g gL_law_X9_about) rfl (by decide +kernel) ⟨by decide, by decide⟩ hc rfl hfs rfl rfl (Nat.le_of_ble_eq_true rfl) dL_law_383 ⟨by show 31 + 5 * j + 0 + 0 ≤ 601024; omega, by show 9467 + 88 * j + 0 + 0 ≤ 7293034; omega⟩ (mk_i (fun r2 M2 s2 h2 => ?_))
  refine mj_pop X dL_law_386 rfl ?_
  refine mj_goto X 681 dL_law_387 (by decide) ?_
  exact mj_widen (31 + 5 * (j + 1)) (9467 + 88 * (j + 1)) (by show 31 + 5 * j + 0 + 0 ≤ 31 + 5 * (j + 1); omega) (by show 9467 + 88 * j + 0 + 0 ≤ 9467 + 88 * (j + 1); omega) (hn M2 s2 h2.2)

set_option maxHeartbeats 4000000 in
set_option maxRecDepth 100000 in
theorem lc_11 {p : Program} {l : Launch} {e : Env} {s : State} {m : MethodId} {below : List Frame} {meth : Method} {c : Code} {D : va_G} {ca : Nat → ClassId} {b L x o j : Nat} {xs : Nat → Int32} {M : mw_M} {sz : Nat} (X : mw_X p s m #[Value.ref b] meth c cL_law 7 RL lw_tbl D vwCl (mt ca)) (hX : va_X b L xs s s.heap) (hbl : b < s.heap.size) (hl0 : l.stackTraces = false) (hZ : mx_Z (fun q => s.heap.size ≤ q) s s.heap) (hox : o = x + 14) (hj : 4 * j + 4 ≤ L) (hL : L ≤ 2048) (hI : Inv ca M x o) (hn : ∀ (M' : mw_M) (sz' : Nat), Inv ca M' x o → mw_J p l e room_1 s m #[Value.ref b] below meth c 7 D vwCl (fun q => s.heap.size ≤ q) (lw_Z below #[Value.ref b] s) 681 [(4, .int (nI (4 * j))), (3, .ref (x + 29)), (2, .ref o), (1, .ref x), (0, .ref b)] [] M' sz' (31 + 5 * (j + 1)) (9467 + 88 * (j + 1))) : mw_J p l e room_1 s m #[Value.ref b] below meth c 7 D vwCl (fun q => s.heap.size ≤ q) (lw_Z below #[Value.ref b] s) 390 [(4, .int (nI (4 * j))), (3, .ref (x + 29)), (2, .ref o), (1, .ref x), (0, .ref b)] [] M sz (31 + 5 * j) (9467 + 88 * j) := by
  refine mj_aload_n X dL_law_390 rfl 3 rfl ?_
  refine mj_aload_n X dL_law_391 rfl 4 rfl ?_
  refine mj_iload X dL_law_392 0 rfl ?_
  refine mj_iconst X (v := nI 1) dL_law_394 (by decide +kernel) ?_
  refine mj_iadd X dL_law_395 ?_
  refine mj_top (nI (4 * j + 1)) (nI_add (4 * j) 1) ?_
  refine mj_sld X hX hbl (Nat.not_le.mpr hbl) (vp_in_nI (show 4 * j + 1 < L by omega) (by omega)) dL_law_396 ?_
  refine mj_top (xs (4 * j + 1)) (by rw [nI_clamp (by omega)]) ?_
  refine mj_aload_n X dL_law_397 rfl 4 rfl ?_
  refine mj_iload X dL_law_398 0 rfl ?_
  refine mj_iconst X (v := nI 2) dL_law_400 (by decide +kernel) ?_
  refine mj_iadd X dL_law_401 ?_
  refine mj_top (nI (4 * j + 2)) (nI_add (4 * j) 2) ?_
  refine mj_sld X hX hbl (Nat.not_le.mpr hbl) (vp_in_nI (show 4 * j + 2 < L by omega) (by omega)) dL_law_402 ?_
  refine mj_top (xs (4 * j + 2)) (by rw [nI_clamp (by omega)]) ?_
  refine mj_aload_n X dL_law_403 rfl 4 rfl ?_
  refine mj_iload X dL_law_404 0 rfl ?_
  refine mj_iconst X (v := nI 3) dL_law_406 (by decide +kernel) ?_
  refine mj_iadd X dL_law_407 ?_
  refine mj_top (nI (4 * j + 3)) (nI_add (4 * j) 3) ?_
  refine mj_sld X hX hbl (Nat.not_le.mpr hbl) (vp_in_nI (show 4 * j + 3 < L by omega) (by omega)) dL_law_408 ?_
  refine mj_top (xs (4 * j + 3)) (by rw [nI_clamp (by omega)]) ?_
  obtain ⟨fx, hfx⟩ := hI.x
  refine mj_callV X 3 (lw_g gL_law_X8_sign) rfl (by decide +kernel) ⟨by decide, by decide⟩ (pr_sign l D hox hI ((xs (4 * j + 1))) ((xs (4 * j + 2))) ((xs (4 * j + 3)))) rfl hfx rfl rfl (Nat.le_of_ble_eq_true rfl) dL_law_409 ⟨by show 31 + 5 * j + 0 ≤ 601024; omega, by show 9467 + 88 * j + 0 ≤ 7293034; omega⟩ (mk_i (fun r1 M1 s1 h1 => ?_))
  obtain ⟨⟨fs, hfs⟩, hc⟩ := h1
  refine mj_pop X dL_law_412 rfl ?_
  refine mj_aload_n X dL_law_413 rfl 2 rfl ?_
  refine mj_aload_n X dL_law_414 rfl 4 rfl ?_
  refine mj_iload X dL_law_415 0 rfl ?_
  refine mj_iconst X (v := nI 1) dL_law_417 (by decide +kernel) ?_
  refine mj_iadd X dL_law_418 ?_
  refine mj_top (nI (4 * j + 1)) (nI_add (4 * j) 1) ?_
  refine mj_sld X hX hbl (Nat.not_le.mpr hbl) (vp_in_nI (show 4 * j + 1 < L by omega) (by omega)) dL_law_419 ?_
  refine mj_top (xs (4 * j + 1)) (by rw [nI_clamp (by omega)]) ?_
  refine mj_aload_n X dL_law_420 rfl 4 rfl ?_
  refine mj_iload X dL_law_421 0 rfl ?_
  refine mj_iconst X (v := nI 2) dL_law_423 (by decide +kernel) ?_
  refine mj_iadd X dL_law_424 ?_
  refine mj_top (nI (4 * j + 2)) (nI_add (4 * j) 2) ?_
  refine mj_sld X hX hbl (Nat.not_le.mpr hbl) (vp_in_nI (show 4 * j + 2 < L by omega) (by omega)) dL_law_425 ?_
  refine mj_top (xs (4 * j + 2)) (by rw [nI_clamp (by omega)]) ?_
  refine mj_aload_n X dL_law_426 rfl 4 rfl ?_
  refine mj_iload X dL_law_427 0 rfl ?_
  refine mj_iconst X (v := nI 3) dL_law_429 (by decide +kernel) ?_
  refine mj_iadd X dL_law_430 ?_
  refine mj_top (nI (4 * j + 3)) (nI_add (4 * j) 3) ?_
  refine mj_sld X hX hbl (Nat.not_le.mpr hbl) (vp_in_nI (show 4 * j + 3 < L by omega) (by omega)) dL_law_431 ?_
  refine mj_top (xs (4 * j + 3)) (by rw [nI_clamp (by omega)]) ?_
  refine mj_callV X 3 (lw_g gL_law_X9_sign) rfl (by decide +kernel) ⟨by decide, by decide⟩ hc rfl hfs rfl rfl (Nat.le_of_ble_eq_true rfl) dL_law_432 ⟨by show 31 + 5 * j + 0 + 0 ≤ 601024; omega, by show 9467 + 88 * j + 0 + 0 ≤ 7293034; omega⟩ (mk_i (fun r2 M2 s2 h2 => ?_))
  refine mj_pop X dL_law_435 rfl ?_
  refine mj_goto X 681 dL_law_436 (by decide) ?_
  exact mj_widen (31 + 5 * (j + 1)) (9467 + 88 * (j + 1)) (by show 31 + 5 * j + 0 + 0 ≤ 31 + 5 * (j + 1); omega) (by show 9467 + 88 * j + 0 + 0 ≤ 9467 + 88 * (j + 1); omega) (hn M2 s2 h2.2)

set_option maxHeartbeats 4000000 in
set_option maxRecDepth 100000 in
theorem lc_12 {p : Program} {l : Launch} {e : Env} {s : State} {m : MethodId} {below : List Frame} {meth : Method} {c : Code} {D : va_G} {ca : Nat → ClassId} {b L x o j : Nat} {xs : Nat → Int32} {M : mw_M} {sz : Nat} (X : mw_X p s m #[Value.ref b] meth c cL_law 7 RL lw_tbl D vwCl (mt ca)) (hX : va_X b L xs s s.heap) (hbl : b < s.heap.size) (hl0 : l.stackTraces = false) (hZ : mx_Z (fun q => s.heap.size ≤ q) s s.heap) (hox : o = x + 14) (hj : 4 * j + 4 ≤ L) (hL : L ≤ 2048) (hI : Inv ca M x o) (hn : ∀ (M' : mw_M) (sz' : Nat), Inv ca M' x o → mw_J p l e room_1 s m #[Value.ref b] below meth c 7 D vwCl (fun q => s.heap.size ≤ q) (lw_Z below #[Value.ref b] s) 681 [(4, .int (nI (4 * j))), (3, .ref (x + 29)), (2, .ref o), (1, .ref x), (0, .ref b)] [] M' sz' (31 + 5 * (j + 1)) (9467 + 88 * (j + 1))) : mw_J p l e room_1 s m #[Value.ref b] below meth c 7 D vwCl (fun q => s.heap.size ≤ q) (lw_Z below #[Value.ref b] s) 439 [(4, .int (nI (4 * j))), (3, .ref (x + 29)), (2, .ref o), (1, .ref x), (0, .ref b)] [] M sz (31 + 5 * j) (9467 + 88 * j) := by
  refine mj_aload_n X dL_law_439 rfl 3 rfl ?_
  refine mj_aload_n X dL_law_440 rfl 4 rfl ?_
  refine mj_iload X dL_law_441 0 rfl ?_
  refine mj_iconst X (v := nI 1) dL_law_443 (by decide +kernel) ?_
  refine mj_iadd X dL_law_444 ?_
  refine mj_top (nI (4 * j + 1)) (nI_add (4 * j) 1) ?_
  refine mj_sld X hX hbl (Nat.not_le.mpr hbl) (vp_in_nI (show 4 * j + 1 < L by omega) (by omega)) dL_law_445 ?_
  refine mj_top (xs (4 * j + 1)) (by rw [nI_clamp (by omega)]) ?_
  refine mj_aload_n X dL_law_446 rfl 4 rfl ?_
  refine mj_iload X dL_law_447 0 rfl ?_
  refine mj_iconst X (v := nI 2) dL_law_449 (by decide +kernel) ?_
  refine mj_iadd X dL_law_450 ?_
  refine mj_top (nI (4 * j + 2)) (nI_add (4 * j) 2) ?_
  refine mj_sld X hX hbl (Nat.not_le.mpr hbl) (vp_in_nI (show 4 * j + 2 < L by omega) (by omega)) dL_law_451 ?_
  refine mj_top (xs (4 * j + 2)) (by rw [nI_clamp (by omega)]) ?_
  refine mj_aload_n X dL_law_452 rfl 4 rfl ?_
  refine mj_iload X dL_law_453 0 rfl ?_
  refine mj_iconst X (v := nI 3) dL_law_455 (by decide +kernel) ?_
  refine mj_iadd X dL_law_456 ?_
  refine mj_top (nI (4 * j + 3)) (nI_add (4 * j) 3) ?_
  refine mj_sld X hX hbl (Nat.not_le.mpr hbl) (vp_in_nI (show 4 * j + 3 < L by omega) (by omega)) dL_law_457 ?_
  refine mj_top (xs (4 * j + 3)) (by rw [nI_clamp (by omega)]) ?_
  refine mj_aload_n X dL_law_458 rfl 1 rfl ?_
  refine mx_callSW X 5 lw_gat rfl (by decide +kernel) ⟨by decide, by decide⟩ (pr_at l hl0 D hox hI ((xs (4 * j + 1))) ((xs (4 * j + 2))) ((xs (4 * j + 3)))) hZ rfl rfl (Nat.le_of_ble_eq_true rfl) dL_law_459 ⟨by show 31 + 5 * j + 1 ≤ 601024; omega, by show 9467 + 88 * j + 6 ≤ 7293034; omega⟩ (mk_i (fun r1 M1 s1 h1 => ?_))
  obtain ⟨⟨fs, hfs⟩, hc⟩ := h1
  refine mj_istore X [(5, .int r1), (4, .int (nI (4 * j))), (3, .ref (x + 29)), (2, .ref o), (1, .ref x), (0, .ref b)] dL_law_462 (by decide) rfl ?_
  refine mj_aload_n X dL_law_464 rfl 3 rfl ?_
  refine mj_aload_n X dL_law_465 rfl 5 rfl ?_
  refine mj_iload X dL_law_466 1 rfl ?_
  refine mj_iconst X (v := nI 1) dL_law_468 (by decide +kernel) ?_
  refine mj_iadd X dL_law_469 ?_
  refine mj_top (nI (4 * j + 1)) (nI_add (4 * j) 1) ?_
  refine mj_sld X hX hbl (Nat.not_le.mpr hbl) (vp_in_nI (show 4 * j + 1 < L by omega) (by omega)) dL_law_470 ?_
  refine mj_top (xs (4 * j + 1)) (by rw [nI_clamp (by omega)]) ?_
  refine mj_aload_n X dL_law_471 rfl 5 rfl ?_
  refine mj_iload X dL_law_472 1 rfl ?_
  refine mj_iconst X (v := nI 2) dL_law_474 (by decide +kernel) ?_
  refine mj_iadd X dL_law_475 ?_
  refine mj_top (nI (4 * j + 2)) (nI_add (4 * j) 2) ?_
  refine mj_sld X hX hbl (Nat.not_le.mpr hbl) (vp_in_nI (show 4 * j + 2 < L by omega) (by omega)) dL_law_476 ?_
  refine mj_top (xs (4 * j + 2)) (by rw [nI_clamp (by omega)]) ?_
  refine mj_aload_n X dL_law_477 rfl 5 rfl ?_
  refine mj_iload X dL_law_478 1 rfl ?_
  refine mj_iconst X (v := nI 3) dL_law_480 (by decide +kernel) ?_
  refine mj_iadd X dL_law_481 ?_
  refine mj_top (nI (4 * j + 3)) (nI_add (4 * j) 3) ?_
  refine mj_sld X hX hbl (Nat.not_le.mpr hbl) (vp_in_nI (show 4 * j + 3 < L by omega) (by omega)) dL_law_482 ?_
  refine mj_top (xs (4 * j + 3)) (by rw [nI_clamp (by omega)]) ?_
  refine mj_callV X 3 (lw_g gL_law_X9_at) rfl (by decide +kernel) ⟨by decide, by decide⟩ hc rfl hfs rfl rfl (Nat.le_of_ble_eq_true rfl) dL_law_483 ⟨by show 31 + 5 * j + 1 + 0 ≤ 601024; omega, by show 9467 + 88 * j + 6 + 0 ≤ 7293034; omega⟩ (mk_i (fun r2 M2 s2 h2 => ?_))
  refine mj_istore X [(6, .int r2), (5, .int r1), (4, .int (nI (4 * j))), (3, .ref (x + 29)), (2, .ref o), (1, .ref x), (0, .ref b)] dL_law_486 (by decide) rfl ?_
  refine mj_goto X 681 dL_law_488 (by decide) ?_
  refine mj_sub [2, 3, 4, 5, 6] rfl ?_
  exact mj_widen (31 + 5 * (j + 1)) (9467 + 88 * (j + 1)) (by show 31 + 5 * j + 1 + 0 ≤ 31 + 5 * (j + 1); omega) (by show 9467 + 88 * j + 6 + 0 ≤ 9467 + 88 * (j + 1); omega) (hn M2 s2 h2.1)

set_option maxHeartbeats 4000000 in
set_option maxRecDepth 100000 in
theorem lc_13 {p : Program} {l : Launch} {e : Env} {s : State} {m : MethodId} {below : List Frame} {meth : Method} {c : Code} {D : va_G} {ca : Nat → ClassId} {b L x o j : Nat} {xs : Nat → Int32} {M : mw_M} {sz : Nat} (X : mw_X p s m #[Value.ref b] meth c cL_law 7 RL lw_tbl D vwCl (mt ca)) (hX : va_X b L xs s s.heap) (hbl : b < s.heap.size) (hl0 : l.stackTraces = false) (hZ : mx_Z (fun q => s.heap.size ≤ q) s s.heap) (hox : o = x + 14) (hj : 4 * j + 4 ≤ L) (hL : L ≤ 2048) (hI : Inv ca M x o) (hn : ∀ (M' : mw_M) (sz' : Nat), Inv ca M' x o → mw_J p l e room_1 s m #[Value.ref b] below meth c 7 D vwCl (fun q => s.heap.size ≤ q) (lw_Z below #[Value.ref b] s) 681 [(4, .int (nI (4 * j))), (3, .ref (x + 29)), (2, .ref o), (1, .ref x), (0, .ref b)] [] M' sz' (31 + 5 * (j + 1)) (9467 + 88 * (j + 1))) : mw_J p l e room_1 s m #[Value.ref b] below meth c 7 D vwCl (fun q => s.heap.size ≤ q) (lw_Z below #[Value.ref b] s) 491 [(4, .int (nI (4 * j))), (3, .ref (x + 29)), (2, .ref o), (1, .ref x), (0, .ref b)] [] M sz (31 + 5 * j) (9467 + 88 * j) := by
  refine mj_aload_n X dL_law_491 rfl 3 rfl ?_
  refine mj_aload_n X dL_law_492 rfl 4 rfl ?_
  refine mj_iload X dL_law_493 0 rfl ?_
  refine mj_iconst X (v := nI 1) dL_law_495 (by decide +kernel) ?_
  refine mj_iadd X dL_law_496 ?_
  refine mj_top (nI (4 * j + 1)) (nI_add (4 * j) 1) ?_
  refine mj_sld X hX hbl (Nat.not_le.mpr hbl) (vp_in_nI (show 4 * j + 1 < L by omega) (by omega)) dL_law_497 ?_
  refine mj_top (xs (4 * j + 1)) (by rw [nI_clamp (by omega)]) ?_
  obtain ⟨fx, hfx⟩ := hI.x
  refine mj_callV X 1 (lw_g gL_law_X8_find) rfl (by decide +kernel) ⟨by decide, by decide⟩ (pr_find l D hox hI ((xs (4 * j + 1)))) rfl hfx rfl rfl (Nat.le_of_ble_eq_true rfl) dL_law_498 ⟨by show 31 + 5 * j + 0 ≤ 601024; omega, by show 9467 + 88 * j + 0 ≤ 7293034; omega⟩ (mk_i (fun r1 M1 s1 h1 => ?_))
  obtain ⟨⟨fs, hfs⟩, hc⟩ := h1
  refine mj_pop X dL_law_501 rfl ?_
  refine mj_aload_n X dL_law_502 rfl 2 rfl ?_
  refine mj_aload_n X dL_law_503 rfl 4 rfl ?_
  refine mj_iload X dL_law_504 0 rfl ?_
  refine mj_iconst X (v := nI 1) dL_law_506 (by decide +kernel) ?_
  refine mj_iadd X dL_law_507 ?_
  refine mj_top (nI (4 * j + 1)) (nI_add (4 * j) 1) ?_
  refine mj_sld X hX hbl (Nat.not_le.mpr hbl) (vp_in_nI (show 4 * j + 1 < L by omega) (by omega)) dL_law_508 ?_
  refine mj_top (xs (4 * j + 1)) (by rw [nI_clamp (by omega)]) ?_
  refine mj_callV X 1 (lw_g gL_law_X9_find) rfl (by decide +kernel) ⟨by decide, by decide⟩ hc rfl hfs rfl rfl (Nat.le_of_ble_eq_true rfl) dL_law_509 ⟨by show 31 + 5 * j + 0 + 0 ≤ 601024; omega, by show 9467 + 88 * j + 0 + 0 ≤ 7293034; omega⟩ (mk_i (fun r2 M2 s2 h2 => ?_))
  refine mj_pop X dL_law_512 rfl ?_
  refine mj_goto X 681 dL_law_513 (by decide) ?_
  exact mj_widen (31 + 5 * (j + 1)) (9467 + 88 * (j + 1)) (by show 31 + 5 * j + 0 + 0 ≤ 31 + 5 * (j + 1); omega) (by show 9467 + 88 * j + 0 + 0 ≤ 9467 + 88 * (j + 1); omega) (hn M2 s2 h2.2)

set_option maxHeartbeats 4000000 in
set_option maxRecDepth 100000 in
theorem lc_14 {p : Program} {l : Launch} {e : Env} {s : State} {m : MethodId} {below : List Frame} {meth : Method} {c : Code} {D : va_G} {ca : Nat → ClassId} {b L x o j : Nat} {xs : Nat → Int32} {M : mw_M} {sz : Nat} (X : mw_X p s m #[Value.ref b] meth c cL_law 7 RL lw_tbl D vwCl (mt ca)) (hX : va_X b L xs s s.heap) (hbl : b < s.heap.size) (hl0 : l.stackTraces = false) (hZ : mx_Z (fun q => s.heap.size ≤ q) s s.heap) (hox : o = x + 14) (hj : 4 * j + 4 ≤ L) (hL : L ≤ 2048) (hI : Inv ca M x o) (hn : ∀ (M' : mw_M) (sz' : Nat), Inv ca M' x o → mw_J p l e room_1 s m #[Value.ref b] below meth c 7 D vwCl (fun q => s.heap.size ≤ q) (lw_Z below #[Value.ref b] s) 681 [(4, .int (nI (4 * j))), (3, .ref (x + 29)), (2, .ref o), (1, .ref x), (0, .ref b)] [] M' sz' (31 + 5 * (j + 1)) (9467 + 88 * (j + 1))) : mw_J p l e room_1 s m #[Value.ref b] below meth c 7 D vwCl (fun q => s.heap.size ≤ q) (lw_Z below #[Value.ref b] s) 516 [(4, .int (nI (4 * j))), (3, .ref (x + 29)), (2, .ref o), (1, .ref x), (0, .ref b)] [] M sz (31 + 5 * j) (9467 + 88 * j) := by
  refine mj_aload_n X dL_law_516 rfl 3 rfl ?_
  refine mj_aload_n X dL_law_517 rfl 4 rfl ?_
  refine mj_iload X dL_law_518 0 rfl ?_
  refine mj_iconst X (v := nI 1) dL_law_520 (by decide +kernel) ?_
  refine mj_iadd X dL_law_521 ?_
  refine mj_top (nI (4 * j + 1)) (nI_add (4 * j) 1) ?_
  refine mj_sld X hX hbl (Nat.not_le.mpr hbl) (vp_in_nI (show 4 * j + 1 < L by omega) (by omega)) dL_law_522 ?_
  refine mj_top (xs (4 * j + 1)) (by rw [nI_clamp (by omega)]) ?_
  refine mj_aload_n X dL_law_523 rfl 4 rfl ?_
  refine mj_iload X dL_law_524 0 rfl ?_
  refine mj_iconst X (v := nI 2) dL_law_526 (by decide +kernel) ?_
  refine mj_iadd X dL_law_527 ?_
  refine mj_top (nI (4 * j + 2)) (nI_add (4 * j) 2) ?_
  refine mj_sld X hX hbl (Nat.not_le.mpr hbl) (vp_in_nI (show 4 * j + 2 < L by omega) (by omega)) dL_law_528 ?_
  refine mj_top (xs (4 * j + 2)) (by rw [nI_clamp (by omega)]) ?_
  obtain ⟨fx, hfx⟩ := hI.x
  refine mj_callV X 2 (lw_g gL_law_X8_same) rfl (by decide +kernel) ⟨by decide, by decide⟩ (pr_same l D hox hI ((xs (4 * j + 1))) ((xs (4 * j + 2)))) rfl hfx rfl rfl (Nat.le_of_ble_eq_true rfl) dL_law_529 ⟨by show 31 + 5 * j + 0 ≤ 601024; omega, by show 9467 + 88 * j + 0 ≤ 7293034; omega⟩ (mk_i (fun r1 M1 s1 h1 => ?_))
  obtain ⟨⟨fs, hfs⟩, hc⟩ := h1
  refine mj_aload_n X dL_law_532 rfl 2 rfl ?_
  refine mj_aload_n X dL_law_533 rfl 4 rfl ?_
  refine mj_iload X dL_law_534 0 rfl ?_
  refine mj_iconst X (v := nI 1) dL_law_536 (by decide +kernel) ?_
  refine mj_iadd X dL_law_537 ?_
  refine mj_top (nI (4 * j + 1)) (nI_add (4 * j) 1) ?_
  refine mj_sld X hX hbl (Nat.not_le.mpr hbl) (vp_in_nI (show 4 * j + 1 < L by omega) (by omega)) dL_law_538 ?_
  refine mj_top (xs (4 * j + 1)) (by rw [nI_clamp (by omega)]) ?_
  refine mj_aload_n X dL_law_539 rfl 4 rfl ?_
  refine mj_iload X dL_law_540 0 rfl ?_
  refine mj_iconst X (v := nI 2) dL_law_542 (by decide +kernel) ?_
  refine mj_iadd X dL_law_543 ?_
  refine mj_top (nI (4 * j + 2)) (nI_add (4 * j) 2) ?_
  refine mj_sld X hX hbl (Nat.not_le.mpr hbl) (vp_in_nI (show 4 * j + 2 < L by omega) (by omega)) dL_law_544 ?_
  refine mj_top (xs (4 * j + 2)) (by rw [nI_clamp (by omega)]) ?_
  refine mj_callV X 2 (lw_g gL_law_X9_same) rfl (by decide +kernel) ⟨by decide, by decide⟩ hc rfl hfs rfl rfl (Nat.le_of_ble_eq_true rfl) dL_law_545 ⟨by show 31 + 5 * j + 0 + 0 ≤ 601024; omega, by show 9467 + 88 * j + 0 + 0 ≤ 7293034; omega⟩ (mk_i (fun r2 M2 s2 h2 => ?_))
  refine mj_icmp_eq X 681 dL_law_548 (by decide) (fun _ => ?_) (fun c9 => absurd h2.1.symm c9)
  exact mj_widen (31 + 5 * (j + 1)) (9467 + 88 * (j + 1)) (by show 31 + 5 * j + 0 + 0 ≤ 31 + 5 * (j + 1); omega) (by show 9467 + 88 * j + 0 + 0 ≤ 9467 + 88 * (j + 1); omega) (hn M2 s2 h2.2)

set_option maxHeartbeats 4000000 in
set_option maxRecDepth 100000 in
theorem lc_15 {p : Program} {l : Launch} {e : Env} {s : State} {m : MethodId} {below : List Frame} {meth : Method} {c : Code} {D : va_G} {ca : Nat → ClassId} {b L x o j : Nat} {xs : Nat → Int32} {M : mw_M} {sz : Nat} (X : mw_X p s m #[Value.ref b] meth c cL_law 7 RL lw_tbl D vwCl (mt ca)) (hX : va_X b L xs s s.heap) (hbl : b < s.heap.size) (hl0 : l.stackTraces = false) (hZ : mx_Z (fun q => s.heap.size ≤ q) s s.heap) (hox : o = x + 14) (hj : 4 * j + 4 ≤ L) (hL : L ≤ 2048) (hI : Inv ca M x o) (hn : ∀ (M' : mw_M) (sz' : Nat), Inv ca M' x o → mw_J p l e room_1 s m #[Value.ref b] below meth c 7 D vwCl (fun q => s.heap.size ≤ q) (lw_Z below #[Value.ref b] s) 681 [(4, .int (nI (4 * j))), (3, .ref (x + 29)), (2, .ref o), (1, .ref x), (0, .ref b)] [] M' sz' (31 + 5 * (j + 1)) (9467 + 88 * (j + 1))) : mw_J p l e room_1 s m #[Value.ref b] below meth c 7 D vwCl (fun q => s.heap.size ≤ q) (lw_Z below #[Value.ref b] s) 553 [(4, .int (nI (4 * j))), (3, .ref (x + 29)), (2, .ref o), (1, .ref x), (0, .ref b)] [] M sz (31 + 5 * j) (9467 + 88 * j) := by
  refine mj_aload_n X dL_law_553 rfl 3 rfl ?_
  refine mj_aload_n X dL_law_554 rfl 4 rfl ?_
  refine mj_iload X dL_law_555 0 rfl ?_
  refine mj_iconst X (v := nI 1) dL_law_557 (by decide +kernel) ?_
  refine mj_iadd X dL_law_558 ?_
  refine mj_top (nI (4 * j + 1)) (nI_add (4 * j) 1) ?_
  refine mj_sld X hX hbl (Nat.not_le.mpr hbl) (vp_in_nI (show 4 * j + 1 < L by omega) (by omega)) dL_law_559 ?_
  refine mj_top (xs (4 * j + 1)) (by rw [nI_clamp (by omega)]) ?_
  refine mj_aload_n X dL_law_560 rfl 4 rfl ?_
  refine mj_iload X dL_law_561 0 rfl ?_
  refine mj_iconst X (v := nI 2) dL_law_563 (by decide +kernel) ?_
  refine mj_iadd X dL_law_564 ?_
  refine mj_top (nI (4 * j + 2)) (nI_add (4 * j) 2) ?_
  refine mj_sld X hX hbl (Nat.not_le.mpr hbl) (vp_in_nI (show 4 * j + 2 < L by omega) (by omega)) dL_law_565 ?_
  refine mj_top (xs (4 * j + 2)) (by rw [nI_clamp (by omega)]) ?_
  obtain ⟨fx, hfx⟩ := hI.x
  refine mj_callV X 2 (lw_g gL_law_X8_split) rfl (by decide +kernel) ⟨by decide, by decide⟩ (pr_split l D hox hI ((xs (4 * j + 1))) ((xs (4 * j + 2)))) rfl hfx rfl rfl (Nat.le_of_ble_eq_true rfl) dL_law_566 ⟨by show 31 + 5 * j + 0 ≤ 601024; omega, by show 9467 + 88 * j + 0 ≤ 7293034; omega⟩ (mk_i (fun r1 M1 s1 h1 => ?_))
  obtain ⟨⟨fs, hfs⟩, hc⟩ := h1
  refine mj_pop X dL_law_569 rfl ?_
  refine mj_aload_n X dL_law_570 rfl 2 rfl ?_
  refine mj_aload_n X dL_law_571 rfl 4 rfl ?_
  refine mj_iload X dL_law_572 0 rfl ?_
  refine mj_iconst X (v := nI 1) dL_law_574 (by decide +kernel) ?_
  refine mj_iadd X dL_law_575 ?_
  refine mj_top (nI (4 * j + 1)) (nI_add (4 * j) 1) ?_
  refine mj_sld X hX hbl (Nat.not_le.mpr hbl) (vp_in_nI (show 4 * j + 1 < L by omega) (by omega)) dL_law_576 ?_
  refine mj_top (xs (4 * j + 1)) (by rw [nI_clamp (by omega)]) ?_
  refine mj_aload_n X dL_law_577 rfl 4 rfl ?_
  refine mj_iload X dL_law_578 0 rfl ?_
  refine mj_iconst X (v := nI 2) dL_law_580 (by decide +kernel) ?_
  refine mj_iadd X dL_law_581 ?_
  refine mj_top (nI (4 * j + 2)) (nI_add (4 * j) 2) ?_
  refine mj_sld X hX hbl (Nat.not_le.mpr hbl) (vp_in_nI (show 4 * j + 2 < L by omega) (by omega)) dL_law_582 ?_
  refine mj_top (xs (4 * j + 2)) (by rw [nI_clamp (by omega)]) ?_
  refine mj_callV X 2 (lw_g gL_law_X9_split) rfl (by decide +kernel) ⟨by decide, by decide⟩ hc rfl hfs rfl rfl (Nat.le_of_ble_eq_true rfl) dL_law_583 ⟨by show 31 + 5 * j + 0 + 0 ≤ 601024; omega, by show 9467 + 88 * j + 0 + 0 ≤ 7293034; omega⟩ (mk_i (fun r2 M2 s2 h2 => ?_))
  refine mj_pop X dL_law_586 rfl ?_
  refine mj_goto X 681 dL_law_587 (by decide) ?_
  exact mj_widen (31 + 5 * (j + 1)) (9467 + 88 * (j + 1)) (by show 31 + 5 * j + 0 + 0 ≤ 31 + 5 * (j + 1); omega) (by show 9467 + 88 * j + 0 + 0 ≤ 9467 + 88 * (j + 1); omega) (hn M2 s2 h2.2)

set_option maxHeartbeats 4000000 in
set_option maxRecDepth 100000 in
theorem lc_16 {p : Program} {l : Launch} {e : Env} {s : State} {m : MethodId} {below : List Frame} {meth : Method} {c : Code} {D : va_G} {ca : Nat → ClassId} {b L x o j : Nat} {xs : Nat → Int32} {M : mw_M} {sz : Nat} (X : mw_X p s m #[Value.ref b] meth c cL_law 7 RL lw_tbl D vwCl (mt ca)) (hX : va_X b L xs s s.heap) (hbl : b < s.heap.size) (hl0 : l.stackTraces = false) (hZ : mx_Z (fun q => s.heap.size ≤ q) s s.heap) (hox : o = x + 14) (hj : 4 * j + 4 ≤ L) (hL : L ≤ 2048) (hI : Inv ca M x o) (hn : ∀ (M' : mw_M) (sz' : Nat), Inv ca M' x o → mw_J p l e room_1 s m #[Value.ref b] below meth c 7 D vwCl (fun q => s.heap.size ≤ q) (lw_Z below #[Value.ref b] s) 681 [(4, .int (nI (4 * j))), (3, .ref (x + 29)), (2, .ref o), (1, .ref x), (0, .ref b)] [] M' sz' (31 + 5 * (j + 1)) (9467 + 88 * (j + 1))) : mw_J p l e room_1 s m #[Value.ref b] below meth c 7 D vwCl (fun q => s.heap.size ≤ q) (lw_Z below #[Value.ref b] s) 590 [(4, .int (nI (4 * j))), (3, .ref (x + 29)), (2, .ref o), (1, .ref x), (0, .ref b)] [] M sz (31 + 5 * j) (9467 + 88 * j) := by
  refine mj_aload_n X dL_law_590 rfl 3 rfl ?_
  refine mj_aload_n X dL_law_591 rfl 4 rfl ?_
  refine mj_iload X dL_law_592 0 rfl ?_
  refine mj_iconst X (v := nI 1) dL_law_594 (by decide +kernel) ?_
  refine mj_iadd X dL_law_595 ?_
  refine mj_top (nI (4 * j + 1)) (nI_add (4 * j) 1) ?_
  refine mj_sld X hX hbl (Nat.not_le.mpr hbl) (vp_in_nI (show 4 * j + 1 < L by omega) (by omega)) dL_law_596 ?_
  refine mj_top (xs (4 * j + 1)) (by rw [nI_clamp (by omega)]) ?_
  refine mj_aload_n X dL_law_597 rfl 4 rfl ?_
  refine mj_iload X dL_law_598 0 rfl ?_
  refine mj_iconst X (v := nI 2) dL_law_600 (by decide +kernel) ?_
  refine mj_iadd X dL_law_601 ?_
  refine mj_top (nI (4 * j + 2)) (nI_add (4 * j) 2) ?_
  refine mj_sld X hX hbl (Nat.not_le.mpr hbl) (vp_in_nI (show 4 * j + 2 < L by omega) (by omega)) dL_law_602 ?_
  refine mj_top (xs (4 * j + 2)) (by rw [nI_clamp (by omega)]) ?_
  refine mj_if_eq X 610 dL_law_603 (by decide) (fun c1 => ?_) (fun c1 => ?_)
  · refine mj_iconst X (v := nI 0) dL_law_610 (by decide +kernel) ?_
    obtain ⟨fx, hfx⟩ := hI.x
    refine mj_callV X 2 (lw_g gL_law_X8_piece) rfl (by decide +kernel) ⟨by decide, by decide⟩ (pr_piece l D hox hI ((xs (4 * j + 1))) ((nI 0))) rfl hfx rfl rfl (Nat.le_of_ble_eq_true rfl) dL_law_611 ⟨by show 31 + 5 * j + 0 ≤ 601024; omega, by show 9467 + 88 * j + 0 ≤ 7293034; omega⟩ (mk_i (fun r1 M1 s1 h1 => ?_))
    obtain ⟨⟨fs, hfs⟩, hc⟩ := h1
    refine mj_pop X dL_law_614 rfl ?_
    refine mj_aload_n X dL_law_615 rfl 2 rfl ?_
    refine mj_aload_n X dL_law_616 rfl 4 rfl ?_
    refine mj_iload X dL_law_617 0 rfl ?_
    refine mj_iconst X (v := nI 1) dL_law_619 (by decide +kernel) ?_
    refine mj_iadd X dL_law_620 ?_
    refine mj_top (nI (4 * j + 1)) (nI_add (4 * j) 1) ?_
    refine mj_sld X hX hbl (Nat.not_le.mpr hbl) (vp_in_nI (show 4 * j + 1 < L by omega) (by omega)) dL_law_621 ?_
    refine mj_top (xs (4 * j + 1)) (by rw [nI_clamp (by omega)]) ?_
    refine mj_aload_n X dL_law_622 rfl 4 rfl ?_
    refine mj_iload X dL_law_623 0 rfl ?_
    refine mj_iconst X (v := nI 2) dL_law_625 (by decide +kernel) ?_
    refine mj_iadd X dL_law_626 ?_
    refine mj_top (nI (4 * j + 2)) (nI_add (4 * j) 2) ?_
    refine mj_sld X hX hbl (Nat.not_le.mpr hbl) (vp_in_nI (show 4 * j + 2 < L by omega) (by omega)) dL_law_627 ?_
    refine mj_top (xs (4 * j + 2)) (by rw [nI_clamp (by omega)]) ?_
    refine mj_if_eq X 635 dL_law_628 (by decide) (fun _ => ?_) (fun c2 => absurd c1 c2)
    refine mj_iconst X (v := nI 0) dL_law_635 (by decide +kernel) ?_
    refine mj_callV X 2 (lw_g gL_law_X9_piece) rfl (by decide +kernel) ⟨by decide, by decide⟩ hc rfl hfs rfl rfl (Nat.le_of_ble_eq_true rfl) dL_law_636 ⟨by show 31 + 5 * j + 0 + 0 ≤ 601024; omega, by show 9467 + 88 * j + 0 + 0 ≤ 7293034; omega⟩ (mk_i (fun r2 M2 s2 h2 => ?_))
    refine mj_pop X dL_law_639 rfl ?_
    refine mj_goto X 681 dL_law_640 (by decide) ?_
    exact mj_widen (31 + 5 * (j + 1)) (9467 + 88 * (j + 1)) (by show 31 + 5 * j + 0 + 0 ≤ 31 + 5 * (j + 1); omega) (by show 9467 + 88 * j + 0 + 0 ≤ 9467 + 88 * (j + 1); omega) (hn M2 s2 h2.2)
  · refine mj_iconst X (v := nI 1) dL_law_606 (by decide +kernel) ?_
    refine mj_goto X 611 dL_law_607 (by decide) ?_
    obtain ⟨fx, hfx⟩ := hI.x
    refine mj_callV X 2 (lw_g gL_law_X8_piece) rfl (by decide +kernel) ⟨by decide, by decide⟩ (pr_piece l D hox hI ((xs (4 * j + 1))) ((nI 1))) rfl hfx rfl rfl (Nat.le_of_ble_eq_true rfl) dL_law_611 ⟨by show 31 + 5 * j + 0 ≤ 601024; omega, by show 9467 + 88 * j + 0 ≤ 7293034; omega⟩ (mk_i (fun r1 M1 s1 h1 => ?_))
    obtain ⟨⟨fs, hfs⟩, hc⟩ := h1
    refine mj_pop X dL_law_614 rfl ?_
    refine mj_aload_n X dL_law_615 rfl 2 rfl ?_
    refine mj_aload_n X dL_law_616 rfl 4 rfl ?_
    refine mj_iload X dL_law_617 0 rfl ?_
    refine mj_iconst X (v := nI 1) dL_law_619 (by decide +kernel) ?_
    refine mj_iadd X dL_law_620 ?_
    refine mj_top (nI (4 * j + 1)) (nI_add (4 * j) 1) ?_
    refine mj_sld X hX hbl (Nat.not_le.mpr hbl) (vp_in_nI (show 4 * j + 1 < L by omega) (by omega)) dL_law_621 ?_
    refine mj_top (xs (4 * j + 1)) (by rw [nI_clamp (by omega)]) ?_
    refine mj_aload_n X dL_law_622 rfl 4 rfl ?_
    refine mj_iload X dL_law_623 0 rfl ?_
    refine mj_iconst X (v := nI 2) dL_law_625 (by decide +kernel) ?_
    refine mj_iadd X dL_law_626 ?_
    refine mj_top (nI (4 * j + 2)) (nI_add (4 * j) 2) ?_
    refine mj_sld X hX hbl (Nat.not_le.mpr hbl) (vp_in_nI (show 4 * j + 2 < L by omega) (by omega)) dL_law_627 ?_
    refine mj_top (xs (4 * j + 2)) (by rw [nI_clamp (by omega)]) ?_
    refine mj_if_eq X 635 dL_law_628 (by decide) (fun c2 => absurd c2 c1) (fun _ => ?_)
    refine mj_iconst X (v := nI 1) dL_law_631 (by decide +kernel) ?_
    refine mj_goto X 636 dL_law_632 (by decide) ?_
    refine mj_callV X 2 (lw_g gL_law_X9_piece) rfl (by decide +kernel) ⟨by decide, by decide⟩ hc rfl hfs rfl rfl (Nat.le_of_ble_eq_true rfl) dL_law_636 ⟨by show 31 + 5 * j + 0 + 0 ≤ 601024; omega, by show 9467 + 88 * j + 0 + 0 ≤ 7293034; omega⟩ (mk_i (fun r2 M2 s2 h2 => ?_))
    refine mj_pop X dL_law_639 rfl ?_
    refine mj_goto X 681 dL_law_640 (by decide) ?_
    exact mj_widen (31 + 5 * (j + 1)) (9467 + 88 * (j + 1)) (by show 31 + 5 * j + 0 + 0 ≤ 31 + 5 * (j + 1); omega) (by show 9467 + 88 * j + 0 + 0 ≤ 9467 + 88 * (j + 1); omega) (hn M2 s2 h2.2)

set_option maxHeartbeats 4000000 in
set_option maxRecDepth 100000 in
theorem lc_17 {p : Program} {l : Launch} {e : Env} {s : State} {m : MethodId} {below : List Frame} {meth : Method} {c : Code} {D : va_G} {ca : Nat → ClassId} {b L x o j : Nat} {xs : Nat → Int32} {M : mw_M} {sz : Nat} (X : mw_X p s m #[Value.ref b] meth c cL_law 7 RL lw_tbl D vwCl (mt ca)) (hX : va_X b L xs s s.heap) (hbl : b < s.heap.size) (hl0 : l.stackTraces = false) (hZ : mx_Z (fun q => s.heap.size ≤ q) s s.heap) (hox : o = x + 14) (hj : 4 * j + 4 ≤ L) (hL : L ≤ 2048) (hI : Inv ca M x o) (hn : ∀ (M' : mw_M) (sz' : Nat), Inv ca M' x o → mw_J p l e room_1 s m #[Value.ref b] below meth c 7 D vwCl (fun q => s.heap.size ≤ q) (lw_Z below #[Value.ref b] s) 681 [(4, .int (nI (4 * j))), (3, .ref (x + 29)), (2, .ref o), (1, .ref x), (0, .ref b)] [] M' sz' (31 + 5 * (j + 1)) (9467 + 88 * (j + 1))) : mw_J p l e room_1 s m #[Value.ref b] below meth c 7 D vwCl (fun q => s.heap.size ≤ q) (lw_Z below #[Value.ref b] s) 643 [(4, .int (nI (4 * j))), (3, .ref (x + 29)), (2, .ref o), (1, .ref x), (0, .ref b)] [] M sz (31 + 5 * j) (9467 + 88 * j) := by
  refine mj_aload_n X dL_law_643 rfl 3 rfl ?_
  obtain ⟨fx, hfx⟩ := hI.x
  refine mj_callV X 0 (lw_g gL_law_X8_missing) rfl (by decide +kernel) ⟨by decide, by decide⟩ (pr_missing l D hox hI ) rfl hfx rfl rfl (Nat.le_of_ble_eq_true rfl) dL_law_644 ⟨by show 31 + 5 * j + 0 ≤ 601024; omega, by show 9467 + 88 * j + 0 ≤ 7293034; omega⟩ (mk_i (fun r1 M1 s1 h1 => ?_))
  obtain ⟨⟨fs, hfs⟩, hc⟩ := h1
  refine mj_pop X dL_law_647 rfl ?_
  refine mj_aload_n X dL_law_648 rfl 2 rfl ?_
  refine mj_callV X 0 (lw_g gL_law_X9_missing) rfl (by decide +kernel) ⟨by decide, by decide⟩ hc rfl hfs rfl rfl (Nat.le_of_ble_eq_true rfl) dL_law_649 ⟨by show 31 + 5 * j + 0 + 0 ≤ 601024; omega, by show 9467 + 88 * j + 0 + 0 ≤ 7293034; omega⟩ (mk_i (fun r2 M2 s2 h2 => ?_))
  refine mj_pop X dL_law_652 rfl ?_
  refine mj_goto X 681 dL_law_653 (by decide) ?_
  exact mj_widen (31 + 5 * (j + 1)) (9467 + 88 * (j + 1)) (by show 31 + 5 * j + 0 + 0 ≤ 31 + 5 * (j + 1); omega) (by show 9467 + 88 * j + 0 + 0 ≤ 9467 + 88 * (j + 1); omega) (hn M2 s2 h2.2)

set_option maxHeartbeats 4000000 in
set_option maxRecDepth 100000 in
theorem lc_18 {p : Program} {l : Launch} {e : Env} {s : State} {m : MethodId} {below : List Frame} {meth : Method} {c : Code} {D : va_G} {ca : Nat → ClassId} {b L x o j : Nat} {xs : Nat → Int32} {M : mw_M} {sz : Nat} (X : mw_X p s m #[Value.ref b] meth c cL_law 7 RL lw_tbl D vwCl (mt ca)) (hX : va_X b L xs s s.heap) (hbl : b < s.heap.size) (hl0 : l.stackTraces = false) (hZ : mx_Z (fun q => s.heap.size ≤ q) s s.heap) (hox : o = x + 14) (hj : 4 * j + 4 ≤ L) (hL : L ≤ 2048) (hI : Inv ca M x o) (hn : ∀ (M' : mw_M) (sz' : Nat), Inv ca M' x o → mw_J p l e room_1 s m #[Value.ref b] below meth c 7 D vwCl (fun q => s.heap.size ≤ q) (lw_Z below #[Value.ref b] s) 681 [(4, .int (nI (4 * j))), (3, .ref (x + 29)), (2, .ref o), (1, .ref x), (0, .ref b)] [] M' sz' (31 + 5 * (j + 1)) (9467 + 88 * (j + 1))) : mw_J p l e room_1 s m #[Value.ref b] below meth c 7 D vwCl (fun q => s.heap.size ≤ q) (lw_Z below #[Value.ref b] s) 656 [(4, .int (nI (4 * j))), (3, .ref (x + 29)), (2, .ref o), (1, .ref x), (0, .ref b)] [] M sz (31 + 5 * j) (9467 + 88 * j) := by
  refine mj_aload_n X dL_law_656 rfl 3 rfl ?_
  refine mj_aload_n X dL_law_657 rfl 4 rfl ?_
  refine mj_iload X dL_law_658 0 rfl ?_
  refine mj_iconst X (v := nI 1) dL_law_660 (by decide +kernel) ?_
  refine mj_iadd X dL_law_661 ?_
  refine mj_top (nI (4 * j + 1)) (nI_add (4 * j) 1) ?_
  refine mj_sld X hX hbl (Nat.not_le.mpr hbl) (vp_in_nI (show 4 * j + 1 < L by omega) (by omega)) dL_law_662 ?_
  refine mj_top (xs (4 * j + 1)) (by rw [nI_clamp (by omega)]) ?_
  obtain ⟨fx, hfx⟩ := hI.x
  refine mj_callV X 1 (lw_g gL_law_X8_joined) rfl (by decide +kernel) ⟨by decide, by decide⟩ (pr_joined l D hox hI ((xs (4 * j + 1)))) rfl hfx rfl rfl (Nat.le_of_ble_eq_true rfl) dL_law_663 ⟨by show 31 + 5 * j + 0 ≤ 601024; omega, by show 9467 + 88 * j + 0 ≤ 7293034; omega⟩ (mk_i (fun r1 M1 s1 h1 => ?_))
  obtain ⟨⟨fs, hfs⟩, hc⟩ := h1
  refine mj_pop X dL_law_666 rfl ?_
  refine mj_aload_n X dL_law_667 rfl 2 rfl ?_
  refine mj_aload_n X dL_law_668 rfl 4 rfl ?_
  refine mj_iload X dL_law_669 0 rfl ?_
  refine mj_iconst X (v := nI 1) dL_law_671 (by decide +kernel) ?_
  refine mj_iadd X dL_law_672 ?_
  refine mj_top (nI (4 * j + 1)) (nI_add (4 * j) 1) ?_
  refine mj_sld X hX hbl (Nat.not_le.mpr hbl) (vp_in_nI (show 4 * j + 1 < L by omega) (by omega)) dL_law_673 ?_
  refine mj_top (xs (4 * j + 1)) (by rw [nI_clamp (by omega)]) ?_
  refine mj_callV X 1 (lw_g gL_law_X9_joined) rfl (by decide +kernel) ⟨by decide, by decide⟩ hc rfl hfs rfl rfl (Nat.le_of_ble_eq_true rfl) dL_law_674 ⟨by show 31 + 5 * j + 0 + 0 ≤ 601024; omega, by show 9467 + 88 * j + 0 + 0 ≤ 7293034; omega⟩ (mk_i (fun r2 M2 s2 h2 => ?_))
  refine mj_pop X dL_law_677 rfl ?_
  refine mj_goto X 681 dL_law_678 (by decide) ?_
  exact mj_widen (31 + 5 * (j + 1)) (9467 + 88 * (j + 1)) (by show 31 + 5 * j + 0 + 0 ≤ 31 + 5 * (j + 1); omega) (by show 9467 + 88 * j + 0 + 0 ≤ 9467 + 88 * (j + 1); omega) (hn M2 s2 h2.2)
