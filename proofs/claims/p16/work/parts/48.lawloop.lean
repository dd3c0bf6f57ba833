set_option maxHeartbeats 4000000 in
set_option maxRecDepth 100000 in
theorem lw_loop {p : Program} {l : Launch} {e : Env} {s : State} {m : MethodId} {below : List Frame} {meth : Method} {c : Code} {D : va_G} {ca : Nat → ClassId} {b L x o : Nat} {xs : Nat → Int32} (X : mw_X p s m #[Value.ref b] meth c cL_law 7 RL lw_tbl D vwCl (mt ca)) (hr : meth.sig.returnType = ret) (hX : va_X b L xs s s.heap) (hbl : b < s.heap.size) (hl0 : l.stackTraces = false) (hZ : mx_Z (fun q => s.heap.size ≤ q) s s.heap) (hox : o = x + 14) (hL : L ≤ 2048) : ∀ (fu j : Nat) (M : mw_M) (sz : Nat), 4 * j ≤ L → L + 4 ≤ 4 * j + 4 * fu → Inv ca M x o → mw_J p l e room_1 s m #[Value.ref b] below meth c 7 D vwCl (fun q => s.heap.size ≤ q) (lw_Z below #[Value.ref b] s) 23 [(4, .int (nI (4 * j))), (3, .ref (x + 29)), (2, .ref o), (1, .ref x), (0, .ref b)] [] M sz (31 + 5 * j) (9467 + 88 * j) := by
  intro fu
  induction fu with
  | zero => intro j M sz h1 h2; exact absurd h2 (by omega)
  | succ fu ih =>
    intro j M sz h1 h2 hI
    refine mj_iload X dL_law_23 0 rfl ?_
    refine mj_aload_n X dL_law_25 rfl 4 rfl ?_
    refine mj_slen X hX hbl (Nat.not_le.mpr hbl) dL_law_26 ?_
    refine mj_iconst X (v := nI 4) dL_law_27 (by decide +kernel) ?_
    refine mj_isub X dL_law_28 ?_
    have e4 := pk_sub_toInt (a := L) (b := 4) (by omega) (by omega)
    refine mj_icmp_gt X 687 dL_law_29 (by decide) (fun c0 => ?_) (fun c0 => ?_)
    · refine mj_iconst X (v := 1) dL_law_687 (by decide +kernel) ?_
      exact lw_end X hr (by omega) (by omega) dL_law_688
    · rw [Int32.lt_iff_toInt_lt, e4, nI_toInt (by omega)] at c0
      have hj : 4 * j + 4 ≤ L := by omega
      have hn : ∀ (M' : mw_M) (sz' : Nat), Inv ca M' x o → mw_J p l e room_1 s m #[Value.ref b] below meth c 7 D vwCl (fun q => s.heap.size ≤ q) (lw_Z below #[Value.ref b] s) 681 [(4, .int (nI (4 * j))), (3, .ref (x + 29)), (2, .ref o), (1, .ref x), (0, .ref b)] [] M' sz' (31 + 5 * (j + 1)) (9467 + 88 * (j + 1)) := fun M' sz' hI' => by
        refine mj_iinc X [(4, .int (nI (4 * (j + 1)))), (3, .ref (x + 29)), (2, .ref o), (1, .ref x), (0, .ref b)] dL_law_681 0 rfl (nI_add (4 * j) 4) (by decide) rfl ?_
        refine mj_goto X 23 dL_law_684 (by decide) ?_
        exact ih (j + 1) M' sz' (by omega) (by omega) hI'
      refine mj_aload_n X dL_law_32 rfl 4 rfl ?_
      refine mj_iload X dL_law_33 0 rfl ?_
      refine mj_sld X hX hbl (Nat.not_le.mpr hbl) (vp_in_nI (show 4 * j < L by omega) (by omega)) dL_law_35 ?_
      refine mj_bipush X (v := nI 31) dL_law_36 (by decide +kernel) ?_
      refine mj_iand X dL_law_38 ?_
      obtain ⟨w, hw, ew⟩ := pk_andE (xs (nI (4 * j)).toNatClampNeg) (m := nI 31) 5 (by decide)
      refine mj_top (nI w) ew ?_
      have hq : w = 0 ∨ w = 1 ∨ w = 2 ∨ w = 3 ∨ w = 4 ∨ w = 5 ∨ w = 6 ∨ w = 7 ∨ w = 8 ∨ w = 9 ∨ w = 10 ∨ w = 11 ∨ w = 12 ∨ w = 13 ∨ w = 14 ∨ w = 15 ∨ w = 16 ∨ w = 17 ∨ w = 18 ∨ 19 ≤ w := by omega
      rcases hq with rfl | rfl | rfl | rfl | rfl | rfl | rfl | rfl | rfl | rfl | rfl | rfl | rfl | rfl | rfl | rfl | rfl | rfl | rfl | hq
      · exact mj_tableIn X 128 dL_law_39 (by decide) (by decide) rfl (by decide) (lc_0 X hX hbl hl0 hZ hox hj hL hI hn)
      · exact mj_tableIn X 151 dL_law_39 (by decide) (by decide) rfl (by decide) (lc_1 X hX hbl hl0 hZ hox hj hL hI hn)
      · exact mj_tableIn X 174 dL_law_39 (by decide) (by decide) rfl (by decide) (lc_2 X hX hbl hl0 hZ hox hj hL hI hn)
      · exact mj_tableIn X 187 dL_law_39 (by decide) (by decide) rfl (by decide) (lc_3 X hX hbl hl0 hZ hox hj hL hI hn)
      · exact mj_tableIn X 224 dL_law_39 (by decide) (by decide) rfl (by decide) (lc_4 X hX hbl hl0 hZ hox hj hL hI hn)
      · exact mj_tableIn X 237 dL_law_39 (by decide) (by decide) rfl (by decide) (lc_5 X hX hbl hl0 hZ hox hj hL hI hn)
      · exact mj_tableIn X 250 dL_law_39 (by decide) (by decide) rfl (by decide) (lc_6 X hX hbl hl0 hZ hox hj hL hI hn)
      · exact mj_tableIn X 290 dL_law_39 (by decide) (by decide) rfl (by decide) (lc_7 X hX hbl hl0 hZ hox hj hL hI hn)
      · exact mj_tableIn X 303 dL_law_39 (by decide) (by decide) rfl (by decide) (lc_8 X hX hbl hl0 hZ hox hj hL hI hn)
      · exact mj_tableIn X 316 dL_law_39 (by decide) (by decide) rfl (by decide) (lc_9 X hX hbl hl0 hZ hox hj hL hI hn)
      · exact mj_tableIn X 341 dL_law_39 (by decide) (by decide) rfl (by decide) (lc_10 X hX hbl hl0 hZ hox hj hL hI hn)
      · exact mj_tableIn X 390 dL_law_39 (by decide) (by decide) rfl (by decide) (lc_11 X hX hbl hl0 hZ hox hj hL hI hn)
      · exact mj_tableIn X 439 dL_law_39 (by decide) (by decide) rfl (by decide) (lc_12 X hX hbl hl0 hZ hox hj hL hI hn)
      · exact mj_tableIn X 491 dL_law_39 (by decide) (by decide) rfl (by decide) (lc_13 X hX hbl hl0 hZ hox hj hL hI hn)
      · exact mj_tableIn X 516 dL_law_39 (by decide) (by decide) rfl (by decide) (lc_14 X hX hbl hl0 hZ hox hj hL hI hn)
      · exact mj_tableIn X 553 dL_law_39 (by decide) (by decide) rfl (by decide) (lc_15 X hX hbl hl0 hZ hox hj hL hI hn)
      · exact mj_tableIn X 590 dL_law_39 (by decide) (by decide) rfl (by decide) (lc_16 X hX hbl hl0 hZ hox hj hL hI hn)
      · exact mj_tableIn X 643 dL_law_39 (by decide) (by decide) rfl (by decide) (lc_17 X hX hbl hl0 hZ hox hj hL hI hn)
      · exact mj_tableIn X 656 dL_law_39 (by decide) (by decide) rfl (by decide) (lc_18 X hX hbl hl0 hZ hox hj hL hI hn)
      · exact mj_tableOut X 681 dL_law_39 (Or.inr (by rw [nI_toInt (by omega)]; omega)) (by decide) (mj_widen (31 + 5 * (j + 1)) (9467 + 88 * (j + 1)) (by omega) (by omega) (hn M sz hI))
