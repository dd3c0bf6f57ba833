theorem isPathB_le {f : Nat → Int32} {n : Nat} (h : isPathB f n = true) : 1 ≤ n ∧ n ≤ 24 := by
  simp only [isPathB, Bool.and_eq_true, decide_eq_true_eq] at h
  exact h.1
/-- a file that a version holds already: the same path, alike bytes -/
def shr (wc : Nat) (fn fk : Nat → Nat) (ff fg : Nat → Nat → Int32) (n : Nat) (f : Nat → Int32) (k : Nat) (g : Nat → Int32) (i2 : Nat) : Prop :=
  i2 < wc ∧ same (fn i2) (ff i2) n f ∧ (∀ j, j < i2 → ¬ same (fn j) (ff j) n f) ∧ same (fk i2) (fg i2) k g
theorem w_Coming_takeFile_0 : ∀ w ∈ u_ws RX0 TX0 4, w ∈ wsX0_takeFile := by decide +kernel
theorem w_Coming_takeFile_1 : Cond.fieldLink RX0 17 "PackageRows2$Coming" "entryCount" "I" ∈ wsX0_takeFile := by decide +kernel
theorem w_Coming_takeFile_2 : Cond.fieldLink RX0 11 "PackageRows2$Coming" "entries" "[LPackageRows2$Entry;" ∈ wsX0_takeFile := by decide +kernel
theorem w_Coming_takeFile_3 : ∀ w ∈ u_ws RX1 TX1 4, w ∈ wsX0_takeFile := by decide +kernel
theorem w_Coming_takeFile_4 : Cond.classLink RX0 9 RX1 ∈ wsX0_takeFile := by decide +kernel
theorem w_Coming_takeFile_5 : Cond.instantiable RX1 4 ∈ wsX0_takeFile := by decide +kernel
theorem w_Coming_takeFile_6 : Cond.initialized RX1 ∈ wsX0_takeFile := by decide +kernel
theorem w_Coming_takeFile_7 : Cond.initialized yX1_init.cls ∈ wsX0_takeFile := by decide +kernel
theorem w_Coming_takeFile_8 : Cond.methodLink RX0 42 yX1_init ∈ wsX0_takeFile := by decide +kernel
theorem w_Coming_takeFile_9 : Cond.instanceMethod yX1_init ∈ wsX0_takeFile := by decide +kernel
set_option maxHeartbeats 4000000 in
set_option maxRecDepth 100000 in
/--  -/
theorem c_Coming_takeFile (l : Launch) (D : va_G) (ca : Nat → ClassId) (M : mw_M) (sz q ec lc : Nat) (ce xl : Nat → Option Nat) (r cap n : Nat) (f : Nat → Int32) (rb capb nb : Nat) (fb : Nat → Int32) (hq : M q = some (.inr (1, [.ref (q + 1), .int (nI ec), .ref (q + 2), .int (nI lc)]))) (hqe : M (q + 1) = some (.inl (ca 3, 12, .inr (.inr (.inr (.inr ce)))))) (hql : M (q + 2) = some (.inl (ca 4, 12, .inr (.inr (.inr (.inr xl)))))) (hec : ec ≤ 12) (hlc : lc ≤ 12) (hr : M r = some (.inr (5, [.ref (r + 1), .int (nI n)]))) (ha : M (r + 1) = some (.inl (ca 0, cap, .inl f))) (hn : n ≤ cap) (hcap : cap < 1000) (h40 : n ≤ 40) (hrb : M rb = some (.inr (5, [.ref (rb + 1), .int (nI nb)]))) (hab : M (rb + 1) = some (.inl (ca 0, capb, .inl fb))) (hnb : nb ≤ capb) (hcapb : capb < 1000) (hb40 : nb ≤ 40) : mw_C wsX0_takeFile l yX0_takeFile { frames := 4, cells := 5, slots := 88, locals := 89 } D vwCl (mt ca) [.ref q, .ref r, .ref rb] M sz (mq_i (fun v9 M' sz' => (isPathB f n = false ∧ v9 = -2 ∧ M' = M ∧ sz' = sz) ∨ (isPathB f n = true ∧ 12 ≤ ec ∧ v9 = -4 ∧ M' = M ∧ sz' = sz) ∨ (isPathB f n = true ∧ ec < 12 ∧ v9 = nI (ec + 1) ∧ isEnt ca M' sz n (cut f n) nb (cut fb nb) (-1) ∧ M' (q + 1) = some (.inl (ca 3, 12, .inr (.inr (.inr (.inr (va_up ce ec (some sz))))))) ∧ M' q = some (.inr (1, [.ref (q + 1), .int (nI (ec + 1)), .ref (q + 2), .int (nI lc)])) ∧ (∀ a, a < sz → a ≠ q → a ≠ q + 1 → M' a = M a) ∧ sz' = sz + 5))) := by
  refine mw_enter (cc := cX0_takeFile) (maxL := 3) (ret := (some .int)) rfl (by decide) (Nat.le_of_ble_eq_true rfl) ?_
  intro p e s m below meth c X hr0 hnm hlt
  have hl1 := hlt _ _ hr
  have hl2 := hlt _ _ ha
  have hl3 := hlt _ _ hrb
  have hl4 := hlt _ _ hab
  have hl5 := hlt _ _ hq
  have hl6 := hlt _ _ hqe
  refine mj_aload_n X dX0_takeFile_0 rfl 1 rfl ?_
  refine mj_callS X 1 gX0_takeFile_X4_allow rfl (by decide +kernel) ⟨by decide, by decide⟩ (c_allow l D ca M sz r cap n f hr ha hn hcap) rfl rfl (Nat.le_of_ble_eq_true rfl) dX0_takeFile_1 ⟨by decide, by decide⟩ (mk_ri (fun b1 hb1 => ?_))
  subst hb1
  refine mj_if_ne X 10 dX0_takeFile_4 (by decide) (fun c4 => ?_) (fun c4 => ?_)
  · refine mj_aload_n X dX0_takeFile_10 rfl 0 rfl ?_
    refine mj_get X (C := RX0) (T := TX0) (N := 4) (ci := 1) w_Coming_takeFile_0 rfl 1 (by decide) w_Coming_takeFile_1 hq rfl dX0_takeFile_11 ?_
    refine mj_aload_n X dX0_takeFile_14 rfl 0 rfl ?_
    refine mj_get X (C := RX0) (T := TX0) (N := 4) (ci := 1) w_Coming_takeFile_0 rfl 0 (by decide) w_Coming_takeFile_2 hq rfl dX0_takeFile_15 ?_
    refine mj_alen X 3 (v := nI 12) rfl hqe rfl dX0_takeFile_18 ?_
    refine mj_icmp_lt X 25 dX0_takeFile_19 (by decide) (fun c19 => ?_) (fun c19 => ?_)
    · have hlt12 : ec < 12 := (nI_ltI (by omega) (by omega)).mp c19
      refine mj_aload_n X dX0_takeFile_25 rfl 0 rfl ?_
      refine mj_get X (C := RX0) (T := TX0) (N := 4) (ci := 1) w_Coming_takeFile_0 rfl 0 (by decide) w_Coming_takeFile_2 hq rfl dX0_takeFile_26 ?_
      refine mj_aload_n X dX0_takeFile_29 rfl 0 rfl ?_
      refine mj_get X (C := RX0) (T := TX0) (N := 4) (ci := 1) w_Coming_takeFile_0 rfl 1 (by decide) w_Coming_takeFile_1 hq rfl dX0_takeFile_30 ?_
      refine mj_new X (C := RX1) (T := TX1) (N := 4) (ci := 2) [.null, .null, .int 0, .int 0] tyX1 w_Coming_takeFile_3 tyX1_ok rfl (by intro j hj; rcases (show j = 0 ∨ j = 1 ∨ j = 2 ∨ j = 3 by omega) with rfl | rfl | rfl | rfl <;> rfl) w_Coming_takeFile_4 w_Coming_takeFile_5 w_Coming_takeFile_6 (by decide) (by decide) dX0_takeFile_33 ?_
      refine mj_dup X dX0_takeFile_36 rfl ?_
      refine mj_aload_n X dX0_takeFile_37 rfl 1 rfl ?_
      have f1_ := (mw_un (M := M) (e := (.inr (2, [.null, .null, .int 0, .int 0]))) (show r ≠ sz by omega)).trans hr
      have f2_ := (mw_un (M := M) (e := (.inr (2, [.null, .null, .int 0, .int 0]))) (show r + 1 ≠ sz by omega)).trans ha
      refine mj_callV X 0 gX0_takeFile_X5_copy rfl (by decide +kernel) ⟨by decide, by decide⟩ (c_Row_copy l D ca _ (sz + 1) r cap n f f1_ f2_ hn hcap h40) rfl f1_ rfl rfl (Nat.le_of_ble_eq_true rfl) dX0_takeFile_38 ⟨by decide, by decide⟩ (mk_q (fun o9 M9 sz9 h9 => ?_))
      obtain ⟨ho9, hM9, hs9⟩ := h9
      subst ho9
      refine mj_top' (.ref (sz + 1)) rfl ?_
      refine mj_to rfl rfl hM9 (sz' := sz + 3) hs9 ?_
      refine mj_aload_n X dX0_takeFile_41 rfl 2 rfl ?_
      have f3_ := (mw_un (M := M) (e := (.inr (2, [.null, .null, .int 0, .int 0]))) (show rb ≠ sz by omega)).trans hrb
      have f4_ := (mw_un (M := (mw_u M sz (.inr (2, [.null, .null, .int 0, .int 0])))) (e := (.inl (ca 0, n, .inl (cut f n)))) (show rb ≠ sz + 1 + 1 by omega)).trans f3_
      have f5_ := (mw_un (M := (mw_u (mw_u M sz (.inr (2, [.null, .null, .int 0, .int 0]))) (sz + 1 + 1) (.inl (ca 0, n, .inl (cut f n))))) (e := (.inr (5, [.ref (sz + 1 + 1), .int (nI n)]))) (show rb ≠ sz + 1 by omega)).trans f4_
      have f6_ := (mw_un (M := M) (e := (.inr (2, [.null, .null, .int 0, .int 0]))) (show rb + 1 ≠ sz by omega)).trans hab
      have f7_ := (mw_un (M := (mw_u M sz (.inr (2, [.null, .null, .int 0, .int 0])))) (e := (.inl (ca 0, n, .inl (cut f n)))) (show rb + 1 ≠ sz + 1 + 1 by omega)).trans f6_
      have f8_ := (mw_un (M := (mw_u (mw_u M sz (.inr (2, [.null, .null, .int 0, .int 0]))) (sz + 1 + 1) (.inl (ca 0, n, .inl (cut f n))))) (e := (.inr (5, [.ref (sz + 1 + 1), .int (nI n)]))) (show rb + 1 ≠ sz + 1 by omega)).trans f7_
      refine mj_callV X 0 gX0_takeFile_X5_copy rfl (by decide +kernel) ⟨by decide, by decide⟩ (c_Row_copy l D ca _ (sz + 3) rb capb nb fb f5_ f8_ hnb hcapb hb40) rfl f5_ rfl rfl (Nat.le_of_ble_eq_true rfl) dX0_takeFile_42 ⟨by decide, by decide⟩ (mk_q (fun o9 M9 sz9 h9 => ?_))
      obtain ⟨ho9, hM9, hs9⟩ := h9
      subst ho9
      refine mj_top' (.ref (sz + 3)) rfl ?_
      refine mj_to rfl rfl hM9 (sz' := sz + 5) hs9 ?_
      have f9_ := mw_us (M := M) (a := sz) (e := (.inr (2, [.null, .null, .int 0, .int 0])))
      have f10_ := (mw_un (M := (mw_u M sz (.inr (2, [.null, .null, .int 0, .int 0])))) (e := (.inl (ca 0, n, .inl (cut f n)))) (show sz ≠ sz + 1 + 1 by omega)).trans f9_
      have f11_ := (mw_un (M := (mw_u (mw_u M sz (.inr (2, [.null, .null, .int 0, .int 0]))) (sz + 1 + 1) (.inl (ca 0, n, .inl (cut f n))))) (e := (.inr (5, [.ref (sz + 1 + 1), .int (nI n)]))) (show sz ≠ sz + 1 by omega)).trans f10_
      have f12_ := (mw_un (M := (mw_u (mw_u (mw_u M sz (.inr (2, [.null, .null, .int 0, .int 0]))) (sz + 1 + 1) (.inl (ca 0, n, .inl (cut f n)))) (sz + 1) (.inr (5, [.ref (sz + 1 + 1), .int (nI n)])))) (e := (.inl (ca 0, nb, .inl (cut fb nb)))) (show sz ≠ sz + 3 + 1 by omega)).trans f11_
      have f13_ := (mw_un (M := (mw_u (mw_u (mw_u (mw_u M sz (.inr (2, [.null, .null, .int 0, .int 0]))) (sz + 1 + 1) (.inl (ca 0, n, .inl (cut f n)))) (sz + 1) (.inr (5, [.ref (sz + 1 + 1), .int (nI n)]))) (sz + 3 + 1) (.inl (ca 0, nb, .inl (cut fb nb))))) (e := (.inr (5, [.ref (sz + 3 + 1), .int (nI nb)]))) (show sz ≠ sz + 3 by omega)).trans f12_
      have f14_ := mw_us (M := (mw_u (mw_u (mw_u (mw_u M sz (.inr (2, [.null, .null, .int 0, .int 0]))) (sz + 1 + 1) (.inl (ca 0, n, .inl (cut f n)))) (sz + 1) (.inr (5, [.ref (sz + 1 + 1), .int (nI n)]))) (sz + 3 + 1) (.inl (ca 0, nb, .inl (cut fb nb))))) (a := (sz + 3)) (e := (.inr (5, [.ref (sz + 3 + 1), .int (nI nb)])))
      have f15_ := mw_us (M := (mw_u (mw_u (mw_u M sz (.inr (2, [.null, .null, .int 0, .int 0]))) (sz + 1 + 1) (.inl (ca 0, n, .inl (cut f n)))) (sz + 1) (.inr (5, [.ref (sz + 1 + 1), .int (nI n)])))) (a := (sz + 3 + 1)) (e := (.inl (ca 0, nb, .inl (cut fb nb))))
      have f16_ := (mw_un (M := (mw_u (mw_u (mw_u (mw_u M sz (.inr (2, [.null, .null, .int 0, .int 0]))) (sz + 1 + 1) (.inl (ca 0, n, .inl (cut f n)))) (sz + 1) (.inr (5, [.ref (sz + 1 + 1), .int (nI n)]))) (sz + 3 + 1) (.inl (ca 0, nb, .inl (cut fb nb))))) (e := (.inr (5, [.ref (sz + 3 + 1), .int (nI nb)]))) (show sz + 3 + 1 ≠ sz + 3 by omega)).trans f15_
      refine mj_callI X 2 gX0_takeFile_X1_init rfl rfl w_Coming_takeFile_7 w_Coming_takeFile_8 w_Coming_takeFile_9 (by decide +kernel) ⟨by decide, by decide⟩ (c_Entry_init l D ca _ (sz + 5) sz (sz + 1) (sz + 3) nb nb (cut fb nb) f13_ f14_ f16_ (Nat.le_refl _) (by omega)) rfl rfl (Nat.le_of_ble_eq_true rfl) dX0_takeFile_45 ⟨by decide, by decide⟩ (mk_v (fun M9 sz9 h9 => ?_))
      refine mj_to rfl rfl h9.1 h9.2 ?_
      have f17_ := (mw_un (M := M) (e := (.inr (2, [.null, .null, .int 0, .int 0]))) (show q + 1 ≠ sz by omega)).trans hqe
      have f18_ := (mw_un (M := (mw_u M sz (.inr (2, [.null, .null, .int 0, .int 0])))) (e := (.inl (ca 0, n, .inl (cut f n)))) (show q + 1 ≠ sz + 1 + 1 by omega)).trans f17_
      have f19_ := (mw_un (M := (mw_u (mw_u M sz (.inr (2, [.null, .null, .int 0, .int 0]))) (sz + 1 + 1) (.inl (ca 0, n, .inl (cut f n))))) (e := (.inr (5, [.ref (sz + 1 + 1), .int (nI n)]))) (show q + 1 ≠ sz + 1 by omega)).trans f18_
      have f20_ := (mw_un (M := (mw_u (mw_u (mw_u M sz (.inr (2, [.null, .null, .int 0, .int 0]))) (sz + 1 + 1) (.inl (ca 0, n, .inl (cut f n)))) (sz + 1) (.inr (5, [.ref (sz + 1 + 1), .int (nI n)])))) (e := (.inl (ca 0, nb, .inl (cut fb nb)))) (show q + 1 ≠ sz + 3 + 1 by omega)).trans f19_
      have f21_ := (mw_un (M := (mw_u (mw_u (mw_u (mw_u M sz (.inr (2, [.null, .null, .int 0, .int 0]))) (sz + 1 + 1) (.inl (ca 0, n, .inl (cut f n)))) (sz + 1) (.inr (5, [.ref (sz + 1 + 1), .int (nI n)]))) (sz + 3 + 1) (.inl (ca 0, nb, .inl (cut fb nb))))) (e := (.inr (5, [.ref (sz + 3 + 1), .int (nI nb)]))) (show q + 1 ≠ sz + 3 by omega)).trans f20_
      have f22_ := (mw_un (M := (mw_u (mw_u (mw_u (mw_u (mw_u M sz (.inr (2, [.null, .null, .int 0, .int 0]))) (sz + 1 + 1) (.inl (ca 0, n, .inl (cut f n)))) (sz + 1) (.inr (5, [.ref (sz + 1 + 1), .int (nI n)]))) (sz + 3 + 1) (.inl (ca 0, nb, .inl (cut fb nb)))) (sz + 3) (.inr (5, [.ref (sz + 3 + 1), .int (nI nb)])))) (e := (.inr (2, [.ref (sz + 1), .ref (sz + 3), .int (sumN (cut fb nb) nb), .int (-1)]))) (show q + 1 ≠ sz by omega)).trans f21_
      have f23_ := mw_us (M := (mw_u (mw_u (mw_u (mw_u (mw_u M sz (.inr (2, [.null, .null, .int 0, .int 0]))) (sz + 1 + 1) (.inl (ca 0, n, .inl (cut f n)))) (sz + 1) (.inr (5, [.ref (sz + 1 + 1), .int (nI n)]))) (sz + 3 + 1) (.inl (ca 0, nb, .inl (cut fb nb)))) (sz + 3) (.inr (5, [.ref (sz + 3 + 1), .int (nI nb)])))) (a := sz) (e := (.inr (2, [.ref (sz + 1), .ref (sz + 3), .int (sumN (cut fb nb) nb), .int (-1)])))
      refine mj_aast X 3 ec rfl f22_ f23_ rfl (vp_in_nI (by omega) (by omega)) (nI_clamp (by omega)) dX0_takeFile_48 ?_
      refine mj_aload_n X dX0_takeFile_49 rfl 0 rfl ?_
      refine mj_dup X dX0_takeFile_50 rfl ?_
      have f24_ := (mw_un (M := M) (e := (.inr (2, [.null, .null, .int 0, .int 0]))) (show q ≠ sz by omega)).trans hq
      have f25_ := (mw_un (M := (mw_u M sz (.inr (2, [.null, .null, .int 0, .int 0])))) (e := (.inl (ca 0, n, .inl (cut f n)))) (show q ≠ sz + 1 + 1 by omega)).trans f24_
      have f26_ := (mw_un (M := (mw_u (mw_u M sz (.inr (2, [.null, .null, .int 0, .int 0]))) (sz + 1 + 1) (.inl (ca 0, n, .inl (cut f n))))) (e := (.inr (5, [.ref (sz + 1 + 1), .int (nI n)]))) (show q ≠ sz + 1 by omega)).trans f25_
      have f27_ := (mw_un (M := (mw_u (mw_u (mw_u M sz (.inr (2, [.null, .null, .int 0, .int 0]))) (sz + 1 + 1) (.inl (ca 0, n, .inl (cut f n)))) (sz + 1) (.inr (5, [.ref (sz + 1 + 1), .int (nI n)])))) (e := (.inl (ca 0, nb, .inl (cut fb nb)))) (show q ≠ sz + 3 + 1 by omega)).trans f26_
      have f28_ := (mw_un (M := (mw_u (mw_u (mw_u (mw_u M sz (.inr (2, [.null, .null, .int 0, .int 0]))) (sz + 1 + 1) (.inl (ca 0, n, .inl (cut f n)))) (sz + 1) (.inr (5, [.ref (sz + 1 + 1), .int (nI n)]))) (sz + 3 + 1) (.inl (ca 0, nb, .inl (cut fb nb))))) (e := (.inr (5, [.ref (sz + 3 + 1), .int (nI nb)]))) (show q ≠ sz + 3 by omega)).trans f27_
      have f29_ := (mw_un (M := (mw_u (mw_u (mw_u (mw_u (mw_u M sz (.inr (2, [.null, .null, .int 0, .int 0]))) (sz + 1 + 1) (.inl (ca 0, n, .inl (cut f n)))) (sz + 1) (.inr (5, [.ref (sz + 1 + 1), .int (nI n)]))) (sz + 3 + 1) (.inl (ca 0, nb, .inl (cut fb nb)))) (sz + 3) (.inr (5, [.ref (sz + 3 + 1), .int (nI nb)])))) (e := (.inr (2, [.ref (sz + 1), .ref (sz + 3), .int (sumN (cut fb nb) nb), .int (-1)]))) (show q ≠ sz by omega)).trans f28_
      have f30_ := (mw_un (M := (mw_u (mw_u (mw_u (mw_u (mw_u (mw_u M sz (.inr (2, [.null, .null, .int 0, .int 0]))) (sz + 1 + 1) (.inl (ca 0, n, .inl (cut f n)))) (sz + 1) (.inr (5, [.ref (sz + 1 + 1), .int (nI n)]))) (sz + 3 + 1) (.inl (ca 0, nb, .inl (cut fb nb)))) (sz + 3) (.inr (5, [.ref (sz + 3 + 1), .int (nI nb)]))) sz (.inr (2, [.ref (sz + 1), .ref (sz + 3), .int (sumN (cut fb nb) nb), .int (-1)])))) (e := (.inl (ca 3, 12, .inr (.inr (.inr (.inr (va_up ce ec (some sz)))))))) (show q ≠ q + 1 by omega)).trans f29_
      refine mj_get X (C := RX0) (T := TX0) (N := 4) (ci := 1) w_Coming_takeFile_0 rfl 1 (by decide) w_Coming_takeFile_1 f30_ rfl dX0_takeFile_51 ?_
      refine mj_iconst X (v := 1) dX0_takeFile_54 (by decide +kernel) ?_
      refine mj_iadd X dX0_takeFile_55 ?_
      refine mj_top (nI (ec + 1)) (nI_1 ec) ?_
      refine mj_put X (C := RX0) (T := TX0) (N := 4) (ci := 1) (v := .int (nI (ec + 1))) tyX0 w_Coming_takeFile_0 tyX0_ok nmX0 rfl 1 (by decide) w_Coming_takeFile_1 rfl f30_ [.ref (q + 1), .int (nI (ec + 1)), .ref (q + 2), .int (nI lc)] (Nat.le_of_ble_eq_true rfl) rfl rfl rfl rfl dX0_takeFile_56 ?_
      refine mj_aload_n X dX0_takeFile_59 rfl 0 rfl ?_
      have f31_ := mw_us (M := (mw_u (mw_u (mw_u (mw_u (mw_u (mw_u (mw_u M sz (.inr (2, [.null, .null, .int 0, .int 0]))) (sz + 1 + 1) (.inl (ca 0, n, .inl (cut f n)))) (sz + 1) (.inr (5, [.ref (sz + 1 + 1), .int (nI n)]))) (sz + 3 + 1) (.inl (ca 0, nb, .inl (cut fb nb)))) (sz + 3) (.inr (5, [.ref (sz + 3 + 1), .int (nI nb)]))) sz (.inr (2, [.ref (sz + 1), .ref (sz + 3), .int (sumN (cut fb nb) nb), .int (-1)]))) (q + 1) (.inl (ca 3, 12, .inr (.inr (.inr (.inr (va_up ce ec (some sz))))))))) (a := q) (e := (.inr (1, [.ref (q + 1), .int (nI (ec + 1)), .ref (q + 2), .int (nI lc)])))
      refine mj_get X (C := RX0) (T := TX0) (N := 4) (ci := 1) w_Coming_takeFile_0 rfl 1 (by decide) w_Coming_takeFile_1 f31_ rfl dX0_takeFile_60 ?_
      refine mj_iret X hr0 (by decide) (by decide) dX0_takeFile_63 ?_
      have f32_ := (mw_un (M := (mw_u (mw_u (mw_u (mw_u (mw_u (mw_u M sz (.inr (2, [.null, .null, .int 0, .int 0]))) (sz + 1 + 1) (.inl (ca 0, n, .inl (cut f n)))) (sz + 1) (.inr (5, [.ref (sz + 1 + 1), .int (nI n)]))) (sz + 3 + 1) (.inl (ca 0, nb, .inl (cut fb nb)))) (sz + 3) (.inr (5, [.ref (sz + 3 + 1), .int (nI nb)]))) sz (.inr (2, [.ref (sz + 1), .ref (sz + 3), .int (sumN (cut fb nb) nb), .int (-1)])))) (e := (.inl (ca 3, 12, .inr (.inr (.inr (.inr (va_up ce ec (some sz)))))))) (show sz ≠ q + 1 by omega)).trans f23_
      have f33_ := (mw_un (M := (mw_u (mw_u (mw_u (mw_u (mw_u (mw_u (mw_u M sz (.inr (2, [.null, .null, .int 0, .int 0]))) (sz + 1 + 1) (.inl (ca 0, n, .inl (cut f n)))) (sz + 1) (.inr (5, [.ref (sz + 1 + 1), .int (nI n)]))) (sz + 3 + 1) (.inl (ca 0, nb, .inl (cut fb nb)))) (sz + 3) (.inr (5, [.ref (sz + 3 + 1), .int (nI nb)]))) sz (.inr (2, [.ref (sz + 1), .ref (sz + 3), .int (sumN (cut fb nb) nb), .int (-1)]))) (q + 1) (.inl (ca 3, 12, .inr (.inr (.inr (.inr (va_up ce ec (some sz))))))))) (e := (.inr (1, [.ref (q + 1), .int (nI (ec + 1)), .ref (q + 2), .int (nI lc)]))) (show sz ≠ q by omega)).trans f32_
      have f34_ := mw_us (M := (mw_u (mw_u M sz (.inr (2, [.null, .null, .int 0, .int 0]))) (sz + 1 + 1) (.inl (ca 0, n, .inl (cut f n))))) (a := (sz + 1)) (e := (.inr (5, [.ref (sz + 1 + 1), .int (nI n)])))
      have f35_ := (mw_un (M := (mw_u (mw_u (mw_u M sz (.inr (2, [.null, .null, .int 0, .int 0]))) (sz + 1 + 1) (.inl (ca 0, n, .inl (cut f n)))) (sz + 1) (.inr (5, [.ref (sz + 1 + 1), .int (nI n)])))) (e := (.inl (ca 0, nb, .inl (cut fb nb)))) (show sz + 1 ≠ sz + 3 + 1 by omega)).trans f34_
      have f36_ := (mw_un (M := (mw_u (mw_u (mw_u (mw_u M sz (.inr (2, [.null, .null, .int 0, .int 0]))) (sz + 1 + 1) (.inl (ca 0, n, .inl (cut f n)))) (sz + 1) (.inr (5, [.ref (sz + 1 + 1), .int (nI n)]))) (sz + 3 + 1) (.inl (ca 0, nb, .inl (cut fb nb))))) (e := (.inr (5, [.ref (sz + 3 + 1), .int (nI nb)]))) (show sz + 1 ≠ sz + 3 by omega)).trans f35_
      have f37_ := (mw_un (M := (mw_u (mw_u (mw_u (mw_u (mw_u M sz (.inr (2, [.null, .null, .int 0, .int 0]))) (sz + 1 + 1) (.inl (ca 0, n, .inl (cut f n)))) (sz + 1) (.inr (5, [.ref (sz + 1 + 1), .int (nI n)]))) (sz + 3 + 1) (.inl (ca 0, nb, .inl (cut fb nb)))) (sz + 3) (.inr (5, [.ref (sz + 3 + 1), .int (nI nb)])))) (e := (.inr (2, [.ref (sz + 1), .ref (sz + 3), .int (sumN (cut fb nb) nb), .int (-1)]))) (show sz + 1 ≠ sz by omega)).trans f36_
      have f38_ := (mw_un (M := (mw_u (mw_u (mw_u (mw_u (mw_u (mw_u M sz (.inr (2, [.null, .null, .int 0, .int 0]))) (sz + 1 + 1) (.inl (ca 0, n, .inl (cut f n)))) (sz + 1) (.inr (5, [.ref (sz + 1 + 1), .int (nI n)]))) (sz + 3 + 1) (.inl (ca 0, nb, .inl (cut fb nb)))) (sz + 3) (.inr (5, [.ref (sz + 3 + 1), .int (nI nb)]))) sz (.inr (2, [.ref (sz + 1), .ref (sz + 3), .int (sumN (cut fb nb) nb), .int (-1)])))) (e := (.inl (ca 3, 12, .inr (.inr (.inr (.inr (va_up ce ec (some sz)))))))) (show sz + 1 ≠ q + 1 by omega)).trans f37_
      have f39_ := (mw_un (M := (mw_u (mw_u (mw_u (mw_u (mw_u (mw_u (mw_u M sz (.inr (2, [.null, .null, .int 0, .int 0]))) (sz + 1 + 1) (.inl (ca 0, n, .inl (cut f n)))) (sz + 1) (.inr (5, [.ref (sz + 1 + 1), .int (nI n)]))) (sz + 3 + 1) (.inl (ca 0, nb, .inl (cut fb nb)))) (sz + 3) (.inr (5, [.ref (sz + 3 + 1), .int (nI nb)]))) sz (.inr (2, [.ref (sz + 1), .ref (sz + 3), .int (sumN (cut fb nb) nb), .int (-1)]))) (q + 1) (.inl (ca 3, 12, .inr (.inr (.inr (.inr (va_up ce ec (some sz))))))))) (e := (.inr (1, [.ref (q + 1), .int (nI (ec + 1)), .ref (q + 2), .int (nI lc)]))) (show sz + 1 ≠ q by omega)).trans f38_
      have f40_ := mw_us (M := (mw_u M sz (.inr (2, [.null, .null, .int 0, .int 0])))) (a := (sz + 1 + 1)) (e := (.inl (ca 0, n, .inl (cut f n))))
      have f41_ := (mw_un (M := (mw_u (mw_u M sz (.inr (2, [.null, .null, .int 0, .int 0]))) (sz + 1 + 1) (.inl (ca 0, n, .inl (cut f n))))) (e := (.inr (5, [.ref (sz + 1 + 1), .int (nI n)]))) (show sz + 1 + 1 ≠ sz + 1 by omega)).trans f40_
      have f42_ := (mw_un (M := (mw_u (mw_u (mw_u M sz (.inr (2, [.null, .null, .int 0, .int 0]))) (sz + 1 + 1) (.inl (ca 0, n, .inl (cut f n)))) (sz + 1) (.inr (5, [.ref (sz + 1 + 1), .int (nI n)])))) (e := (.inl (ca 0, nb, .inl (cut fb nb)))) (show sz + 1 + 1 ≠ sz + 3 + 1 by omega)).trans f41_
      have f43_ := (mw_un (M := (mw_u (mw_u (mw_u (mw_u M sz (.inr (2, [.null, .null, .int 0, .int 0]))) (sz + 1 + 1) (.inl (ca 0, n, .inl (cut f n)))) (sz + 1) (.inr (5, [.ref (sz + 1 + 1), .int (nI n)]))) (sz + 3 + 1) (.inl (ca 0, nb, .inl (cut fb nb))))) (e := (.inr (5, [.ref (sz + 3 + 1), .int (nI nb)]))) (show sz + 1 + 1 ≠ sz + 3 by omega)).trans f42_
      have f44_ := (mw_un (M := (mw_u (mw_u (mw_u (mw_u (mw_u M sz (.inr (2, [.null, .null, .int 0, .int 0]))) (sz + 1 + 1) (.inl (ca 0, n, .inl (cut f n)))) (sz + 1) (.inr (5, [.ref (sz + 1 + 1), .int (nI n)]))) (sz + 3 + 1) (.inl (ca 0, nb, .inl (cut fb nb)))) (sz + 3) (.inr (5, [.ref (sz + 3 + 1), .int (nI nb)])))) (e := (.inr (2, [.ref (sz + 1), .ref (sz + 3), .int (sumN (cut fb nb) nb), .int (-1)]))) (show sz + 1 + 1 ≠ sz by omega)).trans f43_
      have f45_ := (mw_un (M := (mw_u (mw_u (mw_u (mw_u (mw_u (mw_u M sz (.inr (2, [.null, .null, .int 0, .int 0]))) (sz + 1 + 1) (.inl (ca 0, n, .inl (cut f n)))) (sz + 1) (.inr (5, [.ref (sz + 1 + 1), .int (nI n)]))) (sz + 3 + 1) (.inl (ca 0, nb, .inl (cut fb nb)))) (sz + 3) (.inr (5, [.ref (sz + 3 + 1), .int (nI nb)]))) sz (.inr (2, [.ref (sz + 1), .ref (sz + 3), .int (sumN (cut fb nb) nb), .int (-1)])))) (e := (.inl (ca 3, 12, .inr (.inr (.inr (.inr (va_up ce ec (some sz)))))))) (show sz + 1 + 1 ≠ q + 1 by omega)).trans f44_
      have f46_ := (mw_un (M := (mw_u (mw_u (mw_u (mw_u (mw_u (mw_u (mw_u M sz (.inr (2, [.null, .null, .int 0, .int 0]))) (sz + 1 + 1) (.inl (ca 0, n, .inl (cut f n)))) (sz + 1) (.inr (5, [.ref (sz + 1 + 1), .int (nI n)]))) (sz + 3 + 1) (.inl (ca 0, nb, .inl (cut fb nb)))) (sz + 3) (.inr (5, [.ref (sz + 3 + 1), .int (nI nb)]))) sz (.inr (2, [.ref (sz + 1), .ref (sz + 3), .int (sumN (cut fb nb) nb), .int (-1)]))) (q + 1) (.inl (ca 3, 12, .inr (.inr (.inr (.inr (va_up ce ec (some sz))))))))) (e := (.inr (1, [.ref (q + 1), .int (nI (ec + 1)), .ref (q + 2), .int (nI lc)]))) (show sz + 1 + 1 ≠ q by omega)).trans f45_
      have f47_ := (mw_un (M := (mw_u (mw_u (mw_u (mw_u (mw_u M sz (.inr (2, [.null, .null, .int 0, .int 0]))) (sz + 1 + 1) (.inl (ca 0, n, .inl (cut f n)))) (sz + 1) (.inr (5, [.ref (sz + 1 + 1), .int (nI n)]))) (sz + 3 + 1) (.inl (ca 0, nb, .inl (cut fb nb)))) (sz + 3) (.inr (5, [.ref (sz + 3 + 1), .int (nI nb)])))) (e := (.inr (2, [.ref (sz + 1), .ref (sz + 3), .int (sumN (cut fb nb) nb), .int (-1)]))) (show sz + 3 ≠ sz by omega)).trans f14_
      have f48_ := (mw_un (M := (mw_u (mw_u (mw_u (mw_u (mw_u (mw_u M sz (.inr (2, [.null, .null, .int 0, .int 0]))) (sz + 1 + 1) (.inl (ca 0, n, .inl (cut f n)))) (sz + 1) (.inr (5, [.ref (sz + 1 + 1), .int (nI n)]))) (sz + 3 + 1) (.inl (ca 0, nb, .inl (cut fb nb)))) (sz + 3) (.inr (5, [.ref (sz + 3 + 1), .int (nI nb)]))) sz (.inr (2, [.ref (sz + 1), .ref (sz + 3), .int (sumN (cut fb nb) nb), .int (-1)])))) (e := (.inl (ca 3, 12, .inr (.inr (.inr (.inr (va_up ce ec (some sz)))))))) (show sz + 3 ≠ q + 1 by omega)).trans f47_
      have f49_ := (mw_un (M := (mw_u (mw_u (mw_u (mw_u (mw_u (mw_u (mw_u M sz (.inr (2, [.null, .null, .int 0, .int 0]))) (sz + 1 + 1) (.inl (ca 0, n, .inl (cut f n)))) (sz + 1) (.inr (5, [.ref (sz + 1 + 1), .int (nI n)]))) (sz + 3 + 1) (.inl (ca 0, nb, .inl (cut fb nb)))) (sz + 3) (.inr (5, [.ref (sz + 3 + 1), .int (nI nb)]))) sz (.inr (2, [.ref (sz + 1), .ref (sz + 3), .int (sumN (cut fb nb) nb), .int (-1)]))) (q + 1) (.inl (ca 3, 12, .inr (.inr (.inr (.inr (va_up ce ec (some sz))))))))) (e := (.inr (1, [.ref (q + 1), .int (nI (ec + 1)), .ref (q + 2), .int (nI lc)]))) (show sz + 3 ≠ q by omega)).trans f48_
      have f50_ := (mw_un (M := (mw_u (mw_u (mw_u (mw_u (mw_u M sz (.inr (2, [.null, .null, .int 0, .int 0]))) (sz + 1 + 1) (.inl (ca 0, n, .inl (cut f n)))) (sz + 1) (.inr (5, [.ref (sz + 1 + 1), .int (nI n)]))) (sz + 3 + 1) (.inl (ca 0, nb, .inl (cut fb nb)))) (sz + 3) (.inr (5, [.ref (sz + 3 + 1), .int (nI nb)])))) (e := (.inr (2, [.ref (sz + 1), .ref (sz + 3), .int (sumN (cut fb nb) nb), .int (-1)]))) (show sz + 3 + 1 ≠ sz by omega)).trans f16_
      have f51_ := (mw_un (M := (mw_u (mw_u (mw_u (mw_u (mw_u (mw_u M sz (.inr (2, [.null, .null, .int 0, .int 0]))) (sz + 1 + 1) (.inl (ca 0, n, .inl (cut f n)))) (sz + 1) (.inr (5, [.ref (sz + 1 + 1), .int (nI n)]))) (sz + 3 + 1) (.inl (ca 0, nb, .inl (cut fb nb)))) (sz + 3) (.inr (5, [.ref (sz + 3 + 1), .int (nI nb)]))) sz (.inr (2, [.ref (sz + 1), .ref (sz + 3), .int (sumN (cut fb nb) nb), .int (-1)])))) (e := (.inl (ca 3, 12, .inr (.inr (.inr (.inr (va_up ce ec (some sz)))))))) (show sz + 3 + 1 ≠ q + 1 by omega)).trans f50_
      have f52_ := (mw_un (M := (mw_u (mw_u (mw_u (mw_u (mw_u (mw_u (mw_u M sz (.inr (2, [.null, .null, .int 0, .int 0]))) (sz + 1 + 1) (.inl (ca 0, n, .inl (cut f n)))) (sz + 1) (.inr (5, [.ref (sz + 1 + 1), .int (nI n)]))) (sz + 3 + 1) (.inl (ca 0, nb, .inl (cut fb nb)))) (sz + 3) (.inr (5, [.ref (sz + 3 + 1), .int (nI nb)]))) sz (.inr (2, [.ref (sz + 1), .ref (sz + 3), .int (sumN (cut fb nb) nb), .int (-1)]))) (q + 1) (.inl (ca 3, 12, .inr (.inr (.inr (.inr (va_up ce ec (some sz))))))))) (e := (.inr (1, [.ref (q + 1), .int (nI (ec + 1)), .ref (q + 2), .int (nI lc)]))) (show sz + 3 + 1 ≠ q by omega)).trans f51_
      have f53_ := mw_us (M := (mw_u (mw_u (mw_u (mw_u (mw_u (mw_u M sz (.inr (2, [.null, .null, .int 0, .int 0]))) (sz + 1 + 1) (.inl (ca 0, n, .inl (cut f n)))) (sz + 1) (.inr (5, [.ref (sz + 1 + 1), .int (nI n)]))) (sz + 3 + 1) (.inl (ca 0, nb, .inl (cut fb nb)))) (sz + 3) (.inr (5, [.ref (sz + 3 + 1), .int (nI nb)]))) sz (.inr (2, [.ref (sz + 1), .ref (sz + 3), .int (sumN (cut fb nb) nb), .int (-1)])))) (a := (q + 1)) (e := (.inl (ca 3, 12, .inr (.inr (.inr (.inr (va_up ce ec (some sz))))))))
      have f54_ := (mw_un (M := (mw_u (mw_u (mw_u (mw_u (mw_u (mw_u (mw_u M sz (.inr (2, [.null, .null, .int 0, .int 0]))) (sz + 1 + 1) (.inl (ca 0, n, .inl (cut f n)))) (sz + 1) (.inr (5, [.ref (sz + 1 + 1), .int (nI n)]))) (sz + 3 + 1) (.inl (ca 0, nb, .inl (cut fb nb)))) (sz + 3) (.inr (5, [.ref (sz + 3 + 1), .int (nI nb)]))) sz (.inr (2, [.ref (sz + 1), .ref (sz + 3), .int (sumN (cut fb nb) nb), .int (-1)]))) (q + 1) (.inl (ca 3, 12, .inr (.inr (.inr (.inr (va_up ce ec (some sz))))))))) (e := (.inr (1, [.ref (q + 1), .int (nI (ec + 1)), .ref (q + 2), .int (nI lc)]))) (show q + 1 ≠ q by omega)).trans f53_
      have h24 := isPathB_le (b2i_ne c4)
      exact ⟨_, rfl, Or.inr (Or.inr ⟨b2i_ne c4, hlt12, rfl, ⟨f33_, ⟨f39_, f46_, Nat.le_refl _, by omega⟩, ⟨f49_, f52_, Nat.le_refl _, by omega⟩, h24.2, hb40⟩, f54_, f31_, fun a h1 h2 h3 => ((mw_un (show a ≠ q by omega)).trans ((mw_un (show a ≠ q + 1 by omega)).trans ((mw_un (show a ≠ sz by omega)).trans ((mw_un (show a ≠ sz + 3 by omega)).trans ((mw_un (show a ≠ sz + 3 + 1 by omega)).trans ((mw_un (show a ≠ sz + 1 by omega)).trans ((mw_un (show a ≠ sz + 1 + 1 by omega)).trans (mw_un (show a ≠ sz by omega))))))))), rfl⟩)⟩
    · refine mj_bipush X (v := -4) dX0_takeFile_22 (by decide +kernel) ?_
      refine mj_iret X hr0 (by decide) (by decide) dX0_takeFile_24 ?_
      exact ⟨_, rfl, Or.inr (Or.inl ⟨b2i_ne c4, Nat.not_lt.mp (fun h9 => c19 (nI_lt h9 (by omega))), rfl, rfl, rfl⟩)⟩
  · refine mj_bipush X (v := -2) dX0_takeFile_7 (by decide +kernel) ?_
    refine mj_iret X hr0 (by decide) (by decide) dX0_takeFile_9 ?_
    exact ⟨_, rfl, Or.inl ⟨b2i_eq c4, rfl, rfl, rfl⟩⟩

theorem w_Coming_takeLine_0 : ∀ w ∈ u_ws RX0 TX0 4, w ∈ wsX0_takeLine := by decide +kernel
theorem w_Coming_takeLine_1 : Cond.fieldLink RX0 27 "PackageRows2$Coming" "lineCount" "I" ∈ wsX0_takeLine := by decide +kernel
theorem w_Coming_takeLine_2 : Cond.fieldLink RX0 23 "PackageRows2$Coming" "lines" "[LPackageRows2$Line;" ∈ wsX0_takeLine := by decide +kernel
theorem w_Coming_takeLine_3 : ∀ w ∈ u_ws RX3 TX3 3, w ∈ wsX0_takeLine := by decide +kernel
theorem w_Coming_takeLine_4 : Cond.classLink RX0 21 RX3 ∈ wsX0_takeLine := by decide +kernel
theorem w_Coming_takeLine_5 : Cond.instantiable RX3 3 ∈ wsX0_takeLine := by decide +kernel
theorem w_Coming_takeLine_6 : Cond.initialized RX3 ∈ wsX0_takeLine := by decide +kernel
theorem w_Coming_takeLine_7 : Cond.initialized yX3_init.cls ∈ wsX0_takeLine := by decide +kernel
theorem w_Coming_takeLine_8 : Cond.methodLink RX0 45 yX3_init ∈ wsX0_takeLine := by decide +kernel
theorem w_Coming_takeLine_9 : Cond.instanceMethod yX3_init ∈ wsX0_takeLine := by decide +kernel
set_option maxHeartbeats 4000000 in
set_option maxRecDepth 100000 in
/--  -/
theorem c_Coming_takeLine (l : Launch) (D : va_G) (ca : Nat → ClassId) (M : mw_M) (sz q ec lc : Nat) (ce xl : Nat → Option Nat) (r cap n : Nat) (f : Nat → Int32) (x y : Int32) (hq : M q = some (.inr (1, [.ref (q + 1), .int (nI ec), .ref (q + 2), .int (nI lc)]))) (hqe : M (q + 1) = some (.inl (ca 3, 12, .inr (.inr (.inr (.inr ce)))))) (hql : M (q + 2) = some (.inl (ca 4, 12, .inr (.inr (.inr (.inr xl)))))) (hec : ec ≤ 12) (hlc : lc ≤ 12) (hr : M r = some (.inr (5, [.ref (r + 1), .int (nI n)]))) (ha : M (r + 1) = some (.inl (ca 0, cap, .inl f))) (hn : n ≤ cap) (hcap : cap < 1000) (h40 : n ≤ 40) : mw_C wsX0_takeLine l yX0_takeLine { frames := 4, cells := 3, slots := 45, locals := 89 } D vwCl (mt ca) [.ref q, .ref r, .int x, .int y] M sz (mq_i (fun v9 M' sz' => ((x < 0 ∨ 40 < x ∨ isPathB f n = false) ∧ v9 = -2 ∧ M' = M ∧ sz' = sz) ∨ (¬ x < 0 ∧ ¬ 40 < x ∧ isPathB f n = true ∧ 12 ≤ lc ∧ v9 = -4 ∧ M' = M ∧ sz' = sz) ∨ (¬ x < 0 ∧ ¬ 40 < x ∧ isPathB f n = true ∧ lc < 12 ∧ v9 = nI (lc + 1) ∧ isLin ca M' sz n (cut f n) x y ∧ M' (q + 2) = some (.inl (ca 4, 12, .inr (.inr (.inr (.inr (va_up xl lc (some sz))))))) ∧ M' q = some (.inr (1, [.ref (q + 1), .int (nI ec), .ref (q + 2), .int (nI (lc + 1))])) ∧ (∀ a, a < sz → a ≠ q → a ≠ q + 2 → M' a = M a) ∧ sz' = sz + 3))) := by
  refine mw_enter (cc := cX0_takeLine) (maxL := 4) (ret := (some .int)) rfl (by decide) (Nat.le_of_ble_eq_true rfl) ?_
  intro p e s m below meth c X hr0 hnm hlt
  have hl1 := hlt _ _ hr
  have hl2 := hlt _ _ ha
  have hl5 := hlt _ _ hq
  have hl6 := hlt _ _ hql
  refine mj_iload_n X dX0_takeLine_0 rfl 2 rfl ?_
  refine mj_if_lt X 17 dX0_takeLine_1 (by decide) (fun c1 => ?_) (fun c1 => ?_)
  · refine mj_bipush X (v := -2) dX0_takeLine_17 (by decide +kernel) ?_
    refine mj_iret X hr0 (by decide) (by decide) dX0_takeLine_19 ?_
    exact ⟨_, rfl, Or.inl ⟨Or.inl c1, rfl, rfl, rfl⟩⟩
  · refine mj_iload_n X dX0_takeLine_4 rfl 2 rfl ?_
    refine mj_bipush X (v := 40) dX0_takeLine_5 (by decide +kernel) ?_
    refine mj_icmp_gt X 17 dX0_takeLine_7 (by decide) (fun c7 => ?_) (fun c7 => ?_)
    · refine mj_bipush X (v := -2) dX0_takeLine_17 (by decide +kernel) ?_
      refine mj_iret X hr0 (by decide) (by decide) dX0_takeLine_19 ?_
      exact ⟨_, rfl, Or.inl ⟨Or.inr (Or.inl c7), rfl, rfl, rfl⟩⟩
    · refine mj_aload_n X dX0_takeLine_10 rfl 1 rfl ?_
      refine mj_callS X 1 gX0_takeLine_X4_allow rfl (by decide +kernel) ⟨by decide, by decide⟩ (c_allow l D ca M sz r cap n f hr ha hn hcap) rfl rfl (Nat.le_of_ble_eq_true rfl) dX0_takeLine_11 ⟨by decide, by decide⟩ (mk_ri (fun b1 hb1 => ?_))
      subst hb1
      refine mj_if_ne X 20 dX0_takeLine_14 (by decide) (fun c14 => ?_) (fun c14 => ?_)
      · refine mj_aload_n X dX0_takeLine_20 rfl 0 rfl ?_
        refine mj_get X (C := RX0) (T := TX0) (N := 4) (ci := 1) w_Coming_takeLine_0 rfl 3 (by decide) w_Coming_takeLine_1 hq rfl dX0_takeLine_21 ?_
        refine mj_aload_n X dX0_takeLine_24 rfl 0 rfl ?_
        refine mj_get X (C := RX0) (T := TX0) (N := 4) (ci := 1) w_Coming_takeLine_0 rfl 2 (by decide) w_Coming_takeLine_2 hq rfl dX0_takeLine_25 ?_
        refine mj_alen X 4 (v := nI 12) rfl hql rfl dX0_takeLine_28 ?_
        refine mj_icmp_lt X 35 dX0_takeLine_29 (by decide) (fun c29 => ?_) (fun c29 => ?_)
        · have hlt12 : lc < 12 := (nI_ltI (by omega) (by omega)).mp c29
          refine mj_aload_n X dX0_takeLine_35 rfl 0 rfl ?_
          refine mj_get X (C := RX0) (T := TX0) (N := 4) (ci := 1) w_Coming_takeLine_0 rfl 2 (by decide) w_Coming_takeLine_2 hq rfl dX0_takeLine_36 ?_
          refine mj_aload_n X dX0_takeLine_39 rfl 0 rfl ?_
          refine mj_get X (C := RX0) (T := TX0) (N := 4) (ci := 1) w_Coming_takeLine_0 rfl 3 (by decide) w_Coming_takeLine_1 hq rfl dX0_takeLine_40 ?_
          refine mj_new X (C := RX3) (T := TX3) (N := 3) (ci := 4) [.null, .int 0, .int 0] tyX3 w_Coming_takeLine_3 tyX3_ok rfl (by intro j hj; rcases (show j = 0 ∨ j = 1 ∨ j = 2 by omega) with rfl | rfl | rfl <;> rfl) w_Coming_takeLine_4 w_Coming_takeLine_5 w_Coming_takeLine_6 (by decide) (by decide) dX0_takeLine_43 ?_
          refine mj_dup X dX0_takeLine_46 rfl ?_
          refine mj_aload_n X dX0_takeLine_47 rfl 1 rfl ?_
          have f1_ := (mw_un (M := M) (e := (.inr (4, [.null, .int 0, .int 0]))) (show r ≠ sz by omega)).trans hr
          have f2_ := (mw_un (M := M) (e := (.inr (4, [.null, .int 0, .int 0]))) (show r + 1 ≠ sz by omega)).trans ha
          refine mj_callV X 0 gX0_takeLine_X5_copy rfl (by decide +kernel) ⟨by decide, by decide⟩ (c_Row_copy l D ca _ (sz + 1) r cap n f f1_ f2_ hn hcap h40) rfl f1_ rfl rfl (Nat.le_of_ble_eq_true rfl) dX0_takeLine_48 ⟨by decide, by decide⟩ (mk_q (fun o9 M9 sz9 h9 => ?_))
          obtain ⟨ho9, hM9, hs9⟩ := h9
          subst ho9
          refine mj_top' (.ref (sz + 1)) rfl ?_
          refine mj_to rfl rfl hM9 (sz' := sz + 3) hs9 ?_
          refine mj_iload_n X dX0_takeLine_51 rfl 2 rfl ?_
          refine mj_iload_n X dX0_takeLine_52 rfl 3 rfl ?_
          have f3_ := mw_us (M := M) (a := sz) (e := (.inr (4, [.null, .int 0, .int 0])))
          have f4_ := (mw_un (M := (mw_u M sz (.inr (4, [.null, .int 0, .int 0])))) (e := (.inl (ca 0, n, .inl (cut f n)))) (show sz ≠ sz + 1 + 1 by omega)).trans f3_
          have f5_ := (mw_un (M := (mw_u (mw_u M sz (.inr (4, [.null, .int 0, .int 0]))) (sz + 1 + 1) (.inl (ca 0, n, .inl (cut f n))))) (e := (.inr (5, [.ref (sz + 1 + 1), .int (nI n)]))) (show sz ≠ sz + 1 by omega)).trans f4_
          refine mj_callI X 3 gX0_takeLine_X3_init rfl rfl w_Coming_takeLine_7 w_Coming_takeLine_8 w_Coming_takeLine_9 (by decide +kernel) ⟨by decide, by decide⟩ (c_Line_init l D ca _ (sz + 3) sz (sz + 1) x y f5_) rfl rfl (Nat.le_of_ble_eq_true rfl) dX0_takeLine_53 ⟨by decide, by decide⟩ (mk_v (fun M9 sz9 h9 => ?_))
          refine mj_to rfl rfl h9.1 h9.2 ?_
          have f6_ := (mw_un (M := M) (e := (.inr (4, [.null, .int 0, .int 0]))) (show q + 2 ≠ sz by omega)).trans hql
          have f7_ := (mw_un (M := (mw_u M sz (.inr (4, [.null, .int 0, .int 0])))) (e := (.inl (ca 0, n, .inl (cut f n)))) (show q + 2 ≠ sz + 1 + 1 by omega)).trans f6_
          have f8_ := (mw_un (M := (mw_u (mw_u M sz (.inr (4, [.null, .int 0, .int 0]))) (sz + 1 + 1) (.inl (ca 0, n, .inl (cut f n))))) (e := (.inr (5, [.ref (sz + 1 + 1), .int (nI n)]))) (show q + 2 ≠ sz + 1 by omega)).trans f7_
          have f9_ := (mw_un (M := (mw_u (mw_u (mw_u M sz (.inr (4, [.null, .int 0, .int 0]))) (sz + 1 + 1) (.inl (ca 0, n, .inl (cut f n)))) (sz + 1) (.inr (5, [.ref (sz + 1 + 1), .int (nI n)])))) (e := (.inr (4, [.ref (sz + 1), .int x, .int y]))) (show q + 2 ≠ sz by omega)).trans f8_
          have f10_ := mw_us (M := (mw_u (mw_u (mw_u M sz (.inr (4, [.null, .int 0, .int 0]))) (sz + 1 + 1) (.inl (ca 0, n, .inl (cut f n)))) (sz + 1) (.inr (5, [.ref (sz + 1 + 1), .int (nI n)])))) (a := sz) (e := (.inr (4, [.ref (sz + 1), .int x, .int y])))
          refine mj_aast X 4 lc rfl f9_ f10_ rfl (vp_in_nI (by omega) (by omega)) (nI_clamp (by omega)) dX0_takeLine_56 ?_
          refine mj_aload_n X dX0_takeLine_57 rfl 0 rfl ?_
          refine mj_dup X dX0_takeLine_58 rfl ?_
          have f11_ := (mw_un (M := M) (e := (.inr (4, [.null, .int 0, .int 0]))) (show q ≠ sz by omega)).trans hq
          have f12_ := (mw_un (M := (mw_u M sz (.inr (4, [.null, .int 0, .int 0])))) (e := (.inl (ca 0, n, .inl (cut f n)))) (show q ≠ sz + 1 + 1 by omega)).trans f11_
          have f13_ := (mw_un (M := (mw_u (mw_u M sz (.inr (4, [.null, .int 0, .int 0]))) (sz + 1 + 1) (.inl (ca 0, n, .inl (cut f n))))) (e := (.inr (5, [.ref (sz + 1 + 1), .int (nI n)]))) (show q ≠ sz + 1 by omega)).trans f12_
          have f14_ := (mw_un (M := (mw_u (mw_u (mw_u M sz (.inr (4, [.null, .int 0, .int 0]))) (sz + 1 + 1) (.inl (ca 0, n, .inl (cut f n)))) (sz + 1) (.inr (5, [.ref (sz + 1 + 1), .int (nI n)])))) (e := (.inr (4, [.ref (sz + 1), .int x, .int y]))) (show q ≠ sz by omega)).trans f13_
          have f15_ := (mw_un (M := (mw_u (mw_u (mw_u (mw_u M sz (.inr (4, [.null, .int 0, .int 0]))) (sz + 1 + 1) (.inl (ca 0, n, .inl (cut f n)))) (sz + 1) (.inr (5, [.ref (sz + 1 + 1), .int (nI n)]))) sz (.inr (4, [.ref (sz + 1), .int x, .int y])))) (e := (.inl (ca 4, 12, .inr (.inr (.inr (.inr (va_up xl lc (some sz)))))))) (show q ≠ q + 2 by omega)).trans f14_
          refine mj_get X (C := RX0) (T := TX0) (N := 4) (ci := 1) w_Coming_takeLine_0 rfl 3 (by decide) w_Coming_takeLine_1 f15_ rfl dX0_takeLine_59 ?_
          refine mj_iconst X (v := 1) dX0_takeLine_62 (by decide +kernel) ?_
          refine mj_iadd X dX0_takeLine_63 ?_
          refine mj_top (nI (lc + 1)) (nI_1 lc) ?_
          refine mj_put X (C := RX0) (T := TX0) (N := 4) (ci := 1) (v := .int (nI (lc + 1))) tyX0 w_Coming_takeLine_0 tyX0_ok nmX0 rfl 3 (by decide) w_Coming_takeLine_1 rfl f15_ [.ref (q + 1), .int (nI ec), .ref (q + 2), .int (nI (lc + 1))] (Nat.le_of_ble_eq_true rfl) rfl rfl rfl rfl dX0_takeLine_64 ?_
          refine mj_aload_n X dX0_takeLine_67 rfl 0 rfl ?_
          have f16_ := mw_us (M := (mw_u (mw_u (mw_u (mw_u (mw_u M sz (.inr (4, [.null, .int 0, .int 0]))) (sz + 1 + 1) (.inl (ca 0, n, .inl (cut f n)))) (sz + 1) (.inr (5, [.ref (sz + 1 + 1), .int (nI n)]))) sz (.inr (4, [.ref (sz + 1), .int x, .int y]))) (q + 2) (.inl (ca 4, 12, .inr (.inr (.inr (.inr (va_up xl lc (some sz))))))))) (a := q) (e := (.inr (1, [.ref (q + 1), .int (nI ec), .ref (q + 2), .int (nI (lc + 1))])))
          refine mj_get X (C := RX0) (T := TX0) (N := 4) (ci := 1) w_Coming_takeLine_0 rfl 3 (by decide) w_Coming_takeLine_1 f16_ rfl dX0_takeLine_68 ?_
          refine mj_iret X hr0 (by decide) (by decide) dX0_takeLine_71 ?_
          have f17_ := (mw_un (M := (mw_u (mw_u (mw_u (mw_u M sz (.inr (4, [.null, .int 0, .int 0]))) (sz + 1 + 1) (.inl (ca 0, n, .inl (cut f n)))) (sz + 1) (.inr (5, [.ref (sz + 1 + 1), .int (nI n)]))) sz (.inr (4, [.ref (sz + 1), .int x, .int y])))) (e := (.inl (ca 4, 12, .inr (.inr (.inr (.inr (va_up xl lc (some sz)))))))) (show sz ≠ q + 2 by omega)).trans f10_
          have f18_ := (mw_un (M := (mw_u (mw_u (mw_u (mw_u (mw_u M sz (.inr (4, [.null, .int 0, .int 0]))) (sz + 1 + 1) (.inl (ca 0, n, .inl (cut f n)))) (sz + 1) (.inr (5, [.ref (sz + 1 + 1), .int (nI n)]))) sz (.inr (4, [.ref (sz + 1), .int x, .int y]))) (q + 2) (.inl (ca 4, 12, .inr (.inr (.inr (.inr (va_up xl lc (some sz))))))))) (e := (.inr (1, [.ref (q + 1), .int (nI ec), .ref (q + 2), .int (nI (lc + 1))]))) (show sz ≠ q by omega)).trans f17_
          have f19_ := mw_us (M := (mw_u (mw_u M sz (.inr (4, [.null, .int 0, .int 0]))) (sz + 1 + 1) (.inl (ca 0, n, .inl (cut f n))))) (a := (sz + 1)) (e := (.inr (5, [.ref (sz + 1 + 1), .int (nI n)])))
          have f20_ := (mw_un (M := (mw_u (mw_u (mw_u M sz (.inr (4, [.null, .int 0, .int 0]))) (sz + 1 + 1) (.inl (ca 0, n, .inl (cut f n)))) (sz + 1) (.inr (5, [.ref (sz + 1 + 1), .int (nI n)])))) (e := (.inr (4, [.ref (sz + 1), .int x, .int y]))) (show sz + 1 ≠ sz by omega)).trans f19_
          have f21_ := (mw_un (M := (mw_u (mw_u (mw_u (mw_u M sz (.inr (4, [.null, .int 0, .int 0]))) (sz + 1 + 1) (.inl (ca 0, n, .inl (cut f n)))) (sz + 1) (.inr (5, [.ref (sz + 1 + 1), .int (nI n)]))) sz (.inr (4, [.ref (sz + 1), .int x, .int y])))) (e := (.inl (ca 4, 12, .inr (.inr (.inr (.inr (va_up xl lc (some sz)))))))) (show sz + 1 ≠ q + 2 by omega)).trans f20_
          have f22_ := (mw_un (M := (mw_u (mw_u (mw_u (mw_u (mw_u M sz (.inr (4, [.null, .int 0, .int 0]))) (sz + 1 + 1) (.inl (ca 0, n, .inl (cut f n)))) (sz + 1) (.inr (5, [.ref (sz + 1 + 1), .int (nI n)]))) sz (.inr (4, [.ref (sz + 1), .int x, .int y]))) (q + 2) (.inl (ca 4, 12, .inr (.inr (.inr (.inr (va_up xl lc (some sz))))))))) (e := (.inr (1, [.ref (q + 1), .int (nI ec), .ref (q + 2), .int (nI (lc + 1))]))) (show sz + 1 ≠ q by omega)).trans f21_
          have f23_ := mw_us (M := (mw_u M sz (.inr (4, [.null, .int 0, .int 0])))) (a := (sz + 1 + 1)) (e := (.inl (ca 0, n, .inl (cut f n))))
          have f24_ := (mw_un (M := (mw_u (mw_u M sz (.inr (4, [.null, .int 0, .int 0]))) (sz + 1 + 1) (.inl (ca 0, n, .inl (cut f n))))) (e := (.inr (5, [.ref (sz + 1 + 1), .int (nI n)]))) (show sz + 1 + 1 ≠ sz + 1 by omega)).trans f23_
          have f25_ := (mw_un (M := (mw_u (mw_u (mw_u M sz (.inr (4, [.null, .int 0, .int 0]))) (sz + 1 + 1) (.inl (ca 0, n, .inl (cut f n)))) (sz + 1) (.inr (5, [.ref (sz + 1 + 1), .int (nI n)])))) (e := (.inr (4, [.ref (sz + 1), .int x, .int y]))) (show sz + 1 + 1 ≠ sz by omega)).trans f24_
          have f26_ := (mw_un (M := (mw_u (mw_u (mw_u (mw_u M sz (.inr (4, [.null, .int 0, .int 0]))) (sz + 1 + 1) (.inl (ca 0, n, .inl (cut f n)))) (sz + 1) (.inr (5, [.ref (sz + 1 + 1), .int (nI n)]))) sz (.inr (4, [.ref (sz + 1), .int x, .int y])))) (e := (.inl (ca 4, 12, .inr (.inr (.inr (.inr (va_up xl lc (some sz)))))))) (show sz + 1 + 1 ≠ q + 2 by omega)).trans f25_
          have f27_ := (mw_un (M := (mw_u (mw_u (mw_u (mw_u (mw_u M sz (.inr (4, [.null, .int 0, .int 0]))) (sz + 1 + 1) (.inl (ca 0, n, .inl (cut f n)))) (sz + 1) (.inr (5, [.ref (sz + 1 + 1), .int (nI n)]))) sz (.inr (4, [.ref (sz + 1), .int x, .int y]))) (q + 2) (.inl (ca 4, 12, .inr (.inr (.inr (.inr (va_up xl lc (some sz))))))))) (e := (.inr (1, [.ref (q + 1), .int (nI ec), .ref (q + 2), .int (nI (lc + 1))]))) (show sz + 1 + 1 ≠ q by omega)).trans f26_
          have f28_ := mw_us (M := (mw_u (mw_u (mw_u (mw_u M sz (.inr (4, [.null, .int 0, .int 0]))) (sz + 1 + 1) (.inl (ca 0, n, .inl (cut f n)))) (sz + 1) (.inr (5, [.ref (sz + 1 + 1), .int (nI n)]))) sz (.inr (4, [.ref (sz + 1), .int x, .int y])))) (a := (q + 2)) (e := (.inl (ca 4, 12, .inr (.inr (.inr (.inr (va_up xl lc (some sz))))))))
          have f29_ := (mw_un (M := (mw_u (mw_u (mw_u (mw_u (mw_u M sz (.inr (4, [.null, .int 0, .int 0]))) (sz + 1 + 1) (.inl (ca 0, n, .inl (cut f n)))) (sz + 1) (.inr (5, [.ref (sz + 1 + 1), .int (nI n)]))) sz (.inr (4, [.ref (sz + 1), .int x, .int y]))) (q + 2) (.inl (ca 4, 12, .inr (.inr (.inr (.inr (va_up xl lc (some sz))))))))) (e := (.inr (1, [.ref (q + 1), .int (nI ec), .ref (q + 2), .int (nI (lc + 1))]))) (show q + 2 ≠ q by omega)).trans f28_
          have h24 := isPathB_le (b2i_ne c14)
          exact ⟨_, rfl, Or.inr (Or.inr ⟨c1, c7, b2i_ne c14, hlt12, rfl, ⟨f18_, ⟨f22_, f27_, Nat.le_refl _, by omega⟩, h24.2⟩, f29_, f16_, fun a h1 h2 h3 => ((mw_un (show a ≠ q by omega)).trans ((mw_un (show a ≠ q + 2 by omega)).trans ((mw_un (show a ≠ sz by omega)).trans ((mw_un (show a ≠ sz + 1 by omega)).trans ((mw_un (show a ≠ sz + 1 + 1 by omega)).trans (mw_un (show a ≠ sz by omega))))))), rfl⟩)⟩
        · refine mj_bipush X (v := -4) dX0_takeLine_32 (by decide +kernel) ?_
          refine mj_iret X hr0 (by decide) (by decide) dX0_takeLine_34 ?_
          exact ⟨_, rfl, Or.inr (Or.inl ⟨c1, c7, b2i_ne c14, Nat.not_lt.mp (fun h9 => c29 (nI_lt h9 (by omega))), rfl, rfl, rfl⟩)⟩
      · refine mj_bipush X (v := -2) dX0_takeLine_17 (by decide +kernel) ?_
        refine mj_iret X hr0 (by decide) (by decide) dX0_takeLine_19 ?_
        exact ⟨_, rfl, Or.inl ⟨Or.inr (Or.inr (b2i_eq c14)), rfl, rfl, rfl⟩⟩

theorem w_Coming_sharedOrNew0_0 : ∀ w ∈ u_ws RX1 TX1 4, w ∈ wsX0_sharedOrNew := by decide +kernel
theorem w_Coming_sharedOrNew0_1 : Cond.fieldLink RX0 110 "PackageRows2$Entry" "firstVersion" "I" ∈ wsX0_sharedOrNew := by decide +kernel
set_option maxHeartbeats 4000000 in
set_option maxRecDepth 100000 in
/--  -/
theorem c_Coming_sharedOrNew0 (l : Launch) (D : va_G) (ca : Nat → ClassId) (M : mw_M) (sz a an ak : Nat) (af ag : Nat → Int32) (av x : Int32) (hA : isEnt ca M a an af ak ag av) : mw_C wsX0_sharedOrNew l yX0_sharedOrNew { frames := 4, cells := 0, slots := 0, locals := 87 } D vwCl (mt ca) [.ref a, .int x, .null] M sz (mq_q (fun o M' sz' => o = some a ∧ M' = mw_u M a (.inr (2, [.ref (a + 1), .ref (a + 3), .int (sumN ag ak), .int x])) ∧ sz' = sz)) := by
  refine mw_enter (cc := cX0_sharedOrNew) (maxL := 4) (ret := (some (.object "PackageRows2$Entry"))) rfl (by decide) (Nat.le_of_ble_eq_true rfl) ?_
  intro p e s m below meth c X hr0 hnm hlt
  obtain ⟨hA1, ⟨hA2, hA3, hA4, hA5⟩, ⟨hA6, hA7, hA8, hA9⟩, hA10, hA11⟩ := hA
  refine mj_aload_nN X dX0_sharedOrNew_0 rfl 2 rfl ?_
  refine mj_ifnonnullN X dX0_sharedOrNew_1 ?_
  refine mj_null X dX0_sharedOrNew_4 ?_
  refine mj_goto X 16 dX0_sharedOrNew_5 (by decide) ?_
  refine mj_astore_nN X [(3, .null), (0, .ref a), (1, .int x), (2, .null)] dX0_sharedOrNew_16 rfl (by decide) rfl ?_
  refine mj_aload_nN X dX0_sharedOrNew_17 rfl 0 rfl ?_
  refine mj_ifnullN X 37 dX0_sharedOrNew_18 (by decide) ?_
  refine mj_aload_n X dX0_sharedOrNew_37 rfl 1 rfl ?_
  refine mj_iload_n X dX0_sharedOrNew_38 rfl 2 rfl ?_
  refine mj_put X (C := RX1) (T := TX1) (N := 4) (ci := 2) (v := .int x) tyX1 w_Coming_sharedOrNew0_0 tyX1_ok nmX1 rfl 3 (by decide) w_Coming_sharedOrNew0_1 rfl hA1 [.ref (a + 1), .ref (a + 3), .int (sumN ag ak), .int x] (Nat.le_of_ble_eq_true rfl) rfl rfl rfl rfl dX0_sharedOrNew_39 ?_
  refine mj_aload_n X dX0_sharedOrNew_42 rfl 1 rfl ?_
  refine mj_aret X (Or.inr ⟨_, rfl⟩) hr0 (by decide) (by decide) dX0_sharedOrNew_43 ?_
  exact ⟨some a, rfl, rfl, rfl, rfl⟩

theorem w_Coming_sharedOrNew1_0 : ∀ w ∈ u_ws RX1 TX1 4, w ∈ wsX0_sharedOrNew := by decide +kernel
theorem w_Coming_sharedOrNew1_1 : Cond.fieldLink RX0 91 "PackageRows2$Entry" "name" "LPackageRows2$Row;" ∈ wsX0_sharedOrNew := by decide +kernel
theorem w_Coming_sharedOrNew1_2 : Cond.fieldLink RX0 75 "PackageRows2$Entry" "bytes" "LPackageRows2$Row;" ∈ wsX0_sharedOrNew := by decide +kernel
theorem w_Coming_sharedOrNew1_3 : Cond.fieldLink RX0 110 "PackageRows2$Entry" "firstVersion" "I" ∈ wsX0_sharedOrNew := by decide +kernel
set_option maxHeartbeats 4000000 in
set_option maxRecDepth 100000 in
/--  -/
theorem c_Coming_sharedOrNew1 (l : Launch) (D : va_G) (ca : Nat → ClassId) (M : mw_M) (sz a an ak : Nat) (af ag : Nat → Int32) (av x : Int32) (w wc : Nat) (we : Nat → Option Nat) (F fn fk : Nat → Nat) (ff fg : Nat → Nat → Int32) (fv : Nat → Int32) (hA : isEnt ca M a an af ak ag av) (hw : M w = some (.inr (7, [.ref (w + 1), .int (nI wc)]))) (hwa : M (w + 1) = some (.inl (ca 3, 8, .inr (.inr (.inr (.inr we)))))) (hwc : wc ≤ 8) (hwe : ∀ i, i < wc → we i = some (F i)) (hwent : ∀ i, i < wc → isEnt ca M (F i) (fn i) (ff i) (fk i) (fg i) (fv i)) : mw_C wsX0_sharedOrNew l yX0_sharedOrNew { frames := 4, cells := 0, slots := 0, locals := 87 } D vwCl (mt ca) [.ref a, .int x, .ref w] M sz (mq_q (fun o M' sz' => ((∃ i2, shr wc fn fk ff fg an af ak ag i2 ∧ o = some (F i2) ∧ M' = M) ∨ ((∀ i2, ¬ shr wc fn fk ff fg an af ak ag i2) ∧ o = some a ∧ M' = mw_u M a (.inr (2, [.ref (a + 1), .ref (a + 3), .int (sumN ag ak), .int x])))) ∧ sz' = sz)) := by
  refine mw_enter (cc := cX0_sharedOrNew) (maxL := 4) (ret := (some (.object "PackageRows2$Entry"))) rfl (by decide) (Nat.le_of_ble_eq_true rfl) ?_
  intro p e s m below meth c X hr0 hnm hlt
  obtain ⟨hA1, ⟨hA2, hA3, hA4, hA5⟩, ⟨hA6, hA7, hA8, hA9⟩, hA10, hA11⟩ := hA
  refine mj_aload_n X dX0_sharedOrNew_0 rfl 2 rfl ?_
  refine mj_ifnonnullR X 8 dX0_sharedOrNew_1 (by decide) ?_
  refine mj_aload_n X dX0_sharedOrNew_8 rfl 2 rfl ?_
  refine mj_aload_n X dX0_sharedOrNew_9 rfl 0 rfl ?_
  refine mj_get X (C := RX1) (T := TX1) (N := 4) (ci := 2) w_Coming_sharedOrNew1_0 rfl 0 (by decide) w_Coming_sharedOrNew1_1 hA1 rfl dX0_sharedOrNew_10 ?_
  refine mj_callV X 1 gX0_sharedOrNew_X7_entryOfPath rfl (by decide +kernel) ⟨by decide, by decide⟩ (c_Version_entryOfPath l D ca M sz w wc we F fn fk ff fg fv (a + 1) an an af hw hwa hwc hwe hwent hA2 hA3 hA4 hA5) rfl hw rfl rfl (Nat.le_of_ble_eq_true rfl) dX0_sharedOrNew_13 ⟨by decide, by decide⟩ (mk_rq (fun o6 ho6 => ?_))
  rcases ho6 with ⟨i2, g1, g2, g3, g4⟩ | ⟨g1, g4⟩
  · subst g4
    refine mj_top' (.ref (F i2)) rfl ?_
    obtain ⟨hF1, ⟨hF2, hF3, hF4, hF5⟩, ⟨hF6, hF7, hF8, hF9⟩, hF10, hF11⟩ := hwent i2 g1
    refine mj_astore_n X [(3, .ref (F i2)), (0, .ref a), (1, .int x), (2, .ref w)] dX0_sharedOrNew_16 rfl (by decide) rfl ?_
    refine mj_aload_n X dX0_sharedOrNew_17 rfl 0 rfl ?_
    refine mj_ifnullR X dX0_sharedOrNew_18 ?_
    refine mj_aload_n X dX0_sharedOrNew_21 rfl 0 rfl ?_
    refine mj_get X (C := RX1) (T := TX1) (N := 4) (ci := 2) w_Coming_sharedOrNew1_0 rfl 1 (by decide) w_Coming_sharedOrNew1_2 hF1 rfl dX0_sharedOrNew_22 ?_
    refine mj_aload_n X dX0_sharedOrNew_25 rfl 1 rfl ?_
    refine mj_get X (C := RX1) (T := TX1) (N := 4) (ci := 2) w_Coming_sharedOrNew1_0 rfl 1 (by decide) w_Coming_sharedOrNew1_2 hA1 rfl dX0_sharedOrNew_26 ?_
    refine mj_callV X 1 gX0_sharedOrNew_X5_alike rfl (by decide +kernel) ⟨by decide, by decide⟩ (c_Row_alike l D ca M sz (F i2 + 3) (fk i2) (fk i2) (fg i2) (a + 3) ak ak ag hF6 hF7 hF8 hF9 hA6 hA7 hA8 hA9) rfl hF6 rfl rfl (Nat.le_of_ble_eq_true rfl) dX0_sharedOrNew_29 ⟨by decide, by decide⟩ (mk_ri (fun b2 hb2 => ?_))
    refine mj_if_eq X 37 dX0_sharedOrNew_32 (by decide) (fun c32 => ?_) (fun c32 => ?_)
    · refine mj_aload_n X dX0_sharedOrNew_37 rfl 1 rfl ?_
      refine mj_iload_n X dX0_sharedOrNew_38 rfl 2 rfl ?_
      refine mj_put X (C := RX1) (T := TX1) (N := 4) (ci := 2) (v := .int x) tyX1 w_Coming_sharedOrNew1_0 tyX1_ok nmX1 rfl 3 (by decide) w_Coming_sharedOrNew1_3 rfl hA1 [.ref (a + 1), .ref (a + 3), .int (sumN ag ak), .int x] (Nat.le_of_ble_eq_true rfl) rfl rfl rfl rfl dX0_sharedOrNew_39 ?_
      refine mj_aload_n X dX0_sharedOrNew_42 rfl 1 rfl ?_
      refine mj_aret X (Or.inr ⟨_, rfl⟩) hr0 (by decide) (by decide) dX0_sharedOrNew_43 ?_
      have hno : ∀ i3, ¬ shr wc fn fk ff fg an af ak ag i3 := by
        rintro i3 ⟨h1, h2, h3, h4⟩
        have e9 := least_eq (P := fun p => same (fn p) (ff p) an af) g2 g3 h2 h3
        subst e9
        rcases hb2 with ⟨h5, -⟩ | ⟨-, h5⟩
        · rw [h5] at c32; exact absurd c32 (by decide)
        · exact h5 h4
      exact ⟨some a, rfl, Or.inr ⟨hno, rfl, rfl⟩, rfl⟩
    · refine mj_aload_n X dX0_sharedOrNew_35 rfl 0 rfl ?_
      refine mj_aret X (Or.inr ⟨_, rfl⟩) hr0 (by decide) (by decide) dX0_sharedOrNew_36 ?_
      have hs9 : same (fk i2) (fg i2) ak ag := by
        rcases hb2 with ⟨-, h5⟩ | ⟨h5, -⟩
        · exact h5
        · exact absurd h5 c32
      exact ⟨some (F i2), rfl, Or.inl ⟨i2, ⟨g1, g2, g3, hs9⟩, rfl, rfl⟩, rfl⟩
  · subst g4
    refine mj_top' .null rfl ?_
    refine mj_astore_nN X [(3, .null), (0, .ref a), (1, .int x), (2, .ref w)] dX0_sharedOrNew_16 rfl (by decide) rfl ?_
    refine mj_aload_nN X dX0_sharedOrNew_17 rfl 0 rfl ?_
    refine mj_ifnullN X 37 dX0_sharedOrNew_18 (by decide) ?_
    refine mj_aload_n X dX0_sharedOrNew_37 rfl 1 rfl ?_
    refine mj_iload_n X dX0_sharedOrNew_38 rfl 2 rfl ?_
    refine mj_put X (C := RX1) (T := TX1) (N := 4) (ci := 2) (v := .int x) tyX1 w_Coming_sharedOrNew1_0 tyX1_ok nmX1 rfl 3 (by decide) w_Coming_sharedOrNew1_3 rfl hA1 [.ref (a + 1), .ref (a + 3), .int (sumN ag ak), .int x] (Nat.le_of_ble_eq_true rfl) rfl rfl rfl rfl dX0_sharedOrNew_39 ?_
    refine mj_aload_n X dX0_sharedOrNew_42 rfl 1 rfl ?_
    refine mj_aret X (Or.inr ⟨_, rfl⟩) hr0 (by decide) (by decide) dX0_sharedOrNew_43 ?_
    exact ⟨some a, rfl, Or.inr ⟨fun i2 h9 => g1 i2 h9.1 h9.2.1, rfl, rfl⟩, rfl⟩

