theorem lw_z1 : Cond.laysStatic Bundle.tN "UNASSIGNED_STACK" Bundle.steD ∈ lw_tbl := by decide +kernel
theorem lw_z2 : Cond.initialized Bundle.tN ∈ lw_tbl := by decide +kernel
theorem lw_z3 : Cond.isRef (.static Bundle.tN "UNASSIGNED_STACK" Bundle.steD) ∈ flatC (Jvm.Cond.and given_1 narrow_1) := by decide +kernel
theorem lw_z4 : Cond.laysStatic Bundle.tN "SUPPRESSED_SENTINEL" Bundle.listD ∈ lw_tbl := by decide +kernel
theorem lw_z5 : Cond.isRef (.static Bundle.tN "SUPPRESSED_SENTINEL" Bundle.listD) ∈ flatC (Jvm.Cond.and given_1 narrow_1) := by decide +kernel
theorem lw_zb : ∀ w ∈ mx_bad, w ∈ lw_tbl := by decide +kernel
set_option maxHeartbeats 4000000 in
set_option maxRecDepth 100000 in
theorem whole_start {p : Program} {e : Env} {s : State} {m : MethodId} {below : List Frame} {meth : Method} {c : Code} (l : Launch) {b L : Nat} {xs : Nat → Int32} (hl0 : l.stackTraces = false) (hL : L ≤ 2048) (C0 : lw_At p s m meth c b L xs) : W p l e room_1 s m #[Value.ref b] below meth c s.heap [] 0 0 (lw_Z below #[Value.ref b] s) (entryFrame m ([Value.ref b] : List Value).toArray 7) := by
  obtain ⟨hx, hb, hr, hml, hown, hts, hX, hbl, hlocks, hgv⟩ := id C0
  obtain ⟨c0, i0, hKn0⟩ := u_known (C := RJx00060) (T := TJx00060) (N := 6) (n := 6) hts inJx00060 (hts (.instantiable RJx00060 6) (wsL_law_in _ (by decide +kernel)))
  obtain ⟨c1, i1, hKn1⟩ := u_known (C := RX0) (T := TX0) (N := 4) (n := 4) hts inX0 (hts (.instantiable RX0 4) (wsL_law_in _ (by decide +kernel)))
  obtain ⟨c2, i2, hKn2⟩ := u_known (C := RX1) (T := TX1) (N := 4) (n := 4) hts inX1 (hts (.instantiable RX1 4) (wsL_law_in _ (by decide +kernel)))
  obtain ⟨c3, i3, hKn3⟩ := u_known (C := RX2) (T := TX2) (N := 3) (n := 3) hts inX2 (hts (.instantiable RX2 3) (wsL_law_in _ (by decide +kernel)))
  obtain ⟨c4, i4, hKn4⟩ := u_known (C := RX3) (T := TX3) (N := 3) (n := 3) hts inX3 (hts (.instantiable RX3 3) (wsL_law_in _ (by decide +kernel)))
  obtain ⟨c5, i5, hKn5⟩ := u_known (C := RX5) (T := TX5) (N := 2) (n := 2) hts inX5 (hts (.instantiable RX5 2) (wsL_law_in _ (by decide +kernel)))
  obtain ⟨c6, i6, hKn6⟩ := u_known (C := RX6) (T := TX6) (N := 4) (n := 4) hts inX6 (hts (.instantiable RX6 4) (wsL_law_in _ (by decide +kernel)))
  obtain ⟨c7, i7, hKn7⟩ := u_known (C := RX7) (T := TX7) (N := 2) (n := 2) hts inX7 (hts (.instantiable RX7 2) (wsL_law_in _ (by decide +kernel)))
  obtain ⟨c8, i8, hKn8⟩ := u_known (C := RX8) (T := TX8) (N := 7) (n := 7) hts inX8 (hts (.instantiable RX8 7) (wsL_law_in _ (by decide +kernel)))
  obtain ⟨c9, i9, hKn9⟩ := u_known (C := RX9) (T := TX9) (N := 25) (n := 25) hts inX9 (hts (.instantiable RX9 25) (wsL_law_in _ (by decide +kernel)))
  obtain ⟨dC, dI, hKc⟩ : ∃ (dC : Nat → ClassId) (dI : Nat → Nat → Nat), ∀ (k : Nat) (q : vw_C), vwCl[k]? = some q → u_Kn s q.1 q.2.1 q.2.2 (dC k) (dI k) := by
    refine ⟨fun k => if k = 0 then c0 else if k = 1 then c1 else if k = 2 then c2 else if k = 3 then c3 else if k = 4 then c4 else if k = 5 then c5 else if k = 6 then c6 else if k = 7 then c7 else if k = 8 then c8 else c9, fun k => if k = 0 then i0 else if k = 1 then i1 else if k = 2 then i2 else if k = 3 then i3 else if k = 4 then i4 else if k = 5 then i5 else if k = 6 then i6 else if k = 7 then i7 else if k = 8 then i8 else i9, ?_⟩
    intro k q hq
    match k, hq with
    | 0, hq => cases hq; exact hKn0
    | 1, hq => cases hq; exact hKn1
    | 2, hq => cases hq; exact hKn2
    | 3, hq => cases hq; exact hKn3
    | 4, hq => cases hq; exact hKn4
    | 5, hq => cases hq; exact hKn5
    | 6, hq => cases hq; exact hKn6
    | 7, hq => cases hq; exact hKn7
    | 8, hq => cases hq; exact hKn8
    | 9, hq => cases hq; exact hKn9
    | k + 10, hq => simp [vwCl] at hq
  obtain ⟨a0, k0, m0, e0, f0, g0⟩ := Cond.arrayClass_spec (hts (.arrayClass .int) (wsL_law_in _ (by decide +kernel)))
  obtain ⟨a1, k1, m1, e1, f1, g1⟩ := Cond.arrayClass_spec (hts (.arrayClass .boolean) (wsL_law_in _ (by decide +kernel)))
  obtain ⟨a2, k2, m2, e2, f2, g2⟩ := Cond.arrayClass_spec (hts (.arrayClass .byte) (wsL_law_in _ (by decide +kernel)))
  obtain ⟨a6, k6, m6, e6, f6, g6⟩ := Cond.arrayClass_spec (hts (.arrayClass .long) (wsL_law_in _ (by decide +kernel)))
  have ho3 := hts (.arrayOver (.object RX1)) (by decide +kernel)
  obtain ⟨m3, a3, k3, d3, n3, e3, f3, g3⟩ := Cond.arrayOver_spec ho3
  have ho4 := hts (.arrayOver (.object RX3)) (by decide +kernel)
  obtain ⟨m4, a4, k4, d4, n4, e4, f4, g4⟩ := Cond.arrayOver_spec ho4
  have ho5 := hts (.arrayOver (.object RX7)) (by decide +kernel)
  obtain ⟨m5, a5, k5, d5, n5, e5, f5, g5⟩ := Cond.arrayOver_spec ho5
  obtain ⟨ca, hca⟩ : ∃ ca : Nat → ClassId, ∀ (k : Nat) (q : ClassId × FieldType), (mt ca)[k]? = some q → ArrOfT s q.1 q.2 ∧ va_RA s q.1 q.2 := by
    refine ⟨fun k => if k = 0 then a0 else if k = 1 then a1 else if k = 2 then a2 else if k = 3 then a3 else if k = 4 then a4 else if k = 5 then a5 else a6, ?_⟩
    intro k q hq
    match k, hq with
    | 0, hq => cases hq; exact ⟨fun n z => ⟨fun k h => (by cases h), k0, f0, m0, g0⟩, e0⟩
    | 1, hq => cases hq; exact ⟨fun n z => ⟨fun k h => (by cases h), k1, f1, m1, g1⟩, e1⟩
    | 2, hq => cases hq; exact ⟨fun n z => ⟨fun k h => (by cases h), k2, f2, m2, g2⟩, e2⟩
    | 3, hq => cases hq; exact ⟨fun n z => ⟨fun k h => (by cases h), k3, e3, m3, f3⟩, k3, m3, e3, f3, d3, g3⟩
    | 4, hq => cases hq; exact ⟨fun n z => ⟨fun k h => (by cases h), k4, e4, m4, f4⟩, k4, m4, e4, f4, d4, g4⟩
    | 5, hq => cases hq; exact ⟨fun n z => ⟨fun k h => (by cases h), k5, e5, m5, f5⟩, k5, m5, e5, f5, d5, g5⟩
    | 6, hq => cases hq; exact ⟨fun n z => ⟨fun k h => (by cases h), k6, f6, m6, g6⟩, e6⟩
    | k + 7, hq => simp [mt] at hq
  have hao : ∀ C ∈ mw_ao, va_AO C s := by
    intro C hC
    simp only [mw_ao, List.mem_cons, List.not_mem_nil, or_false] at hC
    rcases hC with rfl | rfl | rfl
    · exact va_AO.of ho3
    · exact va_AO.of ho4
    · exact va_AO.of ho5
  have X : mw_X p s m #[Value.ref b] meth c cL_law 7 RL lw_tbl (dC, dI) vwCl (mt ca) := ⟨hx, hb, hml, hown, hts, ⟨hKc, hca⟩, hlocks, hao⟩
  have hZ : mx_Z (fun q => s.heap.size ≤ q) s s.heap := by
    refine ⟨vx_Zqof (args := #[Value.ref b]) (hts _ lw_z1) (hts _ lw_z2) (flat_of_before _ hgv _ lw_z3) (fun a h => Nat.not_le.mpr h), vx_Zqof (args := #[Value.ref b]) (hts _ lw_z4) (hts _ lw_z2) (flat_of_before _ hgv _ lw_z5) (fun a h => Nat.not_le.mpr h), ?_⟩
    intro w hw a
    have h9 := hts w (lw_zb w hw)
    simp only [mx_bad, List.mem_cons, List.not_mem_nil, or_false] at hw
    rcases hw with rfl | rfl | rfl | rfl | rfl | rfl <;> exact lw_any rfl h9
  have hl := lv_entry ([.ref b]) (n := 7) (Nat.le_of_ble_eq_true rfl)
  rw [lg_entry_eq]
  obtain ⟨x, ex⟩ : ∃ x, x = s.heap.size := ⟨_, rfl⟩
  obtain ⟨o, hox⟩ : ∃ o, o = x + 14 := ⟨_, rfl⟩
  suffices K : mw_J p l e room_1 s m #[Value.ref b] below meth c 7 (dC, dI) vwCl (fun q => s.heap.size ≤ q) (lw_Z below #[Value.ref b] s) 0 [(0, .ref b)] [] (fun _ => none) x 0 0 from K s.heap [] _ ⟨ex.symm, (fun a e h => by cases h), (fun a e h => by cases h), (fun q h => h), va_S.rf⟩ hl
  refine mj_new X (C := RX8) (T := TX8) (N := 7) (ci := 8) [.null, .null, .null, .null, .null, .int 0, .null] tyX8 inX8 tyX8_ok rfl (by intro j hj; rcases (show j = 0 ∨ j = 1 ∨ j = 2 ∨ j = 3 ∨ j = 4 ∨ j = 5 ∨ j = 6 by omega) with rfl | rfl | rfl | rfl | rfl | rfl | rfl <;> rfl) (wsL_law_in _ (by decide +kernel)) (wsL_law_in _ (by decide +kernel)) (wsL_law_in _ (by decide +kernel)) (by decide) (by decide) dL_law_0 ?_
  refine mj_dup X dL_law_3 rfl ?_
  refine mj_callI X 0 (lw_g gL_law_X8_init) rfl rfl (wsL_law_in _ (by decide +kernel)) (wsL_law_in _ (by decide +kernel)) (wsL_law_in _ (by decide +kernel)) (by decide +kernel) ⟨by decide, by decide⟩ (c_Pkg_init l (dC, dI) ca _ x mw_us) rfl rfl (Nat.le_of_ble_eq_true rfl) dL_law_4 ⟨by decide, by decide⟩ (mk_v (fun M1 s1 h1 => ?_))
  obtain ⟨y0, y1, y2, y3, y4, y5, y6, y7, y8, y9, y10, y11, y12, y13, -, rfl⟩ := h1
  refine mj_lt (fun hlt1 => ?_)
  refine mj_astore_n X [(1, .ref x), (0, .ref b)] dL_law_7 rfl (by decide) rfl ?_
  refine mj_to (M' := M1) (sz' := o) rfl rfl rfl hox.symm ?_
  refine mj_new X (C := RX9) (T := TX9) (N := 25) (ci := 9) [.int 0, .int 0, .null, .int 0, .null, .int 0, .int 0, .null, .null, .null, .null, .null, .null, .int 0, .null, .null, .int 0, .null, .null, .int 0, .int 0, .int 0, .int 0, .null, .null] tyX9 inX9 tyX9_ok rfl (by intro j hj; rcases (show j = 0 ∨ j = 1 ∨ j = 2 ∨ j = 3 ∨ j = 4 ∨ j = 5 ∨ j = 6 ∨ j = 7 ∨ j = 8 ∨ j = 9 ∨ j = 10 ∨ j = 11 ∨ j = 12 ∨ j = 13 ∨ j = 14 ∨ j = 15 ∨ j = 16 ∨ j = 17 ∨ j = 18 ∨ j = 19 ∨ j = 20 ∨ j = 21 ∨ j = 22 ∨ j = 23 ∨ j = 24 by omega) with rfl | rfl | rfl | rfl | rfl | rfl | rfl | rfl | rfl | rfl | rfl | rfl | rfl | rfl | rfl | rfl | rfl | rfl | rfl | rfl | rfl | rfl | rfl | rfl | rfl <;> rfl) (wsL_law_in _ (by decide +kernel)) (wsL_law_in _ (by decide +kernel)) (wsL_law_in _ (by decide +kernel)) (by decide) (by decide) dL_law_8 ?_
  refine mj_dup X dL_law_11 rfl ?_
  refine mj_callI X 0 (lw_g gL_law_X9_init) rfl rfl (wsL_law_in _ (by decide +kernel)) (wsL_law_in _ (by decide +kernel)) (wsL_law_in _ (by decide +kernel)) (by decide +kernel) ⟨by decide, by decide⟩ (c_M_init l (dC, dI) ca _ o mw_us) rfl rfl (Nat.le_of_ble_eq_true rfl) dL_law_12 ⟨by decide, by decide⟩ (mk_v (fun M2 s2 h2 => ?_))
  obtain ⟨z0, z1, z2, z3, z4, z5, z6, z7, z8, z9, z10, z11, z12, z13, z14, zf, rfl⟩ := h2
  refine mj_astore_n X [(2, .ref o), (1, .ref x), (0, .ref b)] dL_law_15 rfl (by decide) rfl ?_
  refine mj_iconst X (v := nI 1) dL_law_16 (by decide +kernel) ?_
  refine mj_newa X (atype := .long) 6 1 (1, .inr (.inl (fun _ => 0))) rfl rfl (fun _ h9 => h9) (wsL_law_in _ (by decide +kernel)) (fun _ => rfl) (by decide) (by decide) (by decide) (by decide) (by decide) dL_law_17 ?_
  refine mj_astore_n X [(3, .ref (o + 15)), (2, .ref o), (1, .ref x), (0, .ref b)] dL_law_19 rfl (by decide) rfl ?_
  refine mj_iconst X (v := nI 0) dL_law_20 (by decide +kernel) ?_
  refine mj_istore X [(4, .int (nI 0)), (3, .ref (o + 15)), (2, .ref o), (1, .ref x), (0, .ref b)] dL_law_21 (by decide) rfl ?_
  have ku : ∀ (a : Nat) (e : va_E), M1 a = some e → a < o → (mw_u M2 (o + 15) (.inl (ca 6, 1, .inr (.inl (fun _ => 0))))) a = some e := fun a e h1 h2 => (mw_un (by omega)).trans ((zf a h2).trans ((mw_un (by omega)).trans h1))
  have kz : ∀ (a : Nat) (e : va_E), M2 a = some e → a ≠ o + 15 → (mw_u M2 (o + 15) (.inl (ca 6, 1, .inr (.inl (fun _ => 0))))) a = some e := fun a e h1 h2 => (mw_un h2).trans h1
  have hI : Inv ca (mw_u M2 (o + 15) (.inl (ca 6, 1, .inr (.inl (fun _ => 0))))) x o := Inv.mk (n := 0) (nb := 0) (ec := 0) (lc := 0) (nv := 0) (fa := 0) (np := 0) (to := 0) (th := 0) (tr := 0) (pz := 0) (psn := fun _ => 0) (sn := fun _ => 0) (V := fun _ => 0) (vcn := fun _ => 0) (VE := fun _ _ => 0) (vn := fun _ _ => 0) (vk := fun _ _ => 0) (vf := fun _ _ _ => 0) (vg := fun _ _ _ => 0) (vfv := fun _ _ => 0) ⟨(ku _ _ y0 (by omega)), (kz _ _ z0 (by omega))⟩ ⟨(ku _ _ y1 (by omega)), (ku _ _ y2 (by omega)), by omega, (kz _ _ z1 (by omega)), fun _ _ => rfl, (fun k hk => absurd hk (by omega))⟩ ⟨(ku _ _ y3 (by omega)), (ku _ _ y4 (by omega)), by omega, (kz _ _ z2 (by omega)), fun _ _ => rfl, (fun k hk => absurd hk (by omega))⟩ (gC.zero (fun _ => 0) (fun _ => 0) (fun _ => 0) (fun _ _ => 0) (fun _ _ => 0) (fun _ => 0) (fun _ => 0) (fun _ => 0) (fun _ _ => 0) (fun _ => 0) (fun _ => 0) (ku _ _ y5 (by omega)) (ku _ _ y6 (by omega)) (ku _ _ y7 (by omega))) ⟨(kz _ _ z3 (by omega)), (kz _ _ z4 (by omega)), (kz _ _ z5 (by omega)), (kz _ _ z6 (by omega)), fun _ _ => rfl, fun _ _ => rfl⟩ ⟨(kz _ _ z7 (by omega)), (kz _ _ z8 (by omega))⟩ gR_0 ⟨0, _, _, _, _, (ku _ _ y8 (by omega)), (ku _ _ y9 (by omega)), (ku _ _ y10 (by omega)), by omega, (kz _ _ z11 (by omega)), (kz _ _ z12 (by omega)), by omega⟩ ⟨_, fun _ _ => none, (ku _ _ y11 (by omega)), by omega, (fun k hk => absurd hk (by omega)), (fun k hk => absurd hk (by omega)), (fun k hk => absurd hk (by omega)), (fun j i hj => absurd hj (by omega))⟩ ⟨(kz _ _ z9 (by omega)), (kz _ _ z10 (by omega)), (fun k hk => absurd hk (by omega)), (fun k hk => absurd hk (by omega))⟩ (fun j t hj => absurd hj (by omega)) (fun j i t hj => absurd hj (by omega)) ⟨.null, _, _, _, (ku _ _ y12 (by omega)), (ku _ _ y13 (by omega)), (kz _ _ z13 (by omega)), (kz _ _ z14 (by omega)), by omega, by omega, (fun q hq => absurd hq (by omega)), Or.inl ⟨rfl, rfl, rfl⟩⟩ ⟨_, (by rw [show x + 29 = o + 15 by omega]; exact mw_us)⟩
  have e29 : o + 15 = x + 29 := by omega
  refine mj_to (lo' := [(4, .int (nI (4 * 0))), (3, .ref (x + 29)), (2, .ref o), (1, .ref x), (0, .ref b)]) (by rw [e29]) rfl rfl rfl ?_
  exact mj_widen (31 + 5 * 0) (9467 + 88 * 0) (by decide) (by decide) (lw_loop X hr hX hbl hl0 hZ hox hL (L + 1) 0 _ _ (by omega) (by omega) hI)
