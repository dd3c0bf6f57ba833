theorem nz_0 {K : Nat → Int32} : ∀ {n : Nat}, nz K n = 0 → ∀ i, i < n → K i = 0
  | 0, _, i, hi => absurd hi (by omega)
  | n + 1, h, i, hi => by
    simp only [nz] at h
    rcases Nat.lt_or_ge i n with q | q
    · exact nz_0 (by omega) i q
    · have e : i = n := by omega
      subst e
      by_cases h0 : K i = 0
      · exact h0
      · rw [if_neg h0] at h; omega
theorem ffR_0 {en : Nat → Nat} {ef : Nat → Nat → Int32} {lc : Nat} {ln : Nat → Nat} {lf : Nat → Nat → Int32} {i : Nat} (h : ffR en ef lc ln lf i 0) : ∀ j, j < i → ¬ same (en j) (ef j) (en i) (ef i) := by
  rcases h with ⟨j, h1, h2, h3⟩ | ⟨h1, -⟩
  · exact absurd h3 (by decide)
  · exact h1
theorem w_Pkg_path_0 : ∀ w ∈ u_ws RX8 TX8 7, w ∈ wsX8_path := by decide +kernel
theorem w_Pkg_path_1 : Cond.fieldLink RX8 14 "PackageRows2" "pathSigns" "LPackageRows2$Row;" ∈ wsX8_path := by decide +kernel
set_option maxHeartbeats 4000000 in
set_option maxRecDepth 100000 in
/--  -/
theorem c_Pkg_path (l : Launch) (D : va_G) (ca : Nat → ClassId) (M : mw_M) (sz x nv : Nat) (n : Nat) (f : Nat → Int32) (k : Int32) (hx : M x = some (.inr (8, [.ref (x + 1), .ref (x + 3), .ref (x + 5), .ref (x + 8), .ref (x + 11), .int (nI nv), .ref (x + 12)]))) (hr1 : M (x + 1) = some (.inr (5, [.ref (x + 1 + 1), .int (nI n)]))) (ha1 : M (x + 1 + 1) = some (.inl (ca 0, 30, .inl f))) (hn1 : n ≤ 30) : mw_C wsX8_path l yX8_path { frames := 1, cells := 0, slots := 0, locals := 21 } D vwCl (mt ca) [.ref x, .int k] M sz (mq_v (fun M' sz' => ((n < 30 ∧ M' = mw_u (mw_u M (x + 1 + 1) (.inl (ca 0, 30, .inl (upd f n (k &&& 255))))) (x + 1) (.inr (5, [.ref (x + 1 + 1), .int (nI (n + 1))]))) ∨ (n = 30 ∧ M' = M)) ∧ sz' = sz)) := by
  refine mw_enter (cc := cX8_path) (maxL := 2) (ret := none) rfl (by decide) (Nat.le_of_ble_eq_true rfl) ?_
  intro p e s m below meth c X hr0 hnm hlt
  refine mj_aload_n X dX8_path_0 rfl 0 rfl ?_
  refine mj_get X (C := RX8) (T := TX8) (N := 7) (ci := 8) w_Pkg_path_0 rfl 0 (by decide) w_Pkg_path_1 hx rfl dX8_path_1 ?_
  refine mj_iload_n X dX8_path_4 rfl 1 rfl ?_
  refine mj_sipush X (v := 255) dX8_path_5 (by decide +kernel) ?_
  refine mj_iand X dX8_path_8 ?_
  refine mj_callV X 1 gX8_path_X5_append rfl (by decide +kernel) ⟨by decide, by decide⟩ (c_Row_append l D ca M sz (x + 1) 30 n f (k &&& 255) hr1 ha1 hn1 (by omega)) rfl hr1 rfl rfl (Nat.le_of_ble_eq_true rfl) dX8_path_9 ⟨by decide, by decide⟩ (mk_v (fun M9 sz9 h9 => ?_))
  refine mj_vret X hr0 (by decide) (by decide) dX8_path_12 ?_
  exact ⟨rfl, h9⟩

theorem w_Pkg_octet_0 : ∀ w ∈ u_ws RX8 TX8 7, w ∈ wsX8_octet := by decide +kernel
theorem w_Pkg_octet_1 : Cond.fieldLink RX8 18 "PackageRows2" "octets" "LPackageRows2$Row;" ∈ wsX8_octet := by decide +kernel
set_option maxHeartbeats 4000000 in
set_option maxRecDepth 100000 in
/--  -/
theorem c_Pkg_octet (l : Launch) (D : va_G) (ca : Nat → ClassId) (M : mw_M) (sz x nv : Nat) (n : Nat) (f : Nat → Int32) (k : Int32) (hx : M x = some (.inr (8, [.ref (x + 1), .ref (x + 3), .ref (x + 5), .ref (x + 8), .ref (x + 11), .int (nI nv), .ref (x + 12)]))) (hr1 : M (x + 3) = some (.inr (5, [.ref (x + 3 + 1), .int (nI n)]))) (ha1 : M (x + 3 + 1) = some (.inl (ca 0, 40, .inl f))) (hn1 : n ≤ 40) : mw_C wsX8_octet l yX8_octet { frames := 1, cells := 0, slots := 0, locals := 21 } D vwCl (mt ca) [.ref x, .int k] M sz (mq_v (fun M' sz' => ((n < 40 ∧ M' = mw_u (mw_u M (x + 3 + 1) (.inl (ca 0, 40, .inl (upd f n (k &&& 255))))) (x + 3) (.inr (5, [.ref (x + 3 + 1), .int (nI (n + 1))]))) ∨ (n = 40 ∧ M' = M)) ∧ sz' = sz)) := by
  refine mw_enter (cc := cX8_octet) (maxL := 2) (ret := none) rfl (by decide) (Nat.le_of_ble_eq_true rfl) ?_
  intro p e s m below meth c X hr0 hnm hlt
  refine mj_aload_n X dX8_octet_0 rfl 0 rfl ?_
  refine mj_get X (C := RX8) (T := TX8) (N := 7) (ci := 8) w_Pkg_octet_0 rfl 1 (by decide) w_Pkg_octet_1 hx rfl dX8_octet_1 ?_
  refine mj_iload_n X dX8_octet_4 rfl 1 rfl ?_
  refine mj_sipush X (v := 255) dX8_octet_5 (by decide +kernel) ?_
  refine mj_iand X dX8_octet_8 ?_
  refine mj_callV X 1 gX8_octet_X5_append rfl (by decide +kernel) ⟨by decide, by decide⟩ (c_Row_append l D ca M sz (x + 3) 40 n f (k &&& 255) hr1 ha1 hn1 (by omega)) rfl hr1 rfl rfl (Nat.le_of_ble_eq_true rfl) dX8_octet_9 ⟨by decide, by decide⟩ (mk_v (fun M9 sz9 h9 => ?_))
  refine mj_vret X hr0 (by decide) (by decide) dX8_octet_12 ?_
  exact ⟨rfl, h9⟩

theorem w_Pkg_file_0 : ∀ w ∈ u_ws RX8 TX8 7, w ∈ wsX8_file := by decide +kernel
theorem w_Pkg_file_1 : Cond.fieldLink RX8 24 "PackageRows2" "coming" "LPackageRows2$Coming;" ∈ wsX8_file := by decide +kernel
theorem w_Pkg_file_2 : Cond.fieldLink RX8 14 "PackageRows2" "pathSigns" "LPackageRows2$Row;" ∈ wsX8_file := by decide +kernel
theorem w_Pkg_file_3 : Cond.fieldLink RX8 18 "PackageRows2" "octets" "LPackageRows2$Row;" ∈ wsX8_file := by decide +kernel
set_option maxHeartbeats 4000000 in
set_option maxRecDepth 100000 in
/--  -/
theorem c_Pkg_file (l : Launch) (D : va_G) (ca : Nat → ClassId) (M : mw_M) (sz x nv : Nat) (n : Nat) (f : Nat → Int32) (nb : Nat) (fb : Nat → Int32) (ec lc : Nat) (ce xl : Nat → Option Nat) (hx : M x = some (.inr (8, [.ref (x + 1), .ref (x + 3), .ref (x + 5), .ref (x + 8), .ref (x + 11), .int (nI nv), .ref (x + 12)]))) (hr1 : M (x + 1) = some (.inr (5, [.ref (x + 1 + 1), .int (nI n)]))) (ha1 : M (x + 1 + 1) = some (.inl (ca 0, 30, .inl f))) (hn1 : n ≤ 30) (hr2 : M (x + 3) = some (.inr (5, [.ref (x + 3 + 1), .int (nI nb)]))) (ha2 : M (x + 3 + 1) = some (.inl (ca 0, 40, .inl fb))) (hn2 : nb ≤ 40) (hq : M (x + 5) = some (.inr (1, [.ref (x + 5 + 1), .int (nI ec), .ref (x + 5 + 2), .int (nI lc)]))) (hqe : M (x + 5 + 1) = some (.inl (ca 3, 12, .inr (.inr (.inr (.inr ce)))))) (hql : M (x + 5 + 2) = some (.inl (ca 4, 12, .inr (.inr (.inr (.inr xl)))))) (hec : ec ≤ 12) (hlc : lc ≤ 12) : mw_C wsX8_file l yX8_file { frames := 5, cells := 5, slots := 88, locals := 111 } D vwCl (mt ca) [.ref x] M sz (mq_i (fun v9 M' sz' => ∃ M1 : mw_M, ((isPathB f n = false ∧ v9 = -2 ∧ M1 = M ∧ sz' = sz) ∨ (isPathB f n = true ∧ 12 ≤ ec ∧ v9 = -4 ∧ M1 = M ∧ sz' = sz) ∨ (isPathB f n = true ∧ ec < 12 ∧ v9 = nI (ec + 1) ∧ isEnt ca M1 sz n (cut f n) nb (cut fb nb) (-1) ∧ M1 (x + 5 + 1) = some (.inl (ca 3, 12, .inr (.inr (.inr (.inr (va_up ce ec (some sz))))))) ∧ M1 (x + 5) = some (.inr (1, [.ref (x + 5 + 1), .int (nI (ec + 1)), .ref (x + 5 + 2), .int (nI lc)])) ∧ (∀ a, a < sz → a ≠ x + 5 → a ≠ x + 5 + 1 → M1 a = M a) ∧ sz' = sz + 5)) ∧ M' = mw_u (mw_u M1 (x + 1) (.inr (5, [.ref (x + 1 + 1), .int (nI 0)]))) (x + 3) (.inr (5, [.ref (x + 3 + 1), .int (nI 0)])))) := by
  refine mw_enter (cc := cX8_file) (maxL := 2) (ret := (some .int)) rfl (by decide) (Nat.le_of_ble_eq_true rfl) ?_
  intro p e s m below meth c X hr0 hnm hlt
  refine mj_aload_n X dX8_file_0 rfl 0 rfl ?_
  refine mj_get X (C := RX8) (T := TX8) (N := 7) (ci := 8) w_Pkg_file_0 rfl 2 (by decide) w_Pkg_file_1 hx rfl dX8_file_1 ?_
  refine mj_aload_n X dX8_file_4 rfl 0 rfl ?_
  refine mj_get X (C := RX8) (T := TX8) (N := 7) (ci := 8) w_Pkg_file_0 rfl 0 (by decide) w_Pkg_file_2 hx rfl dX8_file_5 ?_
  refine mj_aload_n X dX8_file_8 rfl 0 rfl ?_
  refine mj_get X (C := RX8) (T := TX8) (N := 7) (ci := 8) w_Pkg_file_0 rfl 1 (by decide) w_Pkg_file_3 hx rfl dX8_file_9 ?_
  refine mj_callV X 2 gX8_file_X0_takeFile rfl (by decide +kernel) ⟨by decide, by decide⟩ (c_Coming_takeFile l D ca M sz (x + 5) ec lc ce xl (x + 1) 30 n f (x + 3) 40 nb fb hq hqe hql hec hlc hr1 ha1 hn1 (by omega) (by omega) hr2 ha2 hn2 (by omega) hn2) rfl hq rfl rfl (Nat.le_of_ble_eq_true rfl) dX8_file_12 ⟨by decide, by decide⟩ (mk_i (fun b9 M9 sz9 h9 => ?_))
  have hk9 : ∀ a, a < sz → a ≠ x + 5 → a ≠ x + 5 + 1 → M9 a = M a := by
    rcases h9 with h9 | h9 | h9
    · exact fun a _ _ _ => by rw [h9.2.2.1]
    · exact fun a _ _ _ => by rw [h9.2.2.2.1]
    · exact h9.2.2.2.2.2.2.1
  have hx_9 := (hk9 (x) (hlt _ _ hx) (by omega) (by omega)).trans hx
  have hr1_9 := (hk9 (x + 1) (hlt _ _ hr1) (by omega) (by omega)).trans hr1
  have ha1_9 := (hk9 (x + 1 + 1) (hlt _ _ ha1) (by omega) (by omega)).trans ha1
  have hr2_9 := (hk9 (x + 3) (hlt _ _ hr2) (by omega) (by omega)).trans hr2
  have ha2_9 := (hk9 (x + 3 + 1) (hlt _ _ ha2) (by omega) (by omega)).trans ha2
  refine mj_istore_n X [(1, .int b9), (0, .ref x)] dX8_file_15 rfl (by decide) rfl ?_
  refine mj_aload_n X dX8_file_16 rfl 1 rfl ?_
  refine mj_get X (C := RX8) (T := TX8) (N := 7) (ci := 8) w_Pkg_file_0 rfl 0 (by decide) w_Pkg_file_2 hx_9 rfl dX8_file_17 ?_
  refine mj_callV X 0 gX8_file_X5_clear rfl (by decide +kernel) ⟨by decide, by decide⟩ (c_Row_clear l D ca _ sz9 (x + 1) 30 n f hr1_9 ha1_9 hn1 (by omega)) rfl hr1_9 rfl rfl (Nat.le_of_ble_eq_true rfl) dX8_file_20 ⟨by decide, by decide⟩ (mk_v (fun M10 sz10 h10 => ?_))
  refine mj_to rfl rfl h10.1 (sz' := sz9) h10.2 ?_
  refine mj_aload_n X dX8_file_23 rfl 1 rfl ?_
  have f1_ := (mw_un (M := M9) (e := (.inr (5, [.ref (x + 1 + 1), .int (nI 0)]))) (show x ≠ x + 1 by omega)).trans hx_9
  refine mj_get X (C := RX8) (T := TX8) (N := 7) (ci := 8) w_Pkg_file_0 rfl 1 (by decide) w_Pkg_file_3 f1_ rfl dX8_file_24 ?_
  have f2_ := (mw_un (M := M9) (e := (.inr (5, [.ref (x + 1 + 1), .int (nI 0)]))) (show x + 3 ≠ x + 1 by omega)).trans hr2_9
  have f3_ := (mw_un (M := M9) (e := (.inr (5, [.ref (x + 1 + 1), .int (nI 0)]))) (show x + 3 + 1 ≠ x + 1 by omega)).trans ha2_9
  refine mj_callV X 0 gX8_file_X5_clear rfl (by decide +kernel) ⟨by decide, by decide⟩ (c_Row_clear l D ca _ sz9 (x + 3) 40 nb fb f2_ f3_ hn2 (by omega)) rfl f2_ rfl rfl (Nat.le_of_ble_eq_true rfl) dX8_file_27 ⟨by decide, by decide⟩ (mk_v (fun M10 sz10 h10 => ?_))
  refine mj_to rfl rfl h10.1 (sz' := sz9) h10.2 ?_
  refine mj_iload_n X dX8_file_30 rfl 0 rfl ?_
  refine mj_iret X hr0 (by decide) (by decide) dX8_file_31 ?_
  exact ⟨_, rfl, M9, h9, rfl⟩

theorem w_Pkg_line_0 : ∀ w ∈ u_ws RX8 TX8 7, w ∈ wsX8_line := by decide +kernel
theorem w_Pkg_line_1 : Cond.fieldLink RX8 24 "PackageRows2" "coming" "LPackageRows2$Coming;" ∈ wsX8_line := by decide +kernel
theorem w_Pkg_line_2 : Cond.fieldLink RX8 14 "PackageRows2" "pathSigns" "LPackageRows2$Row;" ∈ wsX8_line := by decide +kernel
set_option maxHeartbeats 4000000 in
set_option maxRecDepth 100000 in
/--  -/
theorem c_Pkg_line (l : Launch) (D : va_G) (ca : Nat → ClassId) (M : mw_M) (sz x nv : Nat) (n : Nat) (f : Nat → Int32) (ec lc : Nat) (ce xl : Nat → Option Nat) (y y2 : Int32) (hx : M x = some (.inr (8, [.ref (x + 1), .ref (x + 3), .ref (x + 5), .ref (x + 8), .ref (x + 11), .int (nI nv), .ref (x + 12)]))) (hr1 : M (x + 1) = some (.inr (5, [.ref (x + 1 + 1), .int (nI n)]))) (ha1 : M (x + 1 + 1) = some (.inl (ca 0, 30, .inl f))) (hn1 : n ≤ 30) (hq : M (x + 5) = some (.inr (1, [.ref (x + 5 + 1), .int (nI ec), .ref (x + 5 + 2), .int (nI lc)]))) (hqe : M (x + 5 + 1) = some (.inl (ca 3, 12, .inr (.inr (.inr (.inr ce)))))) (hql : M (x + 5 + 2) = some (.inl (ca 4, 12, .inr (.inr (.inr (.inr xl)))))) (hec : ec ≤ 12) (hlc : lc ≤ 12) : mw_C wsX8_line l yX8_line { frames := 5, cells := 3, slots := 45, locals := 112 } D vwCl (mt ca) [.ref x, .int y, .int y2] M sz (mq_i (fun v9 M' sz' => ∃ M1 : mw_M, (((y < 0 ∨ 40 < y ∨ isPathB f n = false) ∧ v9 = -2 ∧ M1 = M ∧ sz' = sz) ∨ (¬ y < 0 ∧ ¬ 40 < y ∧ isPathB f n = true ∧ 12 ≤ lc ∧ v9 = -4 ∧ M1 = M ∧ sz' = sz) ∨ (¬ y < 0 ∧ ¬ 40 < y ∧ isPathB f n = true ∧ lc < 12 ∧ v9 = nI (lc + 1) ∧ isLin ca M1 sz n (cut f n) y y2 ∧ M1 (x + 5 + 2) = some (.inl (ca 4, 12, .inr (.inr (.inr (.inr (va_up xl lc (some sz))))))) ∧ M1 (x + 5) = some (.inr (1, [.ref (x + 5 + 1), .int (nI ec), .ref (x + 5 + 2), .int (nI (lc + 1))])) ∧ (∀ a, a < sz → a ≠ x + 5 → a ≠ x + 5 + 2 → M1 a = M a) ∧ sz' = sz + 3)) ∧ M' = mw_u M1 (x + 1) (.inr (5, [.ref (x + 1 + 1), .int (nI 0)])))) := by
  refine mw_enter (cc := cX8_line) (maxL := 4) (ret := (some .int)) rfl (by decide) (Nat.le_of_ble_eq_true rfl) ?_
  intro p e s m below meth c X hr0 hnm hlt
  refine mj_aload_n X dX8_line_0 rfl 0 rfl ?_
  refine mj_get X (C := RX8) (T := TX8) (N := 7) (ci := 8) w_Pkg_line_0 rfl 2 (by decide) w_Pkg_line_1 hx rfl dX8_line_1 ?_
  refine mj_aload_n X dX8_line_4 rfl 0 rfl ?_
  refine mj_get X (C := RX8) (T := TX8) (N := 7) (ci := 8) w_Pkg_line_0 rfl 0 (by decide) w_Pkg_line_2 hx rfl dX8_line_5 ?_
  refine mj_iload_n X dX8_line_8 rfl 1 rfl ?_
  refine mj_iload_n X dX8_line_9 rfl 2 rfl ?_
  refine mj_callV X 3 gX8_line_X0_takeLine rfl (by decide +kernel) ⟨by decide, by decide⟩ (c_Coming_takeLine l D ca M sz (x + 5) ec lc ce xl (x + 1) 30 n f y y2 hq hqe hql hec hlc hr1 ha1 hn1 (by omega) (by omega)) rfl hq rfl rfl (Nat.le_of_ble_eq_true rfl) dX8_line_10 ⟨by decide, by decide⟩ (mk_i (fun b9 M9 sz9 h9 => ?_))
  have hk9 : ∀ a, a < sz → a ≠ x + 5 → a ≠ x + 5 + 2 → M9 a = M a := by
    rcases h9 with h9 | h9 | h9
    · exact fun a _ _ _ => by rw [h9.2.2.1]
    · exact fun a _ _ _ => by rw [h9.2.2.2.2.2.1]
    · exact h9.2.2.2.2.2.2.2.2.1
  have hx_9 := (hk9 (x) (hlt _ _ hx) (by omega) (by omega)).trans hx
  have hr1_9 := (hk9 (x + 1) (hlt _ _ hr1) (by omega) (by omega)).trans hr1
  have ha1_9 := (hk9 (x + 1 + 1) (hlt _ _ ha1) (by omega) (by omega)).trans ha1
  refine mj_istore_n X [(3, .int b9), (0, .ref x), (1, .int y), (2, .int y2)] dX8_line_13 rfl (by decide) rfl ?_
  refine mj_aload_n X dX8_line_14 rfl 1 rfl ?_
  refine mj_get X (C := RX8) (T := TX8) (N := 7) (ci := 8) w_Pkg_line_0 rfl 0 (by decide) w_Pkg_line_2 hx_9 rfl dX8_line_15 ?_
  refine mj_callV X 0 gX8_line_X5_clear rfl (by decide +kernel) ⟨by decide, by decide⟩ (c_Row_clear l D ca _ sz9 (x + 1) 30 n f hr1_9 ha1_9 hn1 (by omega)) rfl hr1_9 rfl rfl (Nat.le_of_ble_eq_true rfl) dX8_line_18 ⟨by decide, by decide⟩ (mk_v (fun M10 sz10 h10 => ?_))
  refine mj_to rfl rfl h10.1 (sz' := sz9) h10.2 ?_
  refine mj_iload_n X dX8_line_21 rfl 0 rfl ?_
  refine mj_iret X hr0 (by decide) (by decide) dX8_line_22 ?_
  exact ⟨_, rfl, M9, h9, rfl⟩

theorem w_Pkg_check_0 : ∀ w ∈ u_ws RX8 TX8 7, w ∈ wsX8_check := by decide +kernel
theorem w_Pkg_check_1 : Cond.fieldLink RX8 24 "PackageRows2" "coming" "LPackageRows2$Coming;" ∈ wsX8_check := by decide +kernel
theorem w_Pkg_check_2 : Cond.fieldLink RX8 31 "PackageRows2" "faults" "LPackageRows2$Faults;" ∈ wsX8_check := by decide +kernel
set_option maxHeartbeats 4000000 in
set_option maxRecDepth 100000 in
/--  -/
theorem c_Pkg_check (l : Launch) (D : va_G) (ca : Nat → ClassId) (M : mw_M) (sz x nv : Nat) (ec lc : Nat) (ce xl : Nat → Option Nat) (E en ek : Nat → Nat) (ef eg : Nat → Nat → Int32) (ev : Nat → Int32) (L ln : Nat → Nat) (lf : Nat → Nat → Int32) (lx ly : Nat → Int32) (zn : Nat) (zf zg : Nat → Int32) (K H : Nat → Int32) (hx : M x = some (.inr (8, [.ref (x + 1), .ref (x + 3), .ref (x + 5), .ref (x + 8), .ref (x + 11), .int (nI nv), .ref (x + 12)]))) (hq : M (x + 5) = some (.inr (1, [.ref (x + 5 + 1), .int (nI ec), .ref (x + 5 + 2), .int (nI lc)]))) (hqe : M (x + 5 + 1) = some (.inl (ca 3, 12, .inr (.inr (.inr (.inr ce)))))) (hql : M (x + 5 + 2) = some (.inl (ca 4, 12, .inr (.inr (.inr (.inr xl)))))) (hec : ec ≤ 12) (hlc : lc ≤ 12) (he : ∀ i, i < ec → ce i = some (E i)) (hent : ∀ i, i < ec → isEnt ca M (E i) (en i) (ef i) (ek i) (eg i) (ev i)) (hxl : ∀ i, i < lc → xl i = some (L i)) (hlin : ∀ i, i < lc → isLin ca M (L i) (ln i) (lf i) (lx i) (ly i)) (hz : M (x + 8) = some (.inr (3, [.ref (x + 8 + 1), .ref (x + 8 + 2), .int (nI zn)]))) (hz1 : M (x + 8 + 1) = some (.inl (ca 0, 24, .inl zf))) (hz2 : M (x + 8 + 2) = some (.inl (ca 0, 24, .inl zg))) (hzn : zn ≤ 24) (hEa : ∀ i, i < ec → x + 30 ≤ E i) (hLa : ∀ i, i < lc → x + 30 ≤ L i) (hK : ∀ i, i < lc → lfR ec en ek ef eg ln lf lx ly i (K i)) (hH : ∀ i, i < ec → ffR en ef lc ln lf i (H i)) : mw_C wsX8_check l yX8_check { frames := 5, cells := 0, slots := 0, locals := 111 } D vwCl (mt ca) [.ref x] M sz (mq_i (fun v9 M' sz' => v9 = nI (nz K lc + nz H ec) ∧ sz' = sz ∧ ∃ f' g' : Nat → Int32, M' = (mw_u (mw_u (mw_u M (x + 8 + 1) (.inl (ca 0, 24, .inl f'))) (x + 8 + 2) (.inl (ca 0, 24, .inl g'))) (x + 8) (.inr (3, [.ref (x + 8 + 1), .ref (x + 8 + 2), .int (nI (nz K lc + nz H ec))]))) ∧ (∀ j, j < lc → K j ≠ 0 → f' (nz K j) = K j ∧ g' (nz K j) = nI j) ∧ (∀ j, j < ec → H j ≠ 0 → f' (nz K lc + nz H j) = H j ∧ g' (nz K lc + nz H j) = nI j))) := by
  refine mw_enter (cc := cX8_check) (maxL := 1) (ret := (some .int)) rfl (by decide) (Nat.le_of_ble_eq_true rfl) ?_
  intro p e s m below meth c X hr0 hnm hlt
  refine mj_aload_n X dX8_check_0 rfl 0 rfl ?_
  refine mj_get X (C := RX8) (T := TX8) (N := 7) (ci := 8) w_Pkg_check_0 rfl 2 (by decide) w_Pkg_check_1 hx rfl dX8_check_1 ?_
  refine mj_aload_n X dX8_check_4 rfl 0 rfl ?_
  refine mj_get X (C := RX8) (T := TX8) (N := 7) (ci := 8) w_Pkg_check_0 rfl 3 (by decide) w_Pkg_check_2 hx rfl dX8_check_5 ?_
  refine mj_callV X 1 gX8_check_X0_tellFaults rfl (by decide +kernel) ⟨by decide, by decide⟩ (c_Coming_tellFaults l D ca M sz (x + 5) ec lc ce xl E en ek ef eg ev L ln lf lx ly (x + 8) zn zf zg K H hq hqe hql hec hlc he hent hxl hlin hz hz1 hz2 hzn (by omega) (fun i hi => by have := hEa i hi; omega) (fun i hi => by have := hLa i hi; omega) hK hH) rfl hq rfl rfl (Nat.le_of_ble_eq_true rfl) dX8_check_8 ⟨by decide, by decide⟩ (mk_v (fun M9 sz9 h9 => ?_))
  obtain ⟨⟨f9, g9, hM9, hf9, hg9⟩, e9⟩ := h9
  refine mj_to rfl rfl hM9 (sz' := sz) e9 ?_
  have hb9 : nz K lc + nz H ec ≤ 24 := by have := nz_le K lc; have := nz_le H ec; omega
  refine mj_aload_n X dX8_check_11 rfl 0 rfl ?_
  have f1_ := (mw_un (M := M) (e := (.inl (ca 0, 24, .inl f9))) (show x ≠ x + 8 + 1 by omega)).trans hx
  have f2_ := (mw_un (M := (mw_u M (x + 8 + 1) (.inl (ca 0, 24, .inl f9)))) (e := (.inl (ca 0, 24, .inl g9))) (show x ≠ x + 8 + 2 by omega)).trans f1_
  have f3_ := (mw_un (M := (mw_u (mw_u M (x + 8 + 1) (.inl (ca 0, 24, .inl f9))) (x + 8 + 2) (.inl (ca 0, 24, .inl g9)))) (e := (.inr (3, [.ref (x + 8 + 1), .ref (x + 8 + 2), .int (nI (nz K lc + nz H ec))]))) (show x ≠ x + 8 by omega)).trans f2_
  refine mj_get X (C := RX8) (T := TX8) (N := 7) (ci := 8) w_Pkg_check_0 rfl 3 (by decide) w_Pkg_check_2 f3_ rfl dX8_check_12 ?_
  have f4_ := mw_us (M := (mw_u (mw_u M (x + 8 + 1) (.inl (ca 0, 24, .inl f9))) (x + 8 + 2) (.inl (ca 0, 24, .inl g9)))) (a := (x + 8)) (e := (.inr (3, [.ref (x + 8 + 1), .ref (x + 8 + 2), .int (nI (nz K lc + nz H ec))])))
  have f5_ := mw_us (M := M) (a := (x + 8 + 1)) (e := (.inl (ca 0, 24, .inl f9)))
  have f6_ := (mw_un (M := (mw_u M (x + 8 + 1) (.inl (ca 0, 24, .inl f9)))) (e := (.inl (ca 0, 24, .inl g9))) (show x + 8 + 1 ≠ x + 8 + 2 by omega)).trans f5_
  have f7_ := (mw_un (M := (mw_u (mw_u M (x + 8 + 1) (.inl (ca 0, 24, .inl f9))) (x + 8 + 2) (.inl (ca 0, 24, .inl g9)))) (e := (.inr (3, [.ref (x + 8 + 1), .ref (x + 8 + 2), .int (nI (nz K lc + nz H ec))]))) (show x + 8 + 1 ≠ x + 8 by omega)).trans f6_
  have f8_ := mw_us (M := (mw_u M (x + 8 + 1) (.inl (ca 0, 24, .inl f9)))) (a := (x + 8 + 2)) (e := (.inl (ca 0, 24, .inl g9)))
  have f9_ := (mw_un (M := (mw_u (mw_u M (x + 8 + 1) (.inl (ca 0, 24, .inl f9))) (x + 8 + 2) (.inl (ca 0, 24, .inl g9)))) (e := (.inr (3, [.ref (x + 8 + 1), .ref (x + 8 + 2), .int (nI (nz K lc + nz H ec))]))) (show x + 8 + 2 ≠ x + 8 by omega)).trans f8_
  refine mj_callV X 0 gX8_check_X2_size rfl (by decide +kernel) ⟨by decide, by decide⟩ (c_Faults_size l D ca _ sz (x + 8) (nz K lc + nz H ec) f9 g9 f4_ f7_ f9_ hb9) rfl f4_ rfl rfl (Nat.le_of_ble_eq_true rfl) dX8_check_15 ⟨by decide, by decide⟩ (mk_ri (fun b15 hb15 => ?_))
  subst hb15
  refine mj_iret X hr0 (by decide) (by decide) dX8_check_18 ?_
  exact ⟨_, rfl, rfl, rfl, f9, g9, rfl, hf9, hg9⟩

theorem w_Pkg_drop_0 : ∀ w ∈ u_ws RX8 TX8 7, w ∈ wsX8_drop := by decide +kernel
theorem w_Pkg_drop_1 : Cond.fieldLink RX8 24 "PackageRows2" "coming" "LPackageRows2$Coming;" ∈ wsX8_drop := by decide +kernel
set_option maxHeartbeats 4000000 in
set_option maxRecDepth 100000 in
/--  -/
theorem c_Pkg_drop (l : Launch) (D : va_G) (ca : Nat → ClassId) (M : mw_M) (sz x nv : Nat) (ec lc : Nat) (ce xl : Nat → Option Nat) (hx : M x = some (.inr (8, [.ref (x + 1), .ref (x + 3), .ref (x + 5), .ref (x + 8), .ref (x + 11), .int (nI nv), .ref (x + 12)]))) (hq : M (x + 5) = some (.inr (1, [.ref (x + 5 + 1), .int (nI ec), .ref (x + 5 + 2), .int (nI lc)]))) (hqe : M (x + 5 + 1) = some (.inl (ca 3, 12, .inr (.inr (.inr (.inr ce)))))) (hql : M (x + 5 + 2) = some (.inl (ca 4, 12, .inr (.inr (.inr (.inr xl)))))) (hec : ec ≤ 12) (hlc : lc ≤ 12) : mw_C wsX8_drop l yX8_drop { frames := 1, cells := 0, slots := 0, locals := 20 } D vwCl (mt ca) [.ref x] M sz (mq_i (fun v9 M' sz' => v9 = nI (ec + lc) ∧ sz' = sz ∧ M' = mw_u M (x + 5) (.inr (1, [.ref (x + 5 + 1), .int (nI 0), .ref (x + 5 + 2), .int (nI 0)])))) := by
  refine mw_enter (cc := cX8_drop) (maxL := 2) (ret := (some .int)) rfl (by decide) (Nat.le_of_ble_eq_true rfl) ?_
  intro p e s m below meth c X hr0 hnm hlt
  refine mj_aload_n X dX8_drop_0 rfl 0 rfl ?_
  refine mj_get X (C := RX8) (T := TX8) (N := 7) (ci := 8) w_Pkg_drop_0 rfl 2 (by decide) w_Pkg_drop_1 hx rfl dX8_drop_1 ?_
  refine mj_callV X 0 gX8_drop_X0_fileCount rfl (by decide +kernel) ⟨by decide, by decide⟩ (c_Coming_fileCount l D ca M sz (x + 5) ec lc ce xl hq hqe hql hec hlc) rfl hq rfl rfl (Nat.le_of_ble_eq_true rfl) dX8_drop_4 ⟨by decide, by decide⟩ (mk_ri (fun b4 hb4 => ?_))
  subst hb4
  refine mj_aload_n X dX8_drop_7 rfl 0 rfl ?_
  refine mj_get X (C := RX8) (T := TX8) (N := 7) (ci := 8) w_Pkg_drop_0 rfl 2 (by decide) w_Pkg_drop_1 hx rfl dX8_drop_8 ?_
  refine mj_callV X 0 gX8_drop_X0_lineCount rfl (by decide +kernel) ⟨by decide, by decide⟩ (c_Coming_lineCount l D ca M sz (x + 5) ec lc ce xl hq hqe hql hec hlc) rfl hq rfl rfl (Nat.le_of_ble_eq_true rfl) dX8_drop_11 ⟨by decide, by decide⟩ (mk_ri (fun b11 hb11 => ?_))
  subst hb11
  refine mj_iadd X dX8_drop_14 ?_
  refine mj_top (nI (ec + lc)) (nI_add _ _) ?_
  refine mj_istore_n X [(1, .int (nI (ec + lc))), (0, .ref x)] dX8_drop_15 rfl (by decide) rfl ?_
  refine mj_aload_n X dX8_drop_16 rfl 1 rfl ?_
  refine mj_get X (C := RX8) (T := TX8) (N := 7) (ci := 8) w_Pkg_drop_0 rfl 2 (by decide) w_Pkg_drop_1 hx rfl dX8_drop_17 ?_
  refine mj_callV X 0 gX8_drop_X0_clear rfl (by decide +kernel) ⟨by decide, by decide⟩ (c_Coming_clear l D ca M sz (x + 5) ec lc ce xl hq hqe hql hec hlc) rfl hq rfl rfl (Nat.le_of_ble_eq_true rfl) dX8_drop_20 ⟨by decide, by decide⟩ (mk_v (fun M10 sz10 h10 => ?_))
  refine mj_to rfl rfl h10.1 (sz' := sz) h10.2 ?_
  refine mj_iload_n X dX8_drop_23 rfl 0 rfl ?_
  refine mj_iret X hr0 (by decide) (by decide) dX8_drop_24 ?_
  exact ⟨_, rfl, rfl, rfl, rfl⟩

theorem w_Pkg_missing_0 : ∀ w ∈ u_ws RX8 TX8 7, w ∈ wsX8_missing := by decide +kernel
theorem w_Pkg_missing_1 : Cond.fieldLink RX8 48 "PackageRows2" "transfer" "LPackageRows2$Transfer;" ∈ wsX8_missing := by decide +kernel
set_option maxHeartbeats 4000000 in
set_option maxRecDepth 100000 in
/--  -/
theorem c_Pkg_missing (l : Launch) (D : va_G) (ca : Nat → ClassId) (M : mw_M) (sz x nv : Nat) (src : Value) (np nmi : Nat) (h : Nat → Int32) (hx : M x = some (.inr (8, [.ref (x + 1), .ref (x + 3), .ref (x + 5), .ref (x + 8), .ref (x + 11), .int (nI nv), .ref (x + 12)]))) (ht : M (x + 12) = some (.inr (6, [src, .ref (x + 12 + 1), .int (nI np), .int (nI nmi)]))) (ht1 : M (x + 12 + 1) = some (.inl (ca 1, 320, .inl h))) (hnp : np ≤ 320) (hmi : nmi ≤ 320) : mw_C wsX8_missing l yX8_missing { frames := 1, cells := 0, slots := 0, locals := 21 } D vwCl (mt ca) [.ref x] M sz (mq_i (fun v9 M' sz' => M' = M ∧ sz' = sz ∧ ((∃ i, i < np ∧ h i = 0 ∧ (∀ j, j < i → h j ≠ 0) ∧ v9 = nI i) ∨ ((∀ j, j < np → h j ≠ 0) ∧ v9 = -1)))) := by
  refine mw_enter (cc := cX8_missing) (maxL := 1) (ret := (some .int)) rfl (by decide) (Nat.le_of_ble_eq_true rfl) ?_
  intro p e s m below meth c X hr0 hnm hlt
  refine mj_aload_n X dX8_missing_0 rfl 0 rfl ?_
  refine mj_get X (C := RX8) (T := TX8) (N := 7) (ci := 8) w_Pkg_missing_0 rfl 6 (by decide) w_Pkg_missing_1 hx rfl dX8_missing_1 ?_
  refine mj_callV X 0 gX8_missing_X6_firstMissing rfl (by decide +kernel) ⟨by decide, by decide⟩ (c_Transfer_firstMissing l D ca M sz (x + 12) src np nmi h ht ht1 hnp hmi) rfl ht rfl rfl (Nat.le_of_ble_eq_true rfl) dX8_missing_4 ⟨by decide, by decide⟩ (mk_ri (fun b4 hb4 => ?_))
  refine mj_iret X hr0 (by decide) (by decide) dX8_missing_7 ?_
  exact ⟨_, rfl, rfl, rfl, hb4⟩

theorem w_Pkg_piece_0 : ∀ w ∈ u_ws RX8 TX8 7, w ∈ wsX8_piece := by decide +kernel
theorem w_Pkg_piece_1 : Cond.fieldLink RX8 48 "PackageRows2" "transfer" "LPackageRows2$Transfer;" ∈ wsX8_piece := by decide +kernel
set_option maxHeartbeats 4000000 in
set_option maxRecDepth 100000 in
/--  -/
theorem c_Pkg_piece (l : Launch) (D : va_G) (ca : Nat → ClassId) (M : mw_M) (sz x nv : Nat) (src : Value) (np nmi : Nat) (h : Nat → Int32) (k u : Int32) (hx : M x = some (.inr (8, [.ref (x + 1), .ref (x + 3), .ref (x + 5), .ref (x + 8), .ref (x + 11), .int (nI nv), .ref (x + 12)]))) (ht : M (x + 12) = some (.inr (6, [src, .ref (x + 12 + 1), .int (nI np), .int (nI nmi)]))) (ht1 : M (x + 12 + 1) = some (.inl (ca 1, 320, .inl h))) (hnp : np ≤ 320) (hmi : nmi ≤ 320) (hpos : ∀ j, j < np → h j = 0 → 0 < nmi) : mw_C wsX8_piece l yX8_piece { frames := 1, cells := 0, slots := 0, locals := 22 } D vwCl (mt ca) [.ref x, .int k, .int u] M sz (mq_i (fun v9 M' sz' => (((∀ j, j < np → k ≠ nI j) ∧ v9 = -2 ∧ M' = M) ∨ (∃ j, j < np ∧ k = nI j ∧ (((u = 0 ∨ h j ≠ 0) ∧ v9 = nI nmi ∧ M' = M) ∨ (u ≠ 0 ∧ h j = 0 ∧ v9 = nI (nmi - 1) ∧ M' = mw_u (mw_u M (x + 12 + 1) (.inl (ca 1, 320, .inl (upd h j 1)))) (x + 12) (.inr (6, [src, .ref (x + 12 + 1), .int (nI np), .int (nI (nmi - 1))])))))) ∧ sz' = sz)) := by
  refine mw_enter (cc := cX8_piece) (maxL := 3) (ret := (some .int)) rfl (by decide) (Nat.le_of_ble_eq_true rfl) ?_
  intro p e s m below meth c X hr0 hnm hlt
  refine mj_aload_n X dX8_piece_0 rfl 0 rfl ?_
  refine mj_get X (C := RX8) (T := TX8) (N := 7) (ci := 8) w_Pkg_piece_0 rfl 6 (by decide) w_Pkg_piece_1 hx rfl dX8_piece_1 ?_
  refine mj_iload_n X dX8_piece_4 rfl 1 rfl ?_
  refine mj_iload_n X dX8_piece_5 rfl 2 rfl ?_
  refine mj_callV X 2 gX8_piece_X6_take rfl (by decide +kernel) ⟨by decide, by decide⟩ (c_Transfer_take l D ca M sz (x + 12) src np nmi h k u ht ht1 hnp hmi hpos) rfl ht rfl rfl (Nat.le_of_ble_eq_true rfl) dX8_piece_6 ⟨by decide, by decide⟩ (mk_i (fun b9 M9 sz9 h9 => ?_))
  refine mj_iret X hr0 (by decide) (by decide) dX8_piece_9 ?_
  exact ⟨_, rfl, h9⟩

theorem w_Pkg_joined0_0 : ∀ w ∈ u_ws RX8 TX8 7, w ∈ wsX8_joined := by decide +kernel
theorem w_Pkg_joined0_1 : Cond.fieldLink RX8 48 "PackageRows2" "transfer" "LPackageRows2$Transfer;" ∈ wsX8_joined := by decide +kernel
set_option maxHeartbeats 4000000 in
set_option maxRecDepth 100000 in
/--  -/
theorem c_Pkg_joined0 (l : Launch) (D : va_G) (ca : Nat → ClassId) (M : mw_M) (sz x nv : Nat) (np nmi : Nat) (h : Nat → Int32) (k : Int32) (hx : M x = some (.inr (8, [.ref (x + 1), .ref (x + 3), .ref (x + 5), .ref (x + 8), .ref (x + 11), .int (nI nv), .ref (x + 12)]))) (ht : M (x + 12) = some (.inr (6, [.null, .ref (x + 12 + 1), .int (nI np), .int (nI nmi)]))) (ht1 : M (x + 12 + 1) = some (.inl (ca 1, 320, .inl h))) (hnp : np ≤ 320) (hmi : nmi ≤ 320) : mw_C wsX8_joined l yX8_joined { frames := 4, cells := 0, slots := 0, locals := 87 } D vwCl (mt ca) [.ref x, .int k] M sz (mq_i (fun v9 M' sz' => M' = M ∧ sz' = sz ∧ v9 = -3)) := by
  refine mw_enter (cc := cX8_joined) (maxL := 2) (ret := (some .int)) rfl (by decide) (Nat.le_of_ble_eq_true rfl) ?_
  intro p e s m below meth c X hr0 hnm hlt
  refine mj_aload_n X dX8_joined_0 rfl 0 rfl ?_
  refine mj_get X (C := RX8) (T := TX8) (N := 7) (ci := 8) w_Pkg_joined0_0 rfl 6 (by decide) w_Pkg_joined0_1 hx rfl dX8_joined_1 ?_
  refine mj_iload_n X dX8_joined_4 rfl 1 rfl ?_
  refine mj_callV X 1 gX8_joined_X6_joinedByte rfl (by decide +kernel) ⟨by decide, by decide⟩ (c_Transfer_joinedByte0 l D ca M sz (x + 12) np nmi h k ht ht1 hnp hmi) rfl ht rfl rfl (Nat.le_of_ble_eq_true rfl) dX8_joined_5 ⟨by decide, by decide⟩ (mk_ri (fun b5 hb5 => ?_))
  refine mj_iret X hr0 (by decide) (by decide) dX8_joined_8 ?_
  exact ⟨_, rfl, rfl, rfl, hb5⟩

theorem w_Pkg_joined1_0 : ∀ w ∈ u_ws RX8 TX8 7, w ∈ wsX8_joined := by decide +kernel
theorem w_Pkg_joined1_1 : Cond.fieldLink RX8 48 "PackageRows2" "transfer" "LPackageRows2$Transfer;" ∈ wsX8_joined := by decide +kernel
set_option maxHeartbeats 4000000 in
set_option maxRecDepth 100000 in
/--  -/
theorem c_Pkg_joined1 (l : Launch) (D : va_G) (ca : Nat → ClassId) (M : mw_M) (sz x nv : Nat) (vv : Nat → Option Nat) (V vcn : Nat → Nat) (vve : Nat → Nat → Option Nat) (VE vn vk : Nat → Nat → Nat) (vf vg : Nat → Nat → Nat → Int32) (vfv : Nat → Nat → Int32) (np nmi : Nat) (h : Nat → Int32) (j : Nat) (k : Int32) (hx : M x = some (.inr (8, [.ref (x + 1), .ref (x + 3), .ref (x + 5), .ref (x + 8), .ref (x + 11), .int (nI nv), .ref (x + 12)]))) (hvv : M (x + 11) = some (.inl (ca 5, 12, .inr (.inr (.inr (.inr vv)))))) (hnv : nv ≤ 12) (hV : ∀ j, j < nv → vv j = some (V j)) (hVr : ∀ j, j < nv → isVr ca M (V j) (vcn j) (vve j) (VE j) (vn j) (vk j) (vf j) (vg j) (vfv j)) (ht : M (x + 12) = some (.inr (6, [.ref (V j), .ref (x + 12 + 1), .int (nI np), .int (nI nmi)]))) (ht1 : M (x + 12 + 1) = some (.inl (ca 1, 320, .inl h))) (hnp : np ≤ 320) (hmi : nmi ≤ 320) (hj : j < nv) : mw_C wsX8_joined l yX8_joined { frames := 4, cells := 0, slots := 0, locals := 87 } D vwCl (mt ca) [.ref x, .int k] M sz (mq_i (fun v9 M' sz' => M' = M ∧ sz' = sz ∧ ((0 < nmi ∧ v9 = -3) ∨ (nmi = 0 ∧ ((∃ i t, i < vcn j ∧ t < vk j i ∧ k = nI (szs (vk j) i + t) ∧ v9 = vg j i t) ∨ ((∀ u, u < szs (vk j) (vcn j) → k ≠ nI u) ∧ v9 = -1)))))) := by
  refine mw_enter (cc := cX8_joined) (maxL := 2) (ret := (some .int)) rfl (by decide) (Nat.le_of_ble_eq_true rfl) ?_
  intro p e s m below meth c X hr0 hnm hlt
  obtain ⟨hv1, hv2, hv3, hv4, hv5⟩ := hVr j hj
  refine mj_aload_n X dX8_joined_0 rfl 0 rfl ?_
  refine mj_get X (C := RX8) (T := TX8) (N := 7) (ci := 8) w_Pkg_joined1_0 rfl 6 (by decide) w_Pkg_joined1_1 hx rfl dX8_joined_1 ?_
  refine mj_iload_n X dX8_joined_4 rfl 1 rfl ?_
  refine mj_callV X 1 gX8_joined_X6_joinedByte rfl (by decide +kernel) ⟨by decide, by decide⟩ (c_Transfer_joinedByte1 l D ca M sz (x + 12) np nmi h (V j) (vcn j) (vve j) (VE j) (vn j) (vk j) (vf j) (vg j) (vfv j) k ht ht1 hnp hmi hv1 hv2 hv3 hv4 hv5) rfl ht rfl rfl (Nat.le_of_ble_eq_true rfl) dX8_joined_5 ⟨by decide, by decide⟩ (mk_ri (fun b5 hb5 => ?_))
  refine mj_iret X hr0 (by decide) (by decide) dX8_joined_8 ?_
  exact ⟨_, rfl, rfl, rfl, hb5⟩

theorem w_Pkg_split_0 : ∀ w ∈ u_ws RX8 TX8 7, w ∈ wsX8_split := by decide +kernel
theorem w_Pkg_split_1 : Cond.fieldLink RX8 48 "PackageRows2" "transfer" "LPackageRows2$Transfer;" ∈ wsX8_split := by decide +kernel
set_option maxHeartbeats 4000000 in
set_option maxRecDepth 100000 in
/--  -/
theorem c_Pkg_split (l : Launch) (D : va_G) (ca : Nat → ClassId) (M : mw_M) (sz x nv : Nat) (vv : Nat → Option Nat) (V vcn : Nat → Nat) (vve : Nat → Nat → Option Nat) (VE vn vk : Nat → Nat → Nat) (vf vg : Nat → Nat → Nat → Int32) (vfv : Nat → Nat → Int32) (src : Value) (np nmi : Nat) (h : Nat → Int32) (k k2 : Int32) (hx : M x = some (.inr (8, [.ref (x + 1), .ref (x + 3), .ref (x + 5), .ref (x + 8), .ref (x + 11), .int (nI nv), .ref (x + 12)]))) (hvv : M (x + 11) = some (.inl (ca 5, 12, .inr (.inr (.inr (.inr vv)))))) (hnv : nv ≤ 12) (hV : ∀ j, j < nv → vv j = some (V j)) (hVr : ∀ j, j < nv → isVr ca M (V j) (vcn j) (vve j) (VE j) (vn j) (vk j) (vf j) (vg j) (vfv j)) (ht : M (x + 12) = some (.inr (6, [src, .ref (x + 12 + 1), .int (nI np), .int (nI nmi)]))) (ht1 : M (x + 12 + 1) = some (.inl (ca 1, 320, .inl h))) (hnp : np ≤ 320) (hmi : nmi ≤ 320) (hVa : ∀ j, j < nv → x + 30 ≤ V j) (hVEa : ∀ j i, j < nv → i < vcn j → x + 30 ≤ VE j i) : mw_C wsX8_split l yX8_split { frames := 3, cells := 0, slots := 0, locals := 65 } D vwCl (mt ca) [.ref x, .int k, .int k2] M sz (mq_i (fun v9 M' sz' => (((∀ j, j < nv → k ≠ nI j) ∧ v9 = -1 ∧ M' = M) ∨ (∃ j, j < nv ∧ k = nI j ∧ (((k2 < 1 ∨ ¬ k2 ≤ 100) ∧ v9 = -2 ∧ M' = M) ∨ (∃ (len : Nat) (h' : Nat → Int32), 1 ≤ len ∧ len ≤ 100 ∧ k2 = nI len ∧ v9 = nI ((szs (vk j) (vcn j) + len - 1) / len) ∧ (∀ t, t < ((szs (vk j) (vcn j) + len - 1) / len) → h' t = 0) ∧ M' = mw_u (mw_u M (x + 12) (.inr (6, [.ref (V j), .ref (x + 12 + 1), .int (nI ((szs (vk j) (vcn j) + len - 1) / len)), .int (nI ((szs (vk j) (vcn j) + len - 1) / len))]))) (x + 12 + 1) (.inl (ca 1, 320, .inl h')))))) ∧ sz' = sz)) := by
  refine mw_enter (cc := cX8_split) (maxL := 4) (ret := (some .int)) rfl (by decide) (Nat.le_of_ble_eq_true rfl) ?_
  intro p e s m below meth c X hr0 hnm hlt
  refine mj_aload_n X dX8_split_0 rfl 0 rfl ?_
  refine mj_iload_n X dX8_split_1 rfl 1 rfl ?_
  refine mj_callV X 1 gX8_split_X8_versionOrNull rfl (by decide +kernel) ⟨by decide, by decide⟩ (c_Pkg_versionOrNull l D ca M sz x nv vv V k hx hvv hnv hV) rfl hx rfl rfl (Nat.le_of_ble_eq_true rfl) dX8_split_2 ⟨by decide, by decide⟩ (mk_rq (fun o2 ho2 => ?_))
  rcases ho2 with ⟨j, hj, ej, eo2⟩ | ⟨hno2, eo2⟩
  · subst eo2
    refine mj_top' (.ref (V j)) rfl ?_
    obtain ⟨hv1, hv2, hv3, hv4, hv5⟩ := hVr j hj
    refine mj_astore_n X [(3, .ref (V j)), (0, .ref x), (1, .int k), (2, .int k2)] dX8_split_5 rfl (by decide) rfl ?_
    refine mj_aload_n X dX8_split_6 rfl 0 rfl ?_
    refine mj_ifnonnullR X 14 dX8_split_7 (by decide) ?_
    refine mj_aload_n X dX8_split_14 rfl 1 rfl ?_
    refine mj_get X (C := RX8) (T := TX8) (N := 7) (ci := 8) w_Pkg_split_0 rfl 6 (by decide) w_Pkg_split_1 hx rfl dX8_split_15 ?_
    refine mj_aload_n X dX8_split_18 rfl 0 rfl ?_
    refine mj_iload_n X dX8_split_19 rfl 3 rfl ?_
    refine mj_callV X 2 gX8_split_X6_begin rfl (by decide +kernel) ⟨by decide, by decide⟩ (c_Transfer_begin l D ca M sz (x + 12) src np nmi h (V j) (vcn j) (vve j) (VE j) (vn j) (vk j) (vf j) (vg j) (vfv j) k2 ht ht1 hnp hmi hv1 hv2 hv3 hv4 hv5 (by have := hVa j hj; omega) (fun i hi => by have := hVEa j i hj hi; omega)) rfl ht rfl rfl (Nat.le_of_ble_eq_true rfl) dX8_split_20 ⟨by decide, by decide⟩ (mk_i (fun b9 M9 sz9 h9 => ?_))
    refine mj_iret X hr0 (by decide) (by decide) dX8_split_23 ?_
    exact ⟨_, rfl, Or.inr ⟨j, hj, ej, h9.1⟩, h9.2⟩
  · subst eo2
    refine mj_top' (.null) rfl ?_
    refine mj_astore_nN X [(3, .null), (0, .ref x), (1, .int k), (2, .int k2)] dX8_split_5 rfl (by decide) rfl ?_
    refine mj_aload_nN X dX8_split_6 rfl 0 rfl ?_
    refine mj_ifnonnullN X dX8_split_7 ?_
    refine mj_iconst X (v := -1) dX8_split_10 (by decide +kernel) ?_
    refine mj_goto X 23 dX8_split_11 (by decide) ?_
    refine mj_iret X hr0 (by decide) (by decide) dX8_split_23 ?_
    exact ⟨_, rfl, Or.inl ⟨hno2, rfl, rfl⟩, rfl⟩

