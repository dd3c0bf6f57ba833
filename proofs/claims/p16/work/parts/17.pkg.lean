/-- a Version at v with its files -/
def isVr (ca : Nat → ClassId) (M : mw_M) (v vc : Nat) (ve : Nat → Option Nat) (E en ek : Nat → Nat) (ef eg : Nat → Nat → Int32) (ev : Nat → Int32) : Prop :=
  M v = some (.inr (7, [.ref (v + 1), .int (nI vc)])) ∧ M (v + 1) = some (.inl (ca 3, 8, .inr (.inr (.inr (.inr ve))))) ∧ vc ≤ 8 ∧ (∀ i, i < vc → ve i = some (E i)) ∧ (∀ i, i < vc → isEnt ca M (E i) (en i) (ef i) (ek i) (eg i) (ev i))
/-- file t of version j is the one asked for -/
def atE (nv : Nat) (vcn : Nat → Nat) (k i0 : Int32) (j t : Nat) : Prop := j < nv ∧ t < vcn j ∧ k = nI j ∧ i0 = nI t
theorem i32_out4 {y : Int32} (h0 : ¬ y = 0) (h1 : ¬ y = 1) (h2 : ¬ y = 2) (h3 : ¬ y = 3) : y.toInt < 0 ∨ 3 < y.toInt := by
  by_cases h : y < 0
  · exact Or.inl (Int32.lt_iff_toInt_lt.mp h)
  · obtain ⟨j, hj, e⟩ := nI_of h
    refine Or.inr ?_
    rw [e, nI_toInt hj]
    have a0 : j ≠ 0 := fun q => h0 (by rw [e, q]; rfl)
    have a1 : j ≠ 1 := fun q => h1 (by rw [e, q]; rfl)
    have a2 : j ≠ 2 := fun q => h2 (by rw [e, q]; rfl)
    have a3 : j ≠ 3 := fun q => h3 (by rw [e, q]; rfl)
    omega
theorem w_Pkg_versionOrNull_0 : ∀ w ∈ u_ws RX8 TX8 7, w ∈ wsX8_versionOrNull := by decide +kernel
theorem w_Pkg_versionOrNull_1 : Cond.fieldLink RX8 41 "PackageRows2" "versionCount" "I" ∈ wsX8_versionOrNull := by decide +kernel
theorem w_Pkg_versionOrNull_2 : Cond.fieldLink RX8 37 "PackageRows2" "versions" "[LPackageRows2$Version;" ∈ wsX8_versionOrNull := by decide +kernel
set_option maxHeartbeats 4000000 in
set_option maxRecDepth 100000 in
/--  -/
theorem c_Pkg_versionOrNull (l : Launch) (D : va_G) (ca : Nat → ClassId) (M : mw_M) (sz x nv : Nat) (vv : Nat → Option Nat) (V : Nat → Nat) (k : Int32) (hx : M x = some (.inr (8, [.ref (x + 1), .ref (x + 3), .ref (x + 5), .ref (x + 8), .ref (x + 11), .int (nI nv), .ref (x + 12)]))) (hvv : M (x + 11) = some (.inl (ca 5, 12, .inr (.inr (.inr (.inr vv)))))) (hnv : nv ≤ 12) (hV : ∀ j, j < nv → vv j = some (V j)) : mw_C wsX8_versionOrNull l yX8_versionOrNull { frames := 0, cells := 0, slots := 0, locals := 0 } D vwCl (mt ca) [.ref x, .int k] M sz (mq_q (fun o M' sz' => M' = M ∧ sz' = sz ∧ ((∃ j, j < nv ∧ k = nI j ∧ o = some (V j)) ∨ ((∀ j, j < nv → k ≠ nI j) ∧ o = none)))) := by
  refine mw_enter (cc := cX8_versionOrNull) (maxL := 2) (ret := (some (.object "PackageRows2$Version"))) rfl (by decide) (Nat.le_of_ble_eq_true rfl) ?_
  intro p e s m below meth c X hr0 hnm hlt
  refine mj_iload_n X dX8_versionOrNull_0 rfl 1 rfl ?_
  refine mj_if_lt X 12 dX8_versionOrNull_1 (by decide) (fun c1 => ?_) (fun c1 => ?_)
  · refine mj_null X dX8_versionOrNull_12 ?_
    refine mj_goto X 22 dX8_versionOrNull_13 (by decide) ?_
    refine mj_aret X (Or.inl rfl) hr0 (by decide) (by decide) dX8_versionOrNull_22 ?_
    exact ⟨none, rfl, rfl, rfl, Or.inr ⟨fun j hj e9 => absurd c1 (by rw [e9]; exact nI_pos (by omega)), rfl⟩⟩
  · refine mj_iload_n X dX8_versionOrNull_4 rfl 1 rfl ?_
    refine mj_aload_n X dX8_versionOrNull_5 rfl 0 rfl ?_
    refine mj_get X (C := RX8) (T := TX8) (N := 7) (ci := 8) w_Pkg_versionOrNull_0 rfl 5 (by decide) w_Pkg_versionOrNull_1 hx rfl dX8_versionOrNull_6 ?_
    refine mj_icmp_lt X 16 dX8_versionOrNull_9 (by decide) (fun c9 => ?_) (fun c9 => ?_)
    · obtain ⟨j, hj, ej⟩ : ∃ j, j < nv ∧ k = nI j := by
        rcases pk_ix k (n := nv) (by omega) with h | h | h
        · exact absurd h c1
        · exact absurd c9 (by obtain ⟨j9, hj9, e9⟩ := nI_of c1; rw [e9] at h ⊢; exact nI_nlt ((nI_leI (by omega) hj9).mp h) hj9)
        · exact h
      refine mj_aload_n X dX8_versionOrNull_16 rfl 0 rfl ?_
      refine mj_get X (C := RX8) (T := TX8) (N := 7) (ci := 8) w_Pkg_versionOrNull_0 rfl 4 (by decide) w_Pkg_versionOrNull_2 hx rfl dX8_versionOrNull_17 ?_
      refine mj_iload_n X dX8_versionOrNull_20 rfl 1 rfl ?_
      refine mj_aald X 5 (vv j) rfl hvv (by rw [ej]; exact vp_in_nI (by omega) (by omega)) (by rw [ej, nI_clamp (by omega)]) dX8_versionOrNull_21 ?_
      refine mj_top' (.ref (V j)) (by rw [hV j hj]; rfl) ?_
      refine mj_aret X (Or.inr ⟨_, rfl⟩) hr0 (by decide) (by decide) dX8_versionOrNull_22 ?_
      exact ⟨some (V j), rfl, rfl, rfl, Or.inl ⟨j, hj, ej, rfl⟩⟩
    · refine mj_null X dX8_versionOrNull_12 ?_
      refine mj_goto X 22 dX8_versionOrNull_13 (by decide) ?_
      refine mj_aret X (Or.inl rfl) hr0 (by decide) (by decide) dX8_versionOrNull_22 ?_
      exact ⟨none, rfl, rfl, rfl, Or.inr ⟨fun j hj e9 => c9 (by rw [e9]; exact nI_lt hj (by omega)), rfl⟩⟩


set_option maxHeartbeats 4000000 in
set_option maxRecDepth 100000 in
/--  -/
theorem c_Pkg_entryOrNull (l : Launch) (D : va_G) (ca : Nat → ClassId) (M : mw_M) (sz x nv : Nat) (vv : Nat → Option Nat) (V vcn : Nat → Nat) (vve : Nat → Nat → Option Nat) (VE vn vk : Nat → Nat → Nat) (vf vg : Nat → Nat → Nat → Int32) (vfv : Nat → Nat → Int32) (k i0 : Int32) (hx : M x = some (.inr (8, [.ref (x + 1), .ref (x + 3), .ref (x + 5), .ref (x + 8), .ref (x + 11), .int (nI nv), .ref (x + 12)]))) (hvv : M (x + 11) = some (.inl (ca 5, 12, .inr (.inr (.inr (.inr vv)))))) (hnv : nv ≤ 12) (hV : ∀ j, j < nv → vv j = some (V j)) (hVr : ∀ j, j < nv → isVr ca M (V j) (vcn j) (vve j) (VE j) (vn j) (vk j) (vf j) (vg j) (vfv j)) : mw_C wsX8_entryOrNull l yX8_entryOrNull { frames := 1, cells := 0, slots := 0, locals := 21 } D vwCl (mt ca) [.ref x, .int k, .int i0] M sz (mq_q (fun o M' sz' => M' = M ∧ sz' = sz ∧ ((∃ j t, atE nv vcn k i0 j t ∧ o = some (VE j t)) ∨ ((∀ j t, ¬ atE nv vcn k i0 j t) ∧ o = none)))) := by
  refine mw_enter (cc := cX8_entryOrNull) (maxL := 4) (ret := (some (.object "PackageRows2$Entry"))) rfl (by decide) (Nat.le_of_ble_eq_true rfl) ?_
  intro p e s m below meth c X hr0 hnm hlt
  refine mj_aload_n X dX8_entryOrNull_0 rfl 0 rfl ?_
  refine mj_iload_n X dX8_entryOrNull_1 rfl 1 rfl ?_
  refine mj_callV X 1 gX8_entryOrNull_X8_versionOrNull rfl (by decide +kernel) ⟨by decide, by decide⟩ (c_Pkg_versionOrNull l D ca M sz x nv vv V k hx hvv hnv hV) rfl hx rfl rfl (Nat.le_of_ble_eq_true rfl) dX8_entryOrNull_2 ⟨by decide, by decide⟩ (mk_rq (fun o2 ho2 => ?_))
  rcases ho2 with ⟨j, hj, ej, eo2⟩ | ⟨hno2, eo2⟩
  · subst eo2
    refine mj_top' (.ref (V j)) rfl ?_
    obtain ⟨hv1, hv2, hv3, hv4, hv5⟩ := hVr j hj
    refine mj_astore_n X [(3, .ref (V j)), (0, .ref x), (1, .int k), (2, .int i0)] dX8_entryOrNull_5 rfl (by decide) rfl ?_
    refine mj_aload_n X dX8_entryOrNull_6 rfl 0 rfl ?_
    refine mj_ifnonnullR X 14 dX8_entryOrNull_7 (by decide) ?_
    refine mj_aload_n X dX8_entryOrNull_14 rfl 0 rfl ?_
    refine mj_iload_n X dX8_entryOrNull_15 rfl 3 rfl ?_
    refine mj_callV X 1 gX8_entryOrNull_X7_entryOrNull rfl (by decide +kernel) ⟨by decide, by decide⟩ (c_Version_entryOrNull l D ca M sz (V j) (vcn j) (vve j) (VE j) i0 hv1 hv2 hv3 hv4) rfl hv1 rfl rfl (Nat.le_of_ble_eq_true rfl) dX8_entryOrNull_16 ⟨by decide, by decide⟩ (mk_rq (fun o16 ho16 => ?_))
    refine mj_aret X (va_rf_or _) hr0 (by decide) (by decide) dX8_entryOrNull_19 ?_
    refine ⟨o16, rfl, rfl, rfl, ?_⟩
    rcases ho16 with ⟨t, ht, et, eo⟩ | ⟨hno, eo⟩
    · exact Or.inl ⟨j, t, ⟨hj, ht, ej, et⟩, eo⟩
    · refine Or.inr ⟨fun j9 t9 h9 => ?_, eo⟩
      have e9 : j = j9 := (nI_eq (by omega) (by have := h9.1; omega)).mp (ej.symm.trans h9.2.2.1)
      subst e9; exact hno t9 h9.2.1 h9.2.2.2
  · subst eo2
    refine mj_top' (.null) rfl ?_
    refine mj_astore_nN X [(3, .null), (0, .ref x), (1, .int k), (2, .int i0)] dX8_entryOrNull_5 rfl (by decide) rfl ?_
    refine mj_aload_nN X dX8_entryOrNull_6 rfl 0 rfl ?_
    refine mj_ifnonnullN X dX8_entryOrNull_7 ?_
    refine mj_null X dX8_entryOrNull_10 ?_
    refine mj_goto X 19 dX8_entryOrNull_11 (by decide) ?_
    refine mj_aret X (Or.inl rfl) hr0 (by decide) (by decide) dX8_entryOrNull_19 ?_
    exact ⟨none, rfl, rfl, rfl, Or.inr ⟨fun j t h9 => hno2 j h9.1 h9.2.2.1, rfl⟩⟩


set_option maxHeartbeats 4000000 in
set_option maxRecDepth 100000 in
/--  -/
theorem c_Pkg_files (l : Launch) (D : va_G) (ca : Nat → ClassId) (M : mw_M) (sz x nv : Nat) (vv : Nat → Option Nat) (V vcn : Nat → Nat) (vve : Nat → Nat → Option Nat) (VE vn vk : Nat → Nat → Nat) (vf vg : Nat → Nat → Nat → Int32) (vfv : Nat → Nat → Int32) (k : Int32) (hx : M x = some (.inr (8, [.ref (x + 1), .ref (x + 3), .ref (x + 5), .ref (x + 8), .ref (x + 11), .int (nI nv), .ref (x + 12)]))) (hvv : M (x + 11) = some (.inl (ca 5, 12, .inr (.inr (.inr (.inr vv)))))) (hnv : nv ≤ 12) (hV : ∀ j, j < nv → vv j = some (V j)) (hVr : ∀ j, j < nv → isVr ca M (V j) (vcn j) (vve j) (VE j) (vn j) (vk j) (vf j) (vg j) (vfv j)) : mw_C wsX8_files l yX8_files { frames := 1, cells := 0, slots := 0, locals := 21 } D vwCl (mt ca) [.ref x, .int k] M sz (mq_i (fun v9 M' sz' => M' = M ∧ sz' = sz ∧ ((∃ j, j < nv ∧ k = nI j ∧ v9 = nI (vcn j)) ∨ ((∀ j, j < nv → k ≠ nI j) ∧ v9 = -1)))) := by
  refine mw_enter (cc := cX8_files) (maxL := 3) (ret := (some .int)) rfl (by decide) (Nat.le_of_ble_eq_true rfl) ?_
  intro p e s m below meth c X hr0 hnm hlt
  refine mj_aload_n X dX8_files_0 rfl 0 rfl ?_
  refine mj_iload_n X dX8_files_1 rfl 1 rfl ?_
  refine mj_callV X 1 gX8_files_X8_versionOrNull rfl (by decide +kernel) ⟨by decide, by decide⟩ (c_Pkg_versionOrNull l D ca M sz x nv vv V k hx hvv hnv hV) rfl hx rfl rfl (Nat.le_of_ble_eq_true rfl) dX8_files_2 ⟨by decide, by decide⟩ (mk_rq (fun o2 ho2 => ?_))
  rcases ho2 with ⟨j, hj, ej, eo2⟩ | ⟨hno2, eo2⟩
  · subst eo2
    refine mj_top' (.ref (V j)) rfl ?_
    obtain ⟨hv1, hv2, hv3, hv4, hv5⟩ := hVr j hj
    refine mj_astore_n X [(2, .ref (V j)), (0, .ref x), (1, .int k)] dX8_files_5 rfl (by decide) rfl ?_
    refine mj_aload_n X dX8_files_6 rfl 0 rfl ?_
    refine mj_ifnonnullR X 14 dX8_files_7 (by decide) ?_
    refine mj_aload_n X dX8_files_14 rfl 0 rfl ?_
    refine mj_callV X 0 gX8_files_X7_size rfl (by decide +kernel) ⟨by decide, by decide⟩ (c_Version_size l D ca M sz (V j) (vcn j) hv1) rfl hv1 rfl rfl (Nat.le_of_ble_eq_true rfl) dX8_files_15 ⟨by decide, by decide⟩ (mk_ri (fun b15 hb15 => ?_))
    subst hb15
    refine mj_iret X hr0 (by decide) (by decide) dX8_files_18 ?_
    exact ⟨_, rfl, rfl, rfl, Or.inl ⟨j, hj, ej, rfl⟩⟩
  · subst eo2
    refine mj_top' (.null) rfl ?_
    refine mj_astore_nN X [(2, .null), (0, .ref x), (1, .int k)] dX8_files_5 rfl (by decide) rfl ?_
    refine mj_aload_nN X dX8_files_6 rfl 0 rfl ?_
    refine mj_ifnonnullN X dX8_files_7 ?_
    refine mj_iconst X (v := -1) dX8_files_10 (by decide +kernel) ?_
    refine mj_goto X 18 dX8_files_11 (by decide) ?_
    refine mj_iret X hr0 (by decide) (by decide) dX8_files_18 ?_
    exact ⟨_, rfl, rfl, rfl, Or.inr ⟨hno2, rfl⟩⟩

theorem w_Pkg_about_0 : ∀ w ∈ u_ws RX1 TX1 4, w ∈ wsX8_about := by decide +kernel
theorem w_Pkg_about_1 : Cond.fieldLink RX8 111 "PackageRows2$Entry" "bytes" "LPackageRows2$Row;" ∈ wsX8_about := by decide +kernel
theorem w_Pkg_about_2 : Cond.fieldLink RX8 117 "PackageRows2$Entry" "sumOfAll" "I" ∈ wsX8_about := by decide +kernel
theorem w_Pkg_about_3 : Cond.fieldLink RX8 120 "PackageRows2$Entry" "name" "LPackageRows2$Row;" ∈ wsX8_about := by decide +kernel
theorem w_Pkg_about_4 : Cond.fieldLink RX8 123 "PackageRows2$Entry" "firstVersion" "I" ∈ wsX8_about := by decide +kernel
set_option maxHeartbeats 4000000 in
set_option maxRecDepth 100000 in
/--  -/
theorem c_Pkg_about (l : Launch) (D : va_G) (ca : Nat → ClassId) (M : mw_M) (sz x nv : Nat) (vv : Nat → Option Nat) (V vcn : Nat → Nat) (vve : Nat → Nat → Option Nat) (VE vn vk : Nat → Nat → Nat) (vf vg : Nat → Nat → Nat → Int32) (vfv : Nat → Nat → Int32) (k i0 y : Int32) (hx : M x = some (.inr (8, [.ref (x + 1), .ref (x + 3), .ref (x + 5), .ref (x + 8), .ref (x + 11), .int (nI nv), .ref (x + 12)]))) (hvv : M (x + 11) = some (.inl (ca 5, 12, .inr (.inr (.inr (.inr vv)))))) (hnv : nv ≤ 12) (hV : ∀ j, j < nv → vv j = some (V j)) (hVr : ∀ j, j < nv → isVr ca M (V j) (vcn j) (vve j) (VE j) (vn j) (vk j) (vf j) (vg j) (vfv j)) : mw_C wsX8_about l yX8_about { frames := 2, cells := 0, slots := 0, locals := 44 } D vwCl (mt ca) [.ref x, .int k, .int i0, .int y] M sz (mq_i (fun v9 M' sz' => M' = M ∧ sz' = sz ∧ ((∃ j t, atE nv vcn k i0 j t ∧ v9 = (if y = 0 then nI (vk j t) else if y = 1 then sumN (vg j t) (vk j t) else if y = 2 then nI (vn j t) else if y = 3 then vfv j t else -1)) ∨ ((∀ j t, ¬ atE nv vcn k i0 j t) ∧ v9 = -1)))) := by
  refine mw_enter (cc := cX8_about) (maxL := 5) (ret := (some .int)) rfl (by decide) (Nat.le_of_ble_eq_true rfl) ?_
  intro p e s m below meth c X hr0 hnm hlt
  refine mj_aload_n X dX8_about_0 rfl 0 rfl ?_
  refine mj_iload_n X dX8_about_1 rfl 1 rfl ?_
  refine mj_iload_n X dX8_about_2 rfl 2 rfl ?_
  refine mj_callV X 2 gX8_about_X8_entryOrNull rfl (by decide +kernel) ⟨by decide, by decide⟩ (c_Pkg_entryOrNull l D ca M sz x nv vv V vcn vve VE vn vk vf vg vfv k i0 hx hvv hnv hV hVr) rfl hx rfl rfl (Nat.le_of_ble_eq_true rfl) dX8_about_3 ⟨by decide, by decide⟩ (mk_rq (fun o3 ho3 => ?_))
  rcases ho3 with ⟨j, t, hjt, eo3⟩ | ⟨hno3, eo3⟩
  · subst eo3
    refine mj_top' (.ref (VE j t)) rfl ?_
    obtain ⟨hE1, ⟨hE2, hE3, hE4, hE5⟩, ⟨hE6, hE7, hE8, hE9⟩, hE10, hE11⟩ := (hVr j hjt.1).2.2.2.2 t hjt.2.1
    refine mj_astore X [(4, .ref (VE j t)), (0, .ref x), (1, .int k), (2, .int i0), (3, .int y)] dX8_about_6 (by decide) rfl ?_
    refine mj_aload X dX8_about_8 0 rfl ?_
    refine mj_ifnonnullR X 15 dX8_about_10 (by decide) ?_
    refine mj_iload_n X dX8_about_15 rfl 4 rfl ?_
    by_cases hy0 : y = 0
    · refine mj_tableIn X 48 dX8_about_16 (by rw [hy0]; decide) (by rw [hy0]; decide) (off := 32) (by rw [hy0]; decide) (by decide) ?_
      refine mj_aload X dX8_about_48 0 rfl ?_
      refine mj_get X (C := RX1) (T := TX1) (N := 4) (ci := 2) w_Pkg_about_0 rfl 1 (by decide) w_Pkg_about_1 hE1 rfl dX8_about_50 ?_
      refine mj_callV X 0 gX8_about_X5_size rfl (by decide +kernel) ⟨by decide, by decide⟩ (c_Row_size l D ca M sz (VE j t + 3) (vk j t) (vk j t) (vg j t) hE6 hE7 hE8 hE9) rfl hE6 rfl rfl (Nat.le_of_ble_eq_true rfl) dX8_about_53 ⟨by decide, by decide⟩ (mk_ri (fun b53 hb53 => ?_))
      subst hb53
      refine mj_iret X hr0 (by decide) (by decide) dX8_about_56 ?_
      exact ⟨_, rfl, rfl, rfl, Or.inl ⟨j, t, hjt, by rw [if_pos hy0]⟩⟩
    by_cases hy1 : y = 1
    · refine mj_tableIn X 57 dX8_about_16 (by rw [hy1]; decide) (by rw [hy1]; decide) (off := 41) (by rw [hy1]; decide) (by decide) ?_
      refine mj_aload X dX8_about_57 0 rfl ?_
      refine mj_get X (C := RX1) (T := TX1) (N := 4) (ci := 2) w_Pkg_about_0 rfl 2 (by decide) w_Pkg_about_2 hE1 rfl dX8_about_59 ?_
      refine mj_iret X hr0 (by decide) (by decide) dX8_about_62 ?_
      exact ⟨_, rfl, rfl, rfl, Or.inl ⟨j, t, hjt, by rw [if_neg hy0, if_pos hy1]⟩⟩
    by_cases hy2 : y = 2
    · refine mj_tableIn X 63 dX8_about_16 (by rw [hy2]; decide) (by rw [hy2]; decide) (off := 47) (by rw [hy2]; decide) (by decide) ?_
      refine mj_aload X dX8_about_63 0 rfl ?_
      refine mj_get X (C := RX1) (T := TX1) (N := 4) (ci := 2) w_Pkg_about_0 rfl 0 (by decide) w_Pkg_about_3 hE1 rfl dX8_about_65 ?_
      refine mj_callV X 0 gX8_about_X5_size rfl (by decide +kernel) ⟨by decide, by decide⟩ (c_Row_size l D ca M sz (VE j t + 1) (vn j t) (vn j t) (vf j t) hE2 hE3 hE4 hE5) rfl hE2 rfl rfl (Nat.le_of_ble_eq_true rfl) dX8_about_68 ⟨by decide, by decide⟩ (mk_ri (fun b68 hb68 => ?_))
      subst hb68
      refine mj_iret X hr0 (by decide) (by decide) dX8_about_71 ?_
      exact ⟨_, rfl, rfl, rfl, Or.inl ⟨j, t, hjt, by rw [if_neg hy0, if_neg hy1, if_pos hy2]⟩⟩
    by_cases hy3 : y = 3
    · refine mj_tableIn X 72 dX8_about_16 (by rw [hy3]; decide) (by rw [hy3]; decide) (off := 56) (by rw [hy3]; decide) (by decide) ?_
      refine mj_aload X dX8_about_72 0 rfl ?_
      refine mj_get X (C := RX1) (T := TX1) (N := 4) (ci := 2) w_Pkg_about_0 rfl 3 (by decide) w_Pkg_about_4 hE1 rfl dX8_about_74 ?_
      refine mj_iret X hr0 (by decide) (by decide) dX8_about_77 ?_
      exact ⟨_, rfl, rfl, rfl, Or.inl ⟨j, t, hjt, by rw [if_neg hy0, if_neg hy1, if_neg hy2, if_pos hy3]⟩⟩
    refine mj_tableOut X 78 dX8_about_16 (i32_out4 hy0 hy1 hy2 hy3) (by decide) ?_
    refine mj_iconst X (v := -1) dX8_about_78 (by decide +kernel) ?_
    refine mj_iret X hr0 (by decide) (by decide) dX8_about_79 ?_
    exact ⟨_, rfl, rfl, rfl, Or.inl ⟨j, t, hjt, by rw [if_neg hy0, if_neg hy1, if_neg hy2, if_neg hy3]⟩⟩
  · subst eo3
    refine mj_top' (.null) rfl ?_
    refine mj_astoreN X [(4, .null), (0, .ref x), (1, .int k), (2, .int i0), (3, .int y)] dX8_about_6 (by decide) rfl ?_
    refine mj_aloadN X dX8_about_8 0 rfl ?_
    refine mj_ifnonnullN X dX8_about_10 ?_
    refine mj_iconst X (v := -1) dX8_about_13 (by decide +kernel) ?_
    refine mj_iret X hr0 (by decide) (by decide) dX8_about_14 ?_
    exact ⟨_, rfl, rfl, rfl, Or.inr ⟨hno3, rfl⟩⟩

theorem w_Pkg_sign_0 : ∀ w ∈ u_ws RX1 TX1 4, w ∈ wsX8_sign := by decide +kernel
theorem w_Pkg_sign_1 : Cond.fieldLink RX8 120 "PackageRows2$Entry" "name" "LPackageRows2$Row;" ∈ wsX8_sign := by decide +kernel
set_option maxHeartbeats 4000000 in
set_option maxRecDepth 100000 in
/--  -/
theorem c_Pkg_sign (l : Launch) (D : va_G) (ca : Nat → ClassId) (M : mw_M) (sz x nv : Nat) (vv : Nat → Option Nat) (V vcn : Nat → Nat) (vve : Nat → Nat → Option Nat) (VE vn vk : Nat → Nat → Nat) (vf vg : Nat → Nat → Nat → Int32) (vfv : Nat → Nat → Int32) (k i0 y : Int32) (hx : M x = some (.inr (8, [.ref (x + 1), .ref (x + 3), .ref (x + 5), .ref (x + 8), .ref (x + 11), .int (nI nv), .ref (x + 12)]))) (hvv : M (x + 11) = some (.inl (ca 5, 12, .inr (.inr (.inr (.inr vv)))))) (hnv : nv ≤ 12) (hV : ∀ j, j < nv → vv j = some (V j)) (hVr : ∀ j, j < nv → isVr ca M (V j) (vcn j) (vve j) (VE j) (vn j) (vk j) (vf j) (vg j) (vfv j)) : mw_C wsX8_sign l yX8_sign { frames := 2, cells := 0, slots := 0, locals := 44 } D vwCl (mt ca) [.ref x, .int k, .int i0, .int y] M sz (mq_i (fun v9 M' sz' => M' = M ∧ sz' = sz ∧ ((∃ j t, atE nv vcn k i0 j t ∧ ((∃ u, u < vn j t ∧ y = nI u ∧ v9 = vf j t u) ∨ ((∀ u, u < vn j t → y ≠ nI u) ∧ v9 = -1))) ∨ ((∀ j t, ¬ atE nv vcn k i0 j t) ∧ v9 = -1)))) := by
  refine mw_enter (cc := cX8_sign) (maxL := 5) (ret := (some .int)) rfl (by decide) (Nat.le_of_ble_eq_true rfl) ?_
  intro p e s m below meth c X hr0 hnm hlt
  refine mj_aload_n X dX8_sign_0 rfl 0 rfl ?_
  refine mj_iload_n X dX8_sign_1 rfl 1 rfl ?_
  refine mj_iload_n X dX8_sign_2 rfl 2 rfl ?_
  refine mj_callV X 2 gX8_sign_X8_entryOrNull rfl (by decide +kernel) ⟨by decide, by decide⟩ (c_Pkg_entryOrNull l D ca M sz x nv vv V vcn vve VE vn vk vf vg vfv k i0 hx hvv hnv hV hVr) rfl hx rfl rfl (Nat.le_of_ble_eq_true rfl) dX8_sign_3 ⟨by decide, by decide⟩ (mk_rq (fun o3 ho3 => ?_))
  rcases ho3 with ⟨j, t, hjt, eo3⟩ | ⟨hno3, eo3⟩
  · subst eo3
    refine mj_top' (.ref (VE j t)) rfl ?_
    obtain ⟨hE1, ⟨hE2, hE3, hE4, hE5⟩, ⟨hE6, hE7, hE8, hE9⟩, hE10, hE11⟩ := (hVr j hjt.1).2.2.2.2 t hjt.2.1
    refine mj_astore X [(4, .ref (VE j t)), (0, .ref x), (1, .int k), (2, .int i0), (3, .int y)] dX8_sign_6 (by decide) rfl ?_
    refine mj_aload X dX8_sign_8 0 rfl ?_
    refine mj_ifnonnullR X 17 dX8_sign_10 (by decide) ?_
    refine mj_aload X dX8_sign_17 0 rfl ?_
    refine mj_get X (C := RX1) (T := TX1) (N := 4) (ci := 2) w_Pkg_sign_0 rfl 0 (by decide) w_Pkg_sign_1 hE1 rfl dX8_sign_19 ?_
    refine mj_iload_n X dX8_sign_22 rfl 4 rfl ?_
    refine mj_callV X 1 gX8_sign_X5_cell rfl (by decide +kernel) ⟨by decide, by decide⟩ (c_Row_cell l D ca M sz (VE j t + 1) (vn j t) (vn j t) (vf j t) y hE2 hE3 hE4 hE5) rfl hE2 rfl rfl (Nat.le_of_ble_eq_true rfl) dX8_sign_23 ⟨by decide, by decide⟩ (mk_ri (fun b23 hb23 => ?_))
    refine mj_iret X hr0 (by decide) (by decide) dX8_sign_26 ?_
    exact ⟨_, rfl, rfl, rfl, Or.inl ⟨j, t, hjt, hb23⟩⟩
  · subst eo3
    refine mj_top' (.null) rfl ?_
    refine mj_astoreN X [(4, .null), (0, .ref x), (1, .int k), (2, .int i0), (3, .int y)] dX8_sign_6 (by decide) rfl ?_
    refine mj_aloadN X dX8_sign_8 0 rfl ?_
    refine mj_ifnonnullN X dX8_sign_10 ?_
    refine mj_iconst X (v := -1) dX8_sign_13 (by decide +kernel) ?_
    refine mj_goto X 26 dX8_sign_14 (by decide) ?_
    refine mj_iret X hr0 (by decide) (by decide) dX8_sign_26 ?_
    exact ⟨_, rfl, rfl, rfl, Or.inr ⟨hno3, rfl⟩⟩

theorem w_Pkg_find_0 : ∀ w ∈ u_ws RX8 TX8 7, w ∈ wsX8_find := by decide +kernel
theorem w_Pkg_find_1 : Cond.fieldLink RX8 14 "PackageRows2" "pathSigns" "LPackageRows2$Row;" ∈ wsX8_find := by decide +kernel
set_option maxHeartbeats 4000000 in
set_option maxRecDepth 100000 in
/--  -/
theorem c_Pkg_find (l : Launch) (D : va_G) (ca : Nat → ClassId) (M : mw_M) (sz x nv : Nat) (vv : Nat → Option Nat) (V vcn : Nat → Nat) (vve : Nat → Nat → Option Nat) (VE vn vk : Nat → Nat → Nat) (vf vg : Nat → Nat → Nat → Int32) (vfv : Nat → Nat → Int32) (n : Nat) (f : Nat → Int32) (k : Int32) (hx : M x = some (.inr (8, [.ref (x + 1), .ref (x + 3), .ref (x + 5), .ref (x + 8), .ref (x + 11), .int (nI nv), .ref (x + 12)]))) (hvv : M (x + 11) = some (.inl (ca 5, 12, .inr (.inr (.inr (.inr vv)))))) (hnv : nv ≤ 12) (hV : ∀ j, j < nv → vv j = some (V j)) (hVr : ∀ j, j < nv → isVr ca M (V j) (vcn j) (vve j) (VE j) (vn j) (vk j) (vf j) (vg j) (vfv j)) (hr1 : M (x + 1) = some (.inr (5, [.ref (x + 1 + 1), .int (nI n)]))) (ha1 : M (x + 1 + 1) = some (.inl (ca 0, 30, .inl f))) (hn1 : n ≤ 30) : mw_C wsX8_find l yX8_find { frames := 3, cells := 0, slots := 0, locals := 66 } D vwCl (mt ca) [.ref x, .int k] M sz (mq_i (fun v9 M' sz' => M' = M ∧ sz' = sz ∧ ((∃ j, j < nv ∧ k = nI j ∧ ((∃ i, i < vcn j ∧ same (vn j i) (vf j i) n f ∧ (∀ t, t < i → ¬ same (vn j t) (vf j t) n f) ∧ v9 = nI i) ∨ ((∀ t, t < vcn j → ¬ same (vn j t) (vf j t) n f) ∧ v9 = -1))) ∨ ((∀ j, j < nv → k ≠ nI j) ∧ v9 = -1)))) := by
  refine mw_enter (cc := cX8_find) (maxL := 3) (ret := (some .int)) rfl (by decide) (Nat.le_of_ble_eq_true rfl) ?_
  intro p e s m below meth c X hr0 hnm hlt
  refine mj_aload_n X dX8_find_0 rfl 0 rfl ?_
  refine mj_iload_n X dX8_find_1 rfl 1 rfl ?_
  refine mj_callV X 1 gX8_find_X8_versionOrNull rfl (by decide +kernel) ⟨by decide, by decide⟩ (c_Pkg_versionOrNull l D ca M sz x nv vv V k hx hvv hnv hV) rfl hx rfl rfl (Nat.le_of_ble_eq_true rfl) dX8_find_2 ⟨by decide, by decide⟩ (mk_rq (fun o2 ho2 => ?_))
  rcases ho2 with ⟨j, hj, ej, eo2⟩ | ⟨hno2, eo2⟩
  · subst eo2
    refine mj_top' (.ref (V j)) rfl ?_
    obtain ⟨hv1, hv2, hv3, hv4, hv5⟩ := hVr j hj
    refine mj_astore_n X [(2, .ref (V j)), (0, .ref x), (1, .int k)] dX8_find_5 rfl (by decide) rfl ?_
    refine mj_aload_n X dX8_find_6 rfl 0 rfl ?_
    refine mj_ifnonnullR X 14 dX8_find_7 (by decide) ?_
    refine mj_aload_n X dX8_find_14 rfl 0 rfl ?_
    refine mj_aload_n X dX8_find_15 rfl 1 rfl ?_
    refine mj_get X (C := RX8) (T := TX8) (N := 7) (ci := 8) w_Pkg_find_0 rfl 0 (by decide) w_Pkg_find_1 hx rfl dX8_find_16 ?_
    refine mj_callV X 1 gX8_find_X7_placeOf rfl (by decide +kernel) ⟨by decide, by decide⟩ (c_Version_placeOf l D ca M sz (V j) (vcn j) (vve j) (VE j) (vn j) (vk j) (vf j) (vg j) (vfv j) (x + 1) 30 n f hv1 hv2 hv3 hv4 hv5 hr1 ha1 hn1 (by omega)) rfl hv1 rfl rfl (Nat.le_of_ble_eq_true rfl) dX8_find_19 ⟨by decide, by decide⟩ (mk_ri (fun b19 hb19 => ?_))
    refine mj_iret X hr0 (by decide) (by decide) dX8_find_22 ?_
    exact ⟨_, rfl, rfl, rfl, Or.inl ⟨j, hj, ej, hb19⟩⟩
  · subst eo2
    refine mj_top' (.null) rfl ?_
    refine mj_astore_nN X [(2, .null), (0, .ref x), (1, .int k)] dX8_find_5 rfl (by decide) rfl ?_
    refine mj_aload_nN X dX8_find_6 rfl 0 rfl ?_
    refine mj_ifnonnullN X dX8_find_7 ?_
    refine mj_iconst X (v := -1) dX8_find_10 (by decide +kernel) ?_
    refine mj_goto X 22 dX8_find_11 (by decide) ?_
    refine mj_iret X hr0 (by decide) (by decide) dX8_find_22 ?_
    exact ⟨_, rfl, rfl, rfl, Or.inr ⟨hno2, rfl⟩⟩


set_option maxHeartbeats 4000000 in
set_option maxRecDepth 100000 in
/--  -/
theorem c_Pkg_same (l : Launch) (D : va_G) (ca : Nat → ClassId) (M : mw_M) (sz x nv : Nat) (vv : Nat → Option Nat) (V vcn : Nat → Nat) (vve : Nat → Nat → Option Nat) (VE vn vk : Nat → Nat → Nat) (vf vg : Nat → Nat → Nat → Int32) (vfv : Nat → Nat → Int32) (k k2 : Int32) (hx : M x = some (.inr (8, [.ref (x + 1), .ref (x + 3), .ref (x + 5), .ref (x + 8), .ref (x + 11), .int (nI nv), .ref (x + 12)]))) (hvv : M (x + 11) = some (.inl (ca 5, 12, .inr (.inr (.inr (.inr vv)))))) (hnv : nv ≤ 12) (hV : ∀ j, j < nv → vv j = some (V j)) (hVr : ∀ j, j < nv → isVr ca M (V j) (vcn j) (vve j) (VE j) (vn j) (vk j) (vf j) (vg j) (vfv j)) : mw_C wsX8_same l yX8_same { frames := 5, cells := 0, slots := 0, locals := 110 } D vwCl (mt ca) [.ref x, .int k, .int k2] M sz (mq_i (fun v9 M' sz' => M' = M ∧ sz' = sz ∧ ((∃ j j2, j < nv ∧ j2 < nv ∧ k = nI j ∧ k2 = nI j2 ∧ v9 = nI (cntP (alk (vcn j2) (vn j2) (vk j2) (vf j2) (vg j2) (vn j) (vk j) (vf j) (vg j)) (vcn j))) ∨ (((∀ j, j < nv → k ≠ nI j) ∨ (∀ j, j < nv → k2 ≠ nI j)) ∧ v9 = -1)))) := by
  refine mw_enter (cc := cX8_same) (maxL := 5) (ret := (some .int)) rfl (by decide) (Nat.le_of_ble_eq_true rfl) ?_
  intro p e s m below meth c X hr0 hnm hlt
  refine mj_aload_n X dX8_same_0 rfl 0 rfl ?_
  refine mj_iload_n X dX8_same_1 rfl 1 rfl ?_
  refine mj_callV X 1 gX8_same_X8_versionOrNull rfl (by decide +kernel) ⟨by decide, by decide⟩ (c_Pkg_versionOrNull l D ca M sz x nv vv V k hx hvv hnv hV) rfl hx rfl rfl (Nat.le_of_ble_eq_true rfl) dX8_same_2 ⟨by decide, by decide⟩ (mk_rq (fun o2 ho2 => ?_))
  rcases ho2 with ⟨j, hj, ej, eo2⟩ | ⟨hno2, eo2⟩
  · subst eo2
    refine mj_top' (.ref (V j)) rfl ?_
    obtain ⟨hv1, hv2, hv3, hv4, hv5⟩ := hVr j hj
    refine mj_astore_n X [(3, .ref (V j)), (0, .ref x), (1, .int k), (2, .int k2)] dX8_same_5 rfl (by decide) rfl ?_
    refine mj_aload_n X dX8_same_6 rfl 1 rfl ?_
    refine mj_iload_n X dX8_same_7 rfl 3 rfl ?_
    refine mj_callV X 1 gX8_same_X8_versionOrNull rfl (by decide +kernel) ⟨by decide, by decide⟩ (c_Pkg_versionOrNull l D ca M sz x nv vv V k2 hx hvv hnv hV) rfl hx rfl rfl (Nat.le_of_ble_eq_true rfl) dX8_same_8 ⟨by decide, by decide⟩ (mk_rq (fun o8 ho8 => ?_))
    rcases ho8 with ⟨j2, hj2, ej2, eo8⟩ | ⟨hno8, eo8⟩
    · subst eo8
      refine mj_top' (.ref (V j2)) rfl ?_
      obtain ⟨hu1, hu2, hu3, hu4, hu5⟩ := hVr j2 hj2
      refine mj_astore X [(4, .ref (V j2)), (3, .ref (V j)), (0, .ref x), (1, .int k), (2, .int k2)] dX8_same_11 (by decide) rfl ?_
      refine mj_aload_n X dX8_same_13 rfl 1 rfl ?_
      refine mj_ifnullR X dX8_same_14 ?_
      refine mj_aload X dX8_same_17 0 rfl ?_
      refine mj_ifnonnullR X 26 dX8_same_19 (by decide) ?_
      refine mj_aload_n X dX8_same_26 rfl 1 rfl ?_
      refine mj_aload X dX8_same_27 0 rfl ?_
      refine mj_callV X 1 gX8_same_X7_countAlike rfl (by decide +kernel) ⟨by decide, by decide⟩ (c_Version_countAlike l D ca M sz (V j) (vcn j) (vve j) (VE j) (vn j) (vk j) (vf j) (vg j) (vfv j) (V j2) (vcn j2) (vve j2) (VE j2) (vn j2) (vk j2) (vf j2) (vg j2) (vfv j2) hv1 hv2 hv3 hv4 hv5 hu1 hu2 hu3 hu4 hu5) rfl hv1 rfl rfl (Nat.le_of_ble_eq_true rfl) dX8_same_29 ⟨by decide, by decide⟩ (mk_ri (fun b29 hb29 => ?_))
      subst hb29
      refine mj_iret X hr0 (by decide) (by decide) dX8_same_32 ?_
      exact ⟨_, rfl, rfl, rfl, Or.inl ⟨j, j2, hj, hj2, ej, ej2, rfl⟩⟩
    · subst eo8
      refine mj_top' (.null) rfl ?_
      refine mj_astoreN X [(4, .null), (3, .ref (V j)), (0, .ref x), (1, .int k), (2, .int k2)] dX8_same_11 (by decide) rfl ?_
      refine mj_aload_n X dX8_same_13 rfl 1 rfl ?_
      refine mj_ifnullR X dX8_same_14 ?_
      refine mj_aloadN X dX8_same_17 0 rfl ?_
      refine mj_ifnonnullN X dX8_same_19 ?_
      refine mj_iconst X (v := -1) dX8_same_22 (by decide +kernel) ?_
      refine mj_goto X 32 dX8_same_23 (by decide) ?_
      refine mj_iret X hr0 (by decide) (by decide) dX8_same_32 ?_
      exact ⟨_, rfl, rfl, rfl, Or.inr ⟨Or.inr hno8, rfl⟩⟩
  · subst eo2
    refine mj_top' (.null) rfl ?_
    refine mj_astore_nN X [(3, .null), (0, .ref x), (1, .int k), (2, .int k2)] dX8_same_5 rfl (by decide) rfl ?_
    refine mj_aload_n X dX8_same_6 rfl 1 rfl ?_
    refine mj_iload_n X dX8_same_7 rfl 3 rfl ?_
    refine mj_callV X 1 gX8_same_X8_versionOrNull rfl (by decide +kernel) ⟨by decide, by decide⟩ (c_Pkg_versionOrNull l D ca M sz x nv vv V k2 hx hvv hnv hV) rfl hx rfl rfl (Nat.le_of_ble_eq_true rfl) dX8_same_8 ⟨by decide, by decide⟩ (mk_rq (fun o8 ho8 => ?_))
    rcases ho8 with ⟨j2, hj2, ej2, eo8⟩ | ⟨hno8, eo8⟩
    · subst eo8
      refine mj_top' (.ref (V j2)) rfl ?_
      obtain ⟨hu1, hu2, hu3, hu4, hu5⟩ := hVr j2 hj2
      refine mj_astore X [(4, .ref (V j2)), (3, .null), (0, .ref x), (1, .int k), (2, .int k2)] dX8_same_11 (by decide) rfl ?_
      refine mj_aload_nN X dX8_same_13 rfl 1 rfl ?_
      refine mj_ifnullN X 22 dX8_same_14 (by decide) ?_
      refine mj_iconst X (v := -1) dX8_same_22 (by decide +kernel) ?_
      refine mj_goto X 32 dX8_same_23 (by decide) ?_
      refine mj_iret X hr0 (by decide) (by decide) dX8_same_32 ?_
      exact ⟨_, rfl, rfl, rfl, Or.inr ⟨Or.inl hno2, rfl⟩⟩
    · subst eo8
      refine mj_top' (.null) rfl ?_
      refine mj_astoreN X [(4, .null), (3, .null), (0, .ref x), (1, .int k), (2, .int k2)] dX8_same_11 (by decide) rfl ?_
      refine mj_aload_nN X dX8_same_13 rfl 1 rfl ?_
      refine mj_ifnullN X 22 dX8_same_14 (by decide) ?_
      refine mj_iconst X (v := -1) dX8_same_22 (by decide +kernel) ?_
      refine mj_goto X 32 dX8_same_23 (by decide) ?_
      refine mj_iret X hr0 (by decide) (by decide) dX8_same_32 ?_
      exact ⟨_, rfl, rfl, rfl, Or.inr ⟨Or.inl hno2, rfl⟩⟩

theorem w_Pkg_sum_0 : ∀ w ∈ u_ws RX8 TX8 7, w ∈ wsX8_sum := by decide +kernel
theorem w_Pkg_sum_1 : Cond.fieldLink RX8 18 "PackageRows2" "octets" "LPackageRows2$Row;" ∈ wsX8_sum := by decide +kernel
set_option maxHeartbeats 4000000 in
set_option maxRecDepth 100000 in
/--  -/
theorem c_Pkg_sum (l : Launch) (D : va_G) (ca : Nat → ClassId) (M : mw_M) (sz x nv : Nat) (n : Nat) (f : Nat → Int32) (hx : M x = some (.inr (8, [.ref (x + 1), .ref (x + 3), .ref (x + 5), .ref (x + 8), .ref (x + 11), .int (nI nv), .ref (x + 12)]))) (hr1 : M (x + 3) = some (.inr (5, [.ref (x + 3 + 1), .int (nI n)]))) (ha1 : M (x + 3 + 1) = some (.inl (ca 0, 40, .inl f))) (hn1 : n ≤ 40) : mw_C wsX8_sum l yX8_sum { frames := 1, cells := 0, slots := 0, locals := 22 } D vwCl (mt ca) [.ref x] M sz (mq_i (fun v9 M' sz' => M' = M ∧ sz' = sz ∧ v9 = sumN f n)) := by
  refine mw_enter (cc := cX8_sum) (maxL := 1) (ret := (some .int)) rfl (by decide) (Nat.le_of_ble_eq_true rfl) ?_
  intro p e s m below meth c X hr0 hnm hlt
  refine mj_aload_n X dX8_sum_0 rfl 0 rfl ?_
  refine mj_get X (C := RX8) (T := TX8) (N := 7) (ci := 8) w_Pkg_sum_0 rfl 1 (by decide) w_Pkg_sum_1 hx rfl dX8_sum_1 ?_
  refine mj_callV X 0 gX8_sum_X5_sumOfBytes rfl (by decide +kernel) ⟨by decide, by decide⟩ (c_Row_sum l D ca M sz (x + 3) 40 n f hr1 ha1 hn1 (by omega)) rfl hr1 rfl rfl (Nat.le_of_ble_eq_true rfl) dX8_sum_4 ⟨by decide, by decide⟩ (mk_ri (fun b4 hb4 => ?_))
  subst hb4
  refine mj_iret X hr0 (by decide) (by decide) dX8_sum_7 ?_
  exact ⟨_, rfl, rfl, rfl, rfl⟩

