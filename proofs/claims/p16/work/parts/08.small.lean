theorem w_Faults_size_0 : ∀ w ∈ u_ws RX2 TX2 3, w ∈ wsX2_size := by decide +kernel
theorem w_Faults_size_1 : Cond.fieldLink RX2 18 "PackageRows2$Faults" "count" "I" ∈ wsX2_size := by decide +kernel
set_option maxHeartbeats 4000000 in
set_option maxRecDepth 100000 in
/--  -/
theorem c_Faults_size (l : Launch) (D : va_G) (ca : Nat → ClassId) (M : mw_M) (sz q n : Nat) (f g : Nat → Int32) (hq : M q = some (.inr (3, [.ref (q + 1), .ref (q + 2), .int (nI n)]))) (hk1 : M (q + 1) = some (.inl (ca 0, 24, .inl f))) (hk2 : M (q + 2) = some (.inl (ca 0, 24, .inl g))) (hn : n ≤ 24) : mw_C wsX2_size l yX2_size { frames := 0, cells := 0, slots := 0, locals := 0 } D vwCl (mt ca) [.ref q] M sz (mq_i (fun v M' sz' => M' = M ∧ sz' = sz ∧ v = nI n)) := by
  refine mw_enter (cc := cX2_size) (maxL := 1) (ret := (some .int)) rfl (by decide) (Nat.le_of_ble_eq_true rfl) ?_
  intro p e s m below meth c X hr0 hnm hlt
  refine mj_aload_n X dX2_size_0 rfl 0 rfl ?_
  refine mj_get X (C := RX2) (T := TX2) (N := 3) (ci := 3) w_Faults_size_0 rfl 2 (by decide) w_Faults_size_1 hq rfl dX2_size_1 ?_
  refine mj_iret X hr0 (by decide) (by decide) dX2_size_4 ?_
  exact ⟨_, rfl, rfl, rfl, rfl⟩

theorem w_Faults_has_0 : ∀ w ∈ u_ws RX2 TX2 3, w ∈ wsX2_has := by decide +kernel
theorem w_Faults_has_1 : Cond.fieldLink RX2 18 "PackageRows2$Faults" "count" "I" ∈ wsX2_has := by decide +kernel
set_option maxHeartbeats 4000000 in
set_option maxRecDepth 100000 in
/--  -/
theorem c_Faults_has (l : Launch) (D : va_G) (ca : Nat → ClassId) (M : mw_M) (sz q n : Nat) (f g : Nat → Int32) (k : Int32) (hq : M q = some (.inr (3, [.ref (q + 1), .ref (q + 2), .int (nI n)]))) (hk1 : M (q + 1) = some (.inl (ca 0, 24, .inl f))) (hk2 : M (q + 2) = some (.inl (ca 0, 24, .inl g))) (hn : n ≤ 24) : mw_C wsX2_has l yX2_has { frames := 0, cells := 0, slots := 0, locals := 0 } D vwCl (mt ca) [.ref q, .int k] M sz (mq_i (fun v M' sz' => M' = M ∧ sz' = sz ∧ ((v = 1 ∧ ∃ j, j < n ∧ k = nI j) ∨ (v = 0 ∧ ∀ j, j < n → k ≠ nI j)))) := by
  refine mw_enter (cc := cX2_has) (maxL := 2) (ret := (some .boolean)) rfl (by decide) (Nat.le_of_ble_eq_true rfl) ?_
  intro p e s m below meth c X hr0 hnm hlt
  refine mj_iload_n X dX2_has_0 rfl 1 rfl ?_
  refine mj_if_lt X 16 dX2_has_1 (by decide) (fun c1 => ?_) (fun c1 => ?_)
  · refine mj_iconst X (v := 0) dX2_has_16 (by decide +kernel) ?_
    refine mj_zret X rfl hr0 (by decide) (by decide) dX2_has_17 ?_
    exact ⟨_, rfl, rfl, rfl, Or.inr ⟨rfl, fun j hj e => absurd c1 (by rw [e]; exact nI_pos (by omega))⟩⟩
  · refine mj_iload_n X dX2_has_4 rfl 1 rfl ?_
    refine mj_aload_n X dX2_has_5 rfl 0 rfl ?_
    refine mj_get X (C := RX2) (T := TX2) (N := 3) (ci := 3) w_Faults_has_0 rfl 2 (by decide) w_Faults_has_1 hq rfl dX2_has_6 ?_
    refine mj_icmp_ge X 16 dX2_has_9 (by decide) (fun c9 => ?_) (fun c9 => ?_)
    · refine mj_iconst X (v := 0) dX2_has_16 (by decide +kernel) ?_
      refine mj_zret X rfl hr0 (by decide) (by decide) dX2_has_17 ?_
      exact ⟨_, rfl, rfl, rfl, Or.inr ⟨rfl, fun j hj e => absurd c9 (by rw [e]; exact nI_ge hj (by omega))⟩⟩
    · refine mj_iconst X (v := 1) dX2_has_12 (by decide +kernel) ?_
      refine mj_goto X 17 dX2_has_13 (by decide) ?_
      refine mj_zret X rfl hr0 (by decide) (by decide) dX2_has_17 ?_
      obtain ⟨j, hj, e⟩ : ∃ j, j < n ∧ k = nI j := by
        rcases pk_ix k (n := n) (by omega) with h | h | h
        · exact absurd h c1
        · exact absurd h c9
        · exact h
      exact ⟨_, rfl, rfl, rfl, Or.inl ⟨rfl, j, hj, e⟩⟩

theorem w_Faults_clear_0 : ∀ w ∈ u_ws RX2 TX2 3, w ∈ wsX2_clear := by decide +kernel
theorem w_Faults_clear_1 : Cond.fieldLink RX2 18 "PackageRows2$Faults" "count" "I" ∈ wsX2_clear := by decide +kernel
set_option maxHeartbeats 4000000 in
set_option maxRecDepth 100000 in
/--  -/
theorem c_Faults_clear (l : Launch) (D : va_G) (ca : Nat → ClassId) (M : mw_M) (sz q n : Nat) (f g : Nat → Int32) (hq : M q = some (.inr (3, [.ref (q + 1), .ref (q + 2), .int (nI n)]))) (hk1 : M (q + 1) = some (.inl (ca 0, 24, .inl f))) (hk2 : M (q + 2) = some (.inl (ca 0, 24, .inl g))) (hn : n ≤ 24) : mw_C wsX2_clear l yX2_clear { frames := 0, cells := 0, slots := 0, locals := 0 } D vwCl (mt ca) [.ref q] M sz (mq_v (fun M' sz' => M' = mw_u M q (.inr (3, [.ref (q + 1), .ref (q + 2), .int (nI 0)])) ∧ sz' = sz)) := by
  refine mw_enter (cc := cX2_clear) (maxL := 1) (ret := none) rfl (by decide) (Nat.le_of_ble_eq_true rfl) ?_
  intro p e s m below meth c X hr0 hnm hlt
  refine mj_aload_n X dX2_clear_0 rfl 0 rfl ?_
  refine mj_iconst X (v := 0) dX2_clear_1 (by decide +kernel) ?_
  refine mj_put X (C := RX2) (T := TX2) (N := 3) (ci := 3) (v := .int 0) tyX2 w_Faults_clear_0 tyX2_ok nmX2 rfl 2 (by decide) w_Faults_clear_1 rfl hq [.ref (q + 1), .ref (q + 2), .int 0] (Nat.le_of_ble_eq_true rfl) rfl rfl rfl rfl dX2_clear_2 ?_
  refine mj_vret X hr0 (by decide) (by decide) dX2_clear_5 ?_
  exact ⟨rfl, by rw [nI_0], rfl⟩

theorem w_Faults_kindOf_0 : ∀ w ∈ u_ws RX2 TX2 3, w ∈ wsX2_kindOf := by decide +kernel
theorem w_Faults_kindOf_1 : Cond.fieldLink RX2 9 "PackageRows2$Faults" "kinds" "[I" ∈ wsX2_kindOf := by decide +kernel
set_option maxHeartbeats 4000000 in
set_option maxRecDepth 100000 in
/--  -/
theorem c_Faults_kindOf (l : Launch) (D : va_G) (ca : Nat → ClassId) (M : mw_M) (sz q n : Nat) (f g : Nat → Int32) (k : Int32) (hq : M q = some (.inr (3, [.ref (q + 1), .ref (q + 2), .int (nI n)]))) (hk1 : M (q + 1) = some (.inl (ca 0, 24, .inl f))) (hk2 : M (q + 2) = some (.inl (ca 0, 24, .inl g))) (hn : n ≤ 24) : mw_C wsX2_kindOf l yX2_kindOf { frames := 1, cells := 0, slots := 0, locals := 21 } D vwCl (mt ca) [.ref q, .int k] M sz (mq_i (fun v M' sz' => M' = M ∧ sz' = sz ∧ ((∃ j, j < n ∧ k = nI j ∧ v = f j) ∨ ((∀ j, j < n → k ≠ nI j) ∧ v = -1)))) := by
  refine mw_enter (cc := cX2_kindOf) (maxL := 2) (ret := (some .int)) rfl (by decide) (Nat.le_of_ble_eq_true rfl) ?_
  intro p e s m below meth c X hr0 hnm hlt
  refine mj_aload_n X dX2_kindOf_0 rfl 0 rfl ?_
  refine mj_iload_n X dX2_kindOf_1 rfl 1 rfl ?_
  refine mj_callV X 1 gX2_kindOf_X2_has rfl (by decide +kernel) ⟨by decide, by decide⟩ (c_Faults_has l D ca M sz q n f g k hq hk1 hk2 hn) rfl hq rfl rfl (Nat.le_of_ble_eq_true rfl) dX2_kindOf_2 ⟨by decide, by decide⟩ (mk_ri (fun b2 hb2 => ?_))
  refine mj_if_eq X 17 dX2_kindOf_5 (by decide) (fun c5 => ?_) (fun c5 => ?_)
  · refine mj_iconst X (v := -1) dX2_kindOf_17 (by decide +kernel) ?_
    refine mj_iret X hr0 (by decide) (by decide) dX2_kindOf_18 ?_
    rcases hb2 with ⟨e1, -⟩ | ⟨-, h2⟩
    · rw [e1] at c5; exact absurd c5 (by decide)
    · exact ⟨_, rfl, rfl, rfl, Or.inr ⟨h2, rfl⟩⟩
  · obtain ⟨j, hj, ej⟩ : ∃ j, j < n ∧ k = nI j := by
      rcases hb2 with ⟨-, h2⟩ | ⟨e1, -⟩
      · exact h2
      · exact absurd e1 c5
    refine mj_aload_n X dX2_kindOf_8 rfl 0 rfl ?_
    refine mj_get X (C := RX2) (T := TX2) (N := 3) (ci := 3) w_Faults_kindOf_0 rfl 0 (by decide) w_Faults_kindOf_1 hq rfl dX2_kindOf_9 ?_
    refine mj_iload_n X dX2_kindOf_12 rfl 1 rfl ?_
    refine mj_iald X 0 (f j) rfl hk1 (by rw [ej]; exact vp_in_nI (by omega) (by omega)) (by rw [ej, nI_clamp (by omega)]) dX2_kindOf_13 ?_
    refine mj_goto X 18 dX2_kindOf_14 (by decide) ?_
    refine mj_iret X hr0 (by decide) (by decide) dX2_kindOf_18 ?_
    exact ⟨_, rfl, rfl, rfl, Or.inl ⟨j, hj, ej, rfl⟩⟩

theorem w_Faults_numberOf_0 : ∀ w ∈ u_ws RX2 TX2 3, w ∈ wsX2_numberOf := by decide +kernel
theorem w_Faults_numberOf_1 : Cond.fieldLink RX2 15 "PackageRows2$Faults" "numbers" "[I" ∈ wsX2_numberOf := by decide +kernel
set_option maxHeartbeats 4000000 in
set_option maxRecDepth 100000 in
/--  -/
theorem c_Faults_numberOf (l : Launch) (D : va_G) (ca : Nat → ClassId) (M : mw_M) (sz q n : Nat) (f g : Nat → Int32) (k : Int32) (hq : M q = some (.inr (3, [.ref (q + 1), .ref (q + 2), .int (nI n)]))) (hk1 : M (q + 1) = some (.inl (ca 0, 24, .inl f))) (hk2 : M (q + 2) = some (.inl (ca 0, 24, .inl g))) (hn : n ≤ 24) : mw_C wsX2_numberOf l yX2_numberOf { frames := 1, cells := 0, slots := 0, locals := 21 } D vwCl (mt ca) [.ref q, .int k] M sz (mq_i (fun v M' sz' => M' = M ∧ sz' = sz ∧ ((∃ j, j < n ∧ k = nI j ∧ v = g j) ∨ ((∀ j, j < n → k ≠ nI j) ∧ v = -1)))) := by
  refine mw_enter (cc := cX2_numberOf) (maxL := 2) (ret := (some .int)) rfl (by decide) (Nat.le_of_ble_eq_true rfl) ?_
  intro p e s m below meth c X hr0 hnm hlt
  refine mj_aload_n X dX2_numberOf_0 rfl 0 rfl ?_
  refine mj_iload_n X dX2_numberOf_1 rfl 1 rfl ?_
  refine mj_callV X 1 gX2_numberOf_X2_has rfl (by decide +kernel) ⟨by decide, by decide⟩ (c_Faults_has l D ca M sz q n f g k hq hk1 hk2 hn) rfl hq rfl rfl (Nat.le_of_ble_eq_true rfl) dX2_numberOf_2 ⟨by decide, by decide⟩ (mk_ri (fun b2 hb2 => ?_))
  refine mj_if_eq X 17 dX2_numberOf_5 (by decide) (fun c5 => ?_) (fun c5 => ?_)
  · refine mj_iconst X (v := -1) dX2_numberOf_17 (by decide +kernel) ?_
    refine mj_iret X hr0 (by decide) (by decide) dX2_numberOf_18 ?_
    rcases hb2 with ⟨e1, -⟩ | ⟨-, h2⟩
    · rw [e1] at c5; exact absurd c5 (by decide)
    · exact ⟨_, rfl, rfl, rfl, Or.inr ⟨h2, rfl⟩⟩
  · obtain ⟨j, hj, ej⟩ : ∃ j, j < n ∧ k = nI j := by
      rcases hb2 with ⟨-, h2⟩ | ⟨e1, -⟩
      · exact h2
      · exact absurd e1 c5
    refine mj_aload_n X dX2_numberOf_8 rfl 0 rfl ?_
    refine mj_get X (C := RX2) (T := TX2) (N := 3) (ci := 3) w_Faults_numberOf_0 rfl 1 (by decide) w_Faults_numberOf_1 hq rfl dX2_numberOf_9 ?_
    refine mj_iload_n X dX2_numberOf_12 rfl 1 rfl ?_
    refine mj_iald X 0 (g j) rfl hk2 (by rw [ej]; exact vp_in_nI (by omega) (by omega)) (by rw [ej, nI_clamp (by omega)]) dX2_numberOf_13 ?_
    refine mj_goto X 18 dX2_numberOf_14 (by decide) ?_
    refine mj_iret X hr0 (by decide) (by decide) dX2_numberOf_18 ?_
    exact ⟨_, rfl, rfl, rfl, Or.inl ⟨j, hj, ej, rfl⟩⟩

theorem w_Faults_note_0 : ∀ w ∈ u_ws RX2 TX2 3, w ∈ wsX2_note := by decide +kernel
theorem w_Faults_note_1 : Cond.fieldLink RX2 18 "PackageRows2$Faults" "count" "I" ∈ wsX2_note := by decide +kernel
theorem w_Faults_note_2 : Cond.fieldLink RX2 9 "PackageRows2$Faults" "kinds" "[I" ∈ wsX2_note := by decide +kernel
theorem w_Faults_note_3 : Cond.fieldLink RX2 15 "PackageRows2$Faults" "numbers" "[I" ∈ wsX2_note := by decide +kernel
set_option maxHeartbeats 4000000 in
set_option maxRecDepth 100000 in
/--  -/
theorem c_Faults_note (l : Launch) (D : va_G) (ca : Nat → ClassId) (M : mw_M) (sz q n : Nat) (f g : Nat → Int32) (x y : Int32) (hq : M q = some (.inr (3, [.ref (q + 1), .ref (q + 2), .int (nI n)]))) (hk1 : M (q + 1) = some (.inl (ca 0, 24, .inl f))) (hk2 : M (q + 2) = some (.inl (ca 0, 24, .inl g))) (hn : n ≤ 24) : mw_C wsX2_note l yX2_note { frames := 0, cells := 0, slots := 0, locals := 0 } D vwCl (mt ca) [.ref q, .int x, .int y] M sz (mq_v (fun M' sz' => (((x = 0 ∨ n = 24) ∧ M' = M) ∨ (x ≠ 0 ∧ n < 24 ∧ M' = mw_u (mw_u (mw_u M (q + 1) (.inl (ca 0, 24, .inl (upd f n x)))) (q + 2) (.inl (ca 0, 24, .inl (upd g n y)))) q (.inr (3, [.ref (q + 1), .ref (q + 2), .int (nI (n + 1))])))) ∧ sz' = sz)) := by
  refine mw_enter (cc := cX2_note) (maxL := 3) (ret := none) rfl (by decide) (Nat.le_of_ble_eq_true rfl) ?_
  intro p e s m below meth c X hr0 hnm hlt
  refine mj_iload_n X dX2_note_0 rfl 1 rfl ?_
  refine mj_if_eq X 46 dX2_note_1 (by decide) (fun c1 => ?_) (fun c1 => ?_)
  · refine mj_vret X hr0 (by decide) (by decide) dX2_note_46 ?_
    exact ⟨rfl, Or.inl ⟨Or.inl c1, rfl⟩, rfl⟩
  · refine mj_aload_n X dX2_note_4 rfl 0 rfl ?_
    refine mj_get X (C := RX2) (T := TX2) (N := 3) (ci := 3) w_Faults_note_0 rfl 2 (by decide) w_Faults_note_1 hq rfl dX2_note_5 ?_
    refine mj_aload_n X dX2_note_8 rfl 0 rfl ?_
    refine mj_get X (C := RX2) (T := TX2) (N := 3) (ci := 3) w_Faults_note_0 rfl 0 (by decide) w_Faults_note_2 hq rfl dX2_note_9 ?_
    refine mj_alen X 0 (v := nI 24) rfl hk1 rfl dX2_note_12 ?_
    refine mj_icmp_ge X 46 dX2_note_13 (by decide) (fun c13 => ?_) (fun c13 => ?_)
    · refine mj_vret X hr0 (by decide) (by decide) dX2_note_46 ?_
      exact ⟨rfl, Or.inl ⟨Or.inr (by have h9 := (nI_leI (by omega) (by omega)).mp c13; omega), rfl⟩, rfl⟩
    · have hlt9 : n < 24 := Nat.not_le.mp (fun h9 => c13 (nI_le h9 (by omega)))
      refine mj_aload_n X dX2_note_16 rfl 0 rfl ?_
      refine mj_get X (C := RX2) (T := TX2) (N := 3) (ci := 3) w_Faults_note_0 rfl 0 (by decide) w_Faults_note_2 hq rfl dX2_note_17 ?_
      refine mj_aload_n X dX2_note_20 rfl 0 rfl ?_
      refine mj_get X (C := RX2) (T := TX2) (N := 3) (ci := 3) w_Faults_note_0 rfl 2 (by decide) w_Faults_note_1 hq rfl dX2_note_21 ?_
      refine mj_iload_n X dX2_note_24 rfl 1 rfl ?_
      refine mj_iast X 0 n rfl hk1 (vp_in_nI (by omega) (by omega)) (nI_clamp (by omega)) dX2_note_25 ?_
      refine mj_aload_n X dX2_note_26 rfl 0 rfl ?_
      have f1_ := (mw_un (M := M) (e := (.inl (ca 0, 24, .inl (upd f n x)))) (show q ≠ q + 1 by omega)).trans hq
      refine mj_get X (C := RX2) (T := TX2) (N := 3) (ci := 3) w_Faults_note_0 rfl 1 (by decide) w_Faults_note_3 f1_ rfl dX2_note_27 ?_
      refine mj_aload_n X dX2_note_30 rfl 0 rfl ?_
      refine mj_get X (C := RX2) (T := TX2) (N := 3) (ci := 3) w_Faults_note_0 rfl 2 (by decide) w_Faults_note_1 f1_ rfl dX2_note_31 ?_
      refine mj_iload_n X dX2_note_34 rfl 2 rfl ?_
      have f2_ := (mw_un (M := M) (e := (.inl (ca 0, 24, .inl (upd f n x)))) (show q + 2 ≠ q + 1 by omega)).trans hk2
      refine mj_iast X 0 n rfl f2_ (vp_in_nI (by omega) (by omega)) (nI_clamp (by omega)) dX2_note_35 ?_
      refine mj_aload_n X dX2_note_36 rfl 0 rfl ?_
      refine mj_dup X dX2_note_37 rfl ?_
      have f3_ := (mw_un (M := (mw_u M (q + 1) (.inl (ca 0, 24, .inl (upd f n x))))) (e := (.inl (ca 0, 24, .inl (upd g n y)))) (show q ≠ q + 2 by omega)).trans f1_
      refine mj_get X (C := RX2) (T := TX2) (N := 3) (ci := 3) w_Faults_note_0 rfl 2 (by decide) w_Faults_note_1 f3_ rfl dX2_note_38 ?_
      refine mj_iconst X (v := 1) dX2_note_41 (by decide +kernel) ?_
      refine mj_iadd X dX2_note_42 ?_
      refine mj_top (nI (n + 1)) (nI_1 n) ?_
      refine mj_put X (C := RX2) (T := TX2) (N := 3) (ci := 3) (v := .int (nI (n + 1))) tyX2 w_Faults_note_0 tyX2_ok nmX2 rfl 2 (by decide) w_Faults_note_1 rfl f3_ [.ref (q + 1), .ref (q + 2), .int (nI (n + 1))] (Nat.le_of_ble_eq_true rfl) rfl rfl rfl rfl dX2_note_43 ?_
      refine mj_vret X hr0 (by decide) (by decide) dX2_note_46 ?_
      exact ⟨rfl, Or.inr ⟨c1, hlt9, rfl⟩, rfl⟩

theorem w_Faults_init_0 : Cond.methodLink RX2 3 Lib.objectInit ∈ wsX2_init := by decide +kernel
theorem w_Faults_init_1 : Cond.instanceMethod Lib.objectInit ∈ wsX2_init := by decide +kernel
theorem w_Faults_init_2 : Cond.code Lib.objectInit ⟨#[0xb1]⟩ 1 none ∈ wsX2_init := by decide +kernel
theorem w_Faults_init_3 : Cond.arrayClass .int ∈ wsX2_init := by decide +kernel
theorem w_Faults_init_4 : ∀ w ∈ u_ws RX2 TX2 3, w ∈ wsX2_init := by decide +kernel
theorem w_Faults_init_5 : Cond.fieldLink RX2 9 "PackageRows2$Faults" "kinds" "[I" ∈ wsX2_init := by decide +kernel
theorem w_Faults_init_6 : Cond.fieldLink RX2 15 "PackageRows2$Faults" "numbers" "[I" ∈ wsX2_init := by decide +kernel
theorem w_Faults_init_7 : Cond.fieldLink RX2 18 "PackageRows2$Faults" "count" "I" ∈ wsX2_init := by decide +kernel
set_option maxHeartbeats 4000000 in
set_option maxRecDepth 100000 in
/--  -/
theorem c_Faults_init (l : Launch) (D : va_G) (ca : Nat → ClassId) (M : mw_M) (q : Nat) (hq : M q = some (.inr (3, [.null, .null, .int 0]))) : mw_C wsX2_init l yX2_init { frames := 1, cells := 2, slots := 48, locals := 12 } D vwCl (mt ca) [.ref q] M (q + 1) (mq_v (fun M' sz' => M' = mw_u (mw_u (mw_u M (q + 1) (.inl (ca 0, 24, .inl (fun _ => 0)))) (q + 2) (.inl (ca 0, 24, .inl (fun _ => 0)))) q (.inr (3, [.ref (q + 1), .ref (q + 2), .int (nI 0)])) ∧ sz' = q + 3)) := by
  refine mw_enter (cc := cX2_init) (maxL := 1) (ret := none) rfl (by decide) (Nat.le_of_ble_eq_true rfl) ?_
  intro p e s m below meth c X hr0 hnm hlt
  refine mj_aload_n X dX2_init_0 rfl 0 rfl ?_
  refine mj_objInit X w_Faults_init_0 w_Faults_init_1 w_Faults_init_2 dX2_init_1 (by decide) (Nat.le_of_ble_eq_true rfl) ?_
  refine mj_aload_n X dX2_init_4 rfl 0 rfl ?_
  refine mj_bipush X (v := 24) dX2_init_5 (by decide +kernel) ?_
  refine mj_newa X (atype := .int) 0 24 (24, .inl (fun _ => 0)) rfl rfl (fun _ h9 => h9) w_Faults_init_3 (fun _ => rfl) (by decide) (by decide) (by decide) (by decide) (by decide) dX2_init_7 ?_
  have f1_ := (mw_un (M := M) (e := (.inl (ca 0, 24, .inl (fun _ => 0)))) (show q ≠ q + 1 by omega)).trans hq
  refine mj_putF X (C := RX2) (T := TX2) (N := 3) (ci := 3) (v := .ref (q + 1)) tyX2 w_Faults_init_4 tyX2_ok nmX2 rfl 0 (by decide) w_Faults_init_5 rfl f1_ [.ref (q + 1), .null, .int 0] (Nat.le_of_ble_eq_true rfl) rfl rfl rfl rfl hnm rfl dX2_init_9 ?_
  refine mj_aload_n X dX2_init_12 rfl 0 rfl ?_
  refine mj_bipush X (v := 24) dX2_init_13 (by decide +kernel) ?_
  refine mj_newa X (atype := .int) 0 24 (24, .inl (fun _ => 0)) rfl rfl (fun _ h9 => h9) w_Faults_init_3 (fun _ => rfl) (by decide) (by decide) (by decide) (by decide) (by decide) dX2_init_15 ?_
  have f2_ := mw_us (M := (mw_u M (q + 1) (.inl (ca 0, 24, .inl (fun _ => 0))))) (a := q) (e := (.inr (3, [.ref (q + 1), .null, .int 0])))
  have f3_ := (mw_un (M := (mw_u (mw_u M (q + 1) (.inl (ca 0, 24, .inl (fun _ => 0)))) q (.inr (3, [.ref (q + 1), .null, .int 0])))) (e := (.inl (ca 0, 24, .inl (fun _ => 0)))) (show q ≠ q + 2 by omega)).trans f2_
  refine mj_putF X (C := RX2) (T := TX2) (N := 3) (ci := 3) (v := .ref (q + 2)) tyX2 w_Faults_init_4 tyX2_ok nmX2 rfl 1 (by decide) w_Faults_init_6 rfl f3_ [.ref (q + 1), .ref (q + 2), .int 0] (Nat.le_of_ble_eq_true rfl) rfl rfl rfl rfl hnm rfl dX2_init_17 ?_
  refine mj_aload_n X dX2_init_20 rfl 0 rfl ?_
  refine mj_iconst X (v := 0) dX2_init_21 (by decide +kernel) ?_
  have f4_ := mw_us (M := (mw_u (mw_u (mw_u M (q + 1) (.inl (ca 0, 24, .inl (fun _ => 0)))) q (.inr (3, [.ref (q + 1), .null, .int 0]))) (q + 2) (.inl (ca 0, 24, .inl (fun _ => 0))))) (a := q) (e := (.inr (3, [.ref (q + 1), .ref (q + 2), .int 0])))
  refine mj_put X (C := RX2) (T := TX2) (N := 3) (ci := 3) (v := .int 0) tyX2 w_Faults_init_4 tyX2_ok nmX2 rfl 2 (by decide) w_Faults_init_7 rfl f4_ [.ref (q + 1), .ref (q + 2), .int 0] (Nat.le_of_ble_eq_true rfl) rfl rfl rfl rfl dX2_init_22 ?_
  refine mj_vret X hr0 (by decide) (by decide) dX2_init_25 ?_
  exact ⟨rfl, by rw [mw_uu, nI_0, mw_3 (by omega)], rfl⟩

theorem w_Line_init_0 : Cond.methodLink RX3 1 Lib.objectInit ∈ wsX3_init := by decide +kernel
theorem w_Line_init_1 : Cond.instanceMethod Lib.objectInit ∈ wsX3_init := by decide +kernel
theorem w_Line_init_2 : Cond.code Lib.objectInit ⟨#[0xb1]⟩ 1 none ∈ wsX3_init := by decide +kernel
theorem w_Line_init_3 : ∀ w ∈ u_ws RX3 TX3 3, w ∈ wsX3_init := by decide +kernel
theorem w_Line_init_4 : Cond.fieldLink RX3 7 "PackageRows2$Line" "name" "LPackageRows2$Row;" ∈ wsX3_init := by decide +kernel
theorem w_Line_init_5 : Cond.fieldLink RX3 13 "PackageRows2$Line" "toldSize" "I" ∈ wsX3_init := by decide +kernel
theorem w_Line_init_6 : Cond.fieldLink RX3 17 "PackageRows2$Line" "toldSum" "I" ∈ wsX3_init := by decide +kernel
set_option maxHeartbeats 4000000 in
set_option maxRecDepth 100000 in
/--  -/
theorem c_Line_init (l : Launch) (D : va_G) (ca : Nat → ClassId) (M : mw_M) (sz q r : Nat) (x y : Int32) (hq : M q = some (.inr (4, [.null, .int 0, .int 0]))) : mw_C wsX3_init l yX3_init { frames := 1, cells := 0, slots := 0, locals := 12 } D vwCl (mt ca) [.ref q, .ref r, .int x, .int y] M sz (mq_v (fun M' sz' => M' = mw_u M q (.inr (4, [.ref r, .int x, .int y])) ∧ sz' = sz)) := by
  refine mw_enter (cc := cX3_init) (maxL := 4) (ret := none) rfl (by decide) (Nat.le_of_ble_eq_true rfl) ?_
  intro p e s m below meth c X hr0 hnm hlt
  refine mj_aload_n X dX3_init_0 rfl 0 rfl ?_
  refine mj_objInit X w_Line_init_0 w_Line_init_1 w_Line_init_2 dX3_init_1 (by decide) (Nat.le_of_ble_eq_true rfl) ?_
  refine mj_aload_n X dX3_init_4 rfl 0 rfl ?_
  refine mj_aload_n X dX3_init_5 rfl 1 rfl ?_
  refine mj_putF X (C := RX3) (T := TX3) (N := 3) (ci := 4) (v := .ref r) tyX3 w_Line_init_3 tyX3_ok nmX3 rfl 0 (by decide) w_Line_init_4 rfl hq [.ref r, .int 0, .int 0] (Nat.le_of_ble_eq_true rfl) rfl rfl rfl rfl hnm rfl dX3_init_6 ?_
  refine mj_aload_n X dX3_init_9 rfl 0 rfl ?_
  refine mj_iload_n X dX3_init_10 rfl 2 rfl ?_
  have f1_ := mw_us (M := M) (a := q) (e := (.inr (4, [.ref r, .int 0, .int 0])))
  refine mj_putF X (C := RX3) (T := TX3) (N := 3) (ci := 4) (v := .int x) tyX3 w_Line_init_3 tyX3_ok nmX3 rfl 1 (by decide) w_Line_init_5 rfl f1_ [.ref r, .int x, .int 0] (Nat.le_of_ble_eq_true rfl) rfl rfl rfl rfl hnm rfl dX3_init_11 ?_
  refine mj_aload_n X dX3_init_14 rfl 0 rfl ?_
  refine mj_iload_n X dX3_init_15 rfl 3 rfl ?_
  have f2_ := mw_us (M := (mw_u M q (.inr (4, [.ref r, .int 0, .int 0])))) (a := q) (e := (.inr (4, [.ref r, .int x, .int 0])))
  refine mj_putF X (C := RX3) (T := TX3) (N := 3) (ci := 4) (v := .int y) tyX3 w_Line_init_3 tyX3_ok nmX3 rfl 2 (by decide) w_Line_init_6 rfl f2_ [.ref r, .int x, .int y] (Nat.le_of_ble_eq_true rfl) rfl rfl rfl rfl hnm rfl dX3_init_16 ?_
  refine mj_vret X hr0 (by decide) (by decide) dX3_init_19 ?_
  exact ⟨rfl, by rw [mw_uu, mw_uu], rfl⟩

theorem w_Entry_init_0 : Cond.methodLink RX1 3 Lib.objectInit ∈ wsX1_init := by decide +kernel
theorem w_Entry_init_1 : Cond.instanceMethod Lib.objectInit ∈ wsX1_init := by decide +kernel
theorem w_Entry_init_2 : Cond.code Lib.objectInit ⟨#[0xb1]⟩ 1 none ∈ wsX1_init := by decide +kernel
theorem w_Entry_init_3 : ∀ w ∈ u_ws RX1 TX1 4, w ∈ wsX1_init := by decide +kernel
theorem w_Entry_init_4 : Cond.fieldLink RX1 9 "PackageRows2$Entry" "name" "LPackageRows2$Row;" ∈ wsX1_init := by decide +kernel
theorem w_Entry_init_5 : Cond.fieldLink RX1 15 "PackageRows2$Entry" "bytes" "LPackageRows2$Row;" ∈ wsX1_init := by decide +kernel
theorem w_Entry_init_6 : Cond.fieldLink RX1 24 "PackageRows2$Entry" "sumOfAll" "I" ∈ wsX1_init := by decide +kernel
theorem w_Entry_init_7 : Cond.fieldLink RX1 28 "PackageRows2$Entry" "firstVersion" "I" ∈ wsX1_init := by decide +kernel
set_option maxHeartbeats 4000000 in
set_option maxRecDepth 100000 in
/--  -/
theorem c_Entry_init (l : Launch) (D : va_G) (ca : Nat → ClassId) (M : mw_M) (sz q r1 r cap n : Nat) (f : Nat → Int32) (hq : M q = some (.inr (2, [.null, .null, .int 0, .int 0]))) (hr : M r = some (.inr (5, [.ref (r + 1), .int (nI n)]))) (ha : M (r + 1) = some (.inl (ca 0, cap, .inl f))) (hn : n ≤ cap) (hcap : cap < 1000) : mw_C wsX1_init l yX1_init { frames := 1, cells := 0, slots := 0, locals := 22 } D vwCl (mt ca) [.ref q, .ref r1, .ref r] M sz (mq_v (fun M' sz' => M' = mw_u M q (.inr (2, [.ref r1, .ref r, .int (sumN f n), .int (-1)])) ∧ sz' = sz)) := by
  refine mw_enter (cc := cX1_init) (maxL := 3) (ret := none) rfl (by decide) (Nat.le_of_ble_eq_true rfl) ?_
  intro p e s m below meth c X hr0 hnm hlt
  have hne1 : r ≠ q := mw_ne hr hq (by simp)
  have hne2 : r + 1 ≠ q := mw_ne ha hq (by simp)
  refine mj_aload_n X dX1_init_0 rfl 0 rfl ?_
  refine mj_objInit X w_Entry_init_0 w_Entry_init_1 w_Entry_init_2 dX1_init_1 (by decide) (Nat.le_of_ble_eq_true rfl) ?_
  refine mj_aload_n X dX1_init_4 rfl 0 rfl ?_
  refine mj_aload_n X dX1_init_5 rfl 1 rfl ?_
  refine mj_putF X (C := RX1) (T := TX1) (N := 4) (ci := 2) (v := .ref r1) tyX1 w_Entry_init_3 tyX1_ok nmX1 rfl 0 (by decide) w_Entry_init_4 rfl hq [.ref r1, .null, .int 0, .int 0] (Nat.le_of_ble_eq_true rfl) rfl rfl rfl rfl hnm rfl dX1_init_6 ?_
  refine mj_aload_n X dX1_init_9 rfl 0 rfl ?_
  refine mj_aload_n X dX1_init_10 rfl 2 rfl ?_
  have f1_ := mw_us (M := M) (a := q) (e := (.inr (2, [.ref r1, .null, .int 0, .int 0])))
  refine mj_putF X (C := RX1) (T := TX1) (N := 4) (ci := 2) (v := .ref r) tyX1 w_Entry_init_3 tyX1_ok nmX1 rfl 1 (by decide) w_Entry_init_5 rfl f1_ [.ref r1, .ref r, .int 0, .int 0] (Nat.le_of_ble_eq_true rfl) rfl rfl rfl rfl hnm rfl dX1_init_11 ?_
  refine mj_aload_n X dX1_init_14 rfl 0 rfl ?_
  refine mj_aload_n X dX1_init_15 rfl 2 rfl ?_
  have f2_ := (mw_un (M := M) (e := (.inr (2, [.ref r1, .null, .int 0, .int 0]))) (show r ≠ q by omega)).trans hr
  have f3_ := (mw_un (M := (mw_u M q (.inr (2, [.ref r1, .null, .int 0, .int 0])))) (e := (.inr (2, [.ref r1, .ref r, .int 0, .int 0]))) (show r ≠ q by omega)).trans f2_
  have f4_ := (mw_un (M := M) (e := (.inr (2, [.ref r1, .null, .int 0, .int 0]))) (show r + 1 ≠ q by omega)).trans ha
  have f5_ := (mw_un (M := (mw_u M q (.inr (2, [.ref r1, .null, .int 0, .int 0])))) (e := (.inr (2, [.ref r1, .ref r, .int 0, .int 0]))) (show r + 1 ≠ q by omega)).trans f4_
  refine mj_callV X 0 gX1_init_X5_sumOfBytes rfl (by decide +kernel) ⟨by decide, by decide⟩ (c_Row_sum l D ca _ sz r cap n f f3_ f5_ hn hcap) rfl f3_ rfl rfl (Nat.le_of_ble_eq_true rfl) dX1_init_16 ⟨by decide, by decide⟩ (mk_ri (fun b2 hb2 => ?_))
  subst hb2
  have f6_ := mw_us (M := (mw_u M q (.inr (2, [.ref r1, .null, .int 0, .int 0])))) (a := q) (e := (.inr (2, [.ref r1, .ref r, .int 0, .int 0])))
  refine mj_putF X (C := RX1) (T := TX1) (N := 4) (ci := 2) (v := .int (sumN f n)) tyX1 w_Entry_init_3 tyX1_ok nmX1 rfl 2 (by decide) w_Entry_init_6 rfl f6_ [.ref r1, .ref r, .int (sumN f n), .int 0] (Nat.le_of_ble_eq_true rfl) rfl rfl rfl rfl hnm rfl dX1_init_19 ?_
  refine mj_aload_n X dX1_init_22 rfl 0 rfl ?_
  refine mj_iconst X (v := -1) dX1_init_23 (by decide +kernel) ?_
  have f7_ := mw_us (M := (mw_u (mw_u M q (.inr (2, [.ref r1, .null, .int 0, .int 0]))) q (.inr (2, [.ref r1, .ref r, .int 0, .int 0])))) (a := q) (e := (.inr (2, [.ref r1, .ref r, .int (sumN f n), .int 0])))
  refine mj_put X (C := RX1) (T := TX1) (N := 4) (ci := 2) (v := .int (-1)) tyX1 w_Entry_init_3 tyX1_ok nmX1 rfl 3 (by decide) w_Entry_init_7 rfl f7_ [.ref r1, .ref r, .int (sumN f n), .int (-1)] (Nat.le_of_ble_eq_true rfl) rfl rfl rfl rfl dX1_init_24 ?_
  refine mj_vret X hr0 (by decide) (by decide) dX1_init_27 ?_
  exact ⟨rfl, by rw [mw_uu, mw_uu, mw_uu], rfl⟩

