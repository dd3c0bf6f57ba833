theorem w_Row_size_0 : ∀ w ∈ u_ws RX5 TX5 2, w ∈ wsX5_size := by decide +kernel
theorem w_Row_size_1 : Cond.fieldLink RX5 21 "PackageRows2$Row" "count" "I" ∈ wsX5_size := by decide +kernel
set_option maxHeartbeats 4000000 in
set_option maxRecDepth 100000 in
/--  -/
theorem c_Row_size (l : Launch) (D : va_G) (ca : Nat → ClassId) (M : mw_M) (sz r cap n : Nat) (f : Nat → Int32) (hr : M r = some (.inr (5, [.ref (r + 1), .int (nI n)]))) (ha : M (r + 1) = some (.inl (ca 0, cap, .inl f))) (hn : n ≤ cap) (hcap : cap < 1000) : mw_C wsX5_size l yX5_size { frames := 0, cells := 0, slots := 0, locals := 0 } D vwCl (mt ca) [.ref r] M sz (mq_i (fun v M' sz' => M' = M ∧ sz' = sz ∧ v = nI n)) := by
  refine mw_enter (cc := cX5_size) (maxL := 1) (ret := (some .int)) rfl (by decide) (Nat.le_of_ble_eq_true rfl) ?_
  intro p e s m below meth c X hr0 hnm hlt
  refine mj_aload_n X dX5_size_0 rfl 0 rfl ?_
  refine mj_get X (C := RX5) (T := TX5) (N := 2) (ci := 5) w_Row_size_0 rfl 1 (by decide) w_Row_size_1 hr rfl dX5_size_1 ?_
  refine mj_iret X hr0 (by decide) (by decide) dX5_size_4 ?_
  exact ⟨_, rfl, rfl, rfl, rfl⟩

theorem w_Row_has_0 : ∀ w ∈ u_ws RX5 TX5 2, w ∈ wsX5_has := by decide +kernel
theorem w_Row_has_1 : Cond.fieldLink RX5 21 "PackageRows2$Row" "count" "I" ∈ wsX5_has := by decide +kernel
set_option maxHeartbeats 4000000 in
set_option maxRecDepth 100000 in
/--  -/
theorem c_Row_has (l : Launch) (D : va_G) (ca : Nat → ClassId) (M : mw_M) (sz r cap n : Nat) (f : Nat → Int32) (k : Int32) (hr : M r = some (.inr (5, [.ref (r + 1), .int (nI n)]))) (ha : M (r + 1) = some (.inl (ca 0, cap, .inl f))) (hn : n ≤ cap) (hcap : cap < 1000) : mw_C wsX5_has l yX5_has { frames := 0, cells := 0, slots := 0, locals := 0 } D vwCl (mt ca) [.ref r, .int k] M sz (mq_i (fun v M' sz' => M' = M ∧ sz' = sz ∧ ((v = 1 ∧ ∃ j, j < n ∧ k = nI j) ∨ (v = 0 ∧ ∀ j, j < n → k ≠ nI j)))) := by
  refine mw_enter (cc := cX5_has) (maxL := 2) (ret := (some .boolean)) rfl (by decide) (Nat.le_of_ble_eq_true rfl) ?_
  intro p e s m below meth c X hr0 hnm hlt
  refine mj_iload_n X dX5_has_0 rfl 1 rfl ?_
  refine mj_if_lt X 16 dX5_has_1 (by decide) (fun c1 => ?_) (fun c1 => ?_)
  · refine mj_iconst X (v := 0) dX5_has_16 (by decide +kernel) ?_
    refine mj_zret X rfl hr0 (by decide) (by decide) dX5_has_17 ?_
    exact ⟨_, rfl, rfl, rfl, Or.inr ⟨rfl, fun j hj e => absurd c1 (by rw [e]; exact nI_pos (by omega))⟩⟩
  · refine mj_iload_n X dX5_has_4 rfl 1 rfl ?_
    refine mj_aload_n X dX5_has_5 rfl 0 rfl ?_
    refine mj_get X (C := RX5) (T := TX5) (N := 2) (ci := 5) w_Row_has_0 rfl 1 (by decide) w_Row_has_1 hr rfl dX5_has_6 ?_
    refine mj_icmp_ge X 16 dX5_has_9 (by decide) (fun c9 => ?_) (fun c9 => ?_)
    · refine mj_iconst X (v := 0) dX5_has_16 (by decide +kernel) ?_
      refine mj_zret X rfl hr0 (by decide) (by decide) dX5_has_17 ?_
      exact ⟨_, rfl, rfl, rfl, Or.inr ⟨rfl, fun j hj e => absurd c9 (by rw [e]; exact nI_ge hj (by omega))⟩⟩
    · refine mj_iconst X (v := 1) dX5_has_12 (by decide +kernel) ?_
      refine mj_goto X 17 dX5_has_13 (by decide) ?_
      refine mj_zret X rfl hr0 (by decide) (by decide) dX5_has_17 ?_
      obtain ⟨j, hj, e⟩ : ∃ j, j < n ∧ k = nI j := by
        rcases pk_ix k (n := n) (by omega) with h | h | h
        · exact absurd h c1
        · exact absurd h c9
        · exact h
      exact ⟨_, rfl, rfl, rfl, Or.inl ⟨rfl, j, hj, e⟩⟩

theorem w_Row_clear_0 : ∀ w ∈ u_ws RX5 TX5 2, w ∈ wsX5_clear := by decide +kernel
theorem w_Row_clear_1 : Cond.fieldLink RX5 21 "PackageRows2$Row" "count" "I" ∈ wsX5_clear := by decide +kernel
set_option maxHeartbeats 4000000 in
set_option maxRecDepth 100000 in
/--  -/
theorem c_Row_clear (l : Launch) (D : va_G) (ca : Nat → ClassId) (M : mw_M) (sz r cap n : Nat) (f : Nat → Int32) (hr : M r = some (.inr (5, [.ref (r + 1), .int (nI n)]))) (ha : M (r + 1) = some (.inl (ca 0, cap, .inl f))) (hn : n ≤ cap) (hcap : cap < 1000) : mw_C wsX5_clear l yX5_clear { frames := 0, cells := 0, slots := 0, locals := 0 } D vwCl (mt ca) [.ref r] M sz (mq_v (fun M' sz' => M' = mw_u M r (.inr (5, [.ref (r + 1), .int (nI 0)])) ∧ sz' = sz)) := by
  refine mw_enter (cc := cX5_clear) (maxL := 1) (ret := none) rfl (by decide) (Nat.le_of_ble_eq_true rfl) ?_
  intro p e s m below meth c X hr0 hnm hlt
  refine mj_aload_n X dX5_clear_0 rfl 0 rfl ?_
  refine mj_iconst X (v := 0) dX5_clear_1 (by decide +kernel) ?_
  refine mj_put X (C := RX5) (T := TX5) (N := 2) (ci := 5) (v := .int 0) tyX5 w_Row_clear_0 tyX5_ok nmX5 rfl 1 (by decide) w_Row_clear_1 rfl hr [.ref (r + 1), .int 0] (Nat.le_of_ble_eq_true rfl) rfl rfl rfl rfl dX5_clear_2 ?_
  refine mj_vret X hr0 (by decide) (by decide) dX5_clear_5 ?_
  exact ⟨rfl, by rw [nI_0], rfl⟩

theorem w_Row_append_0 : ∀ w ∈ u_ws RX5 TX5 2, w ∈ wsX5_append := by decide +kernel
theorem w_Row_append_1 : Cond.fieldLink RX5 21 "PackageRows2$Row" "count" "I" ∈ wsX5_append := by decide +kernel
theorem w_Row_append_2 : Cond.fieldLink RX5 15 "PackageRows2$Row" "cells" "[I" ∈ wsX5_append := by decide +kernel
set_option maxHeartbeats 4000000 in
set_option maxRecDepth 100000 in
/--  -/
theorem c_Row_append (l : Launch) (D : va_G) (ca : Nat → ClassId) (M : mw_M) (sz r cap n : Nat) (f : Nat → Int32) (x : Int32) (hr : M r = some (.inr (5, [.ref (r + 1), .int (nI n)]))) (ha : M (r + 1) = some (.inl (ca 0, cap, .inl f))) (hn : n ≤ cap) (hcap : cap < 1000) : mw_C wsX5_append l yX5_append { frames := 0, cells := 0, slots := 0, locals := 0 } D vwCl (mt ca) [.ref r, .int x] M sz (mq_v (fun M' sz' => ((n < cap ∧ M' = mw_u (mw_u M (r + 1) (.inl (ca 0, cap, .inl (upd f n x)))) r (.inr (5, [.ref (r + 1), .int (nI (n + 1))]))) ∨ (n = cap ∧ M' = M)) ∧ sz' = sz)) := by
  refine mw_enter (cc := cX5_append) (maxL := 2) (ret := none) rfl (by decide) (Nat.le_of_ble_eq_true rfl) ?_
  intro p e s m below meth c X hr0 hnm hlt
  refine mj_aload_n X dX5_append_0 rfl 0 rfl ?_
  refine mj_get X (C := RX5) (T := TX5) (N := 2) (ci := 5) w_Row_append_0 rfl 1 (by decide) w_Row_append_1 hr rfl dX5_append_1 ?_
  refine mj_aload_n X dX5_append_4 rfl 0 rfl ?_
  refine mj_get X (C := RX5) (T := TX5) (N := 2) (ci := 5) w_Row_append_0 rfl 0 (by decide) w_Row_append_2 hr rfl dX5_append_5 ?_
  refine mj_alen X 0 (v := nI cap) rfl ha rfl dX5_append_8 ?_
  refine mj_icmp_ge X 32 dX5_append_9 (by decide) (fun c9 => ?_) (fun c9 => ?_)
  · refine mj_vret X hr0 (by decide) (by decide) dX5_append_32 ?_
    exact ⟨rfl, Or.inr ⟨by have h9 := (nI_leI (by omega) (by omega)).mp c9; omega, rfl⟩, rfl⟩
  · have hlt9 : n < cap := Nat.not_le.mp (fun h9 => c9 (nI_le h9 (by omega)))
    refine mj_aload_n X dX5_append_12 rfl 0 rfl ?_
    refine mj_get X (C := RX5) (T := TX5) (N := 2) (ci := 5) w_Row_append_0 rfl 0 (by decide) w_Row_append_2 hr rfl dX5_append_13 ?_
    refine mj_aload_n X dX5_append_16 rfl 0 rfl ?_
    refine mj_get X (C := RX5) (T := TX5) (N := 2) (ci := 5) w_Row_append_0 rfl 1 (by decide) w_Row_append_1 hr rfl dX5_append_17 ?_
    refine mj_iload_n X dX5_append_20 rfl 1 rfl ?_
    refine mj_iast X 0 n rfl ha (vp_in_nI (by omega) (by omega)) (nI_clamp (by omega)) dX5_append_21 ?_
    refine mj_aload_n X dX5_append_22 rfl 0 rfl ?_
    refine mj_dup X dX5_append_23 rfl ?_
    have f1_ := (mw_un (M := M) (e := (.inl (ca 0, cap, .inl (upd f n x)))) (show r ≠ r + 1 by omega)).trans hr
    refine mj_get X (C := RX5) (T := TX5) (N := 2) (ci := 5) w_Row_append_0 rfl 1 (by decide) w_Row_append_1 f1_ rfl dX5_append_24 ?_
    refine mj_iconst X (v := 1) dX5_append_27 (by decide +kernel) ?_
    refine mj_iadd X dX5_append_28 ?_
    refine mj_top (nI (n + 1)) (nI_1 n) ?_
    refine mj_put X (C := RX5) (T := TX5) (N := 2) (ci := 5) (v := .int (nI (n + 1))) tyX5 w_Row_append_0 tyX5_ok nmX5 rfl 1 (by decide) w_Row_append_1 rfl f1_ [.ref (r + 1), .int (nI (n + 1))] (Nat.le_of_ble_eq_true rfl) rfl rfl rfl rfl dX5_append_29 ?_
    refine mj_vret X hr0 (by decide) (by decide) dX5_append_32 ?_
    exact ⟨rfl, Or.inl ⟨hlt9, rfl⟩, rfl⟩

theorem w_Row_cell_0 : ∀ w ∈ u_ws RX5 TX5 2, w ∈ wsX5_cell := by decide +kernel
theorem w_Row_cell_1 : Cond.fieldLink RX5 15 "PackageRows2$Row" "cells" "[I" ∈ wsX5_cell := by decide +kernel
set_option maxHeartbeats 4000000 in
set_option maxRecDepth 100000 in
/--  -/
theorem c_Row_cell (l : Launch) (D : va_G) (ca : Nat → ClassId) (M : mw_M) (sz r cap n : Nat) (f : Nat → Int32) (k : Int32) (hr : M r = some (.inr (5, [.ref (r + 1), .int (nI n)]))) (ha : M (r + 1) = some (.inl (ca 0, cap, .inl f))) (hn : n ≤ cap) (hcap : cap < 1000) : mw_C wsX5_cell l yX5_cell { frames := 1, cells := 0, slots := 0, locals := 21 } D vwCl (mt ca) [.ref r, .int k] M sz (mq_i (fun v M' sz' => M' = M ∧ sz' = sz ∧ ((∃ j, j < n ∧ k = nI j ∧ v = f j) ∨ ((∀ j, j < n → k ≠ nI j) ∧ v = -1)))) := by
  refine mw_enter (cc := cX5_cell) (maxL := 2) (ret := (some .int)) rfl (by decide) (Nat.le_of_ble_eq_true rfl) ?_
  intro p e s m below meth c X hr0 hnm hlt
  refine mj_aload_n X dX5_cell_0 rfl 0 rfl ?_
  refine mj_iload_n X dX5_cell_1 rfl 1 rfl ?_
  refine mj_callV X 1 gX5_cell_X5_has rfl (by decide +kernel) ⟨by decide, by decide⟩ (c_Row_has l D ca M sz r cap n f k hr ha hn hcap) rfl hr rfl rfl (Nat.le_of_ble_eq_true rfl) dX5_cell_2 ⟨by decide, by decide⟩ (mk_ri (fun b2 hb2 => ?_))
  refine mj_if_eq X 17 dX5_cell_5 (by decide) (fun c5 => ?_) (fun c5 => ?_)
  · refine mj_iconst X (v := -1) dX5_cell_17 (by decide +kernel) ?_
    refine mj_iret X hr0 (by decide) (by decide) dX5_cell_18 ?_
    rcases hb2 with ⟨e1, -⟩ | ⟨-, h2⟩
    · rw [e1] at c5; exact absurd c5 (by decide)
    · exact ⟨_, rfl, rfl, rfl, Or.inr ⟨h2, rfl⟩⟩
  · obtain ⟨j, hj, ej⟩ : ∃ j, j < n ∧ k = nI j := by
      rcases hb2 with ⟨-, h2⟩ | ⟨e1, -⟩
      · exact h2
      · exact absurd e1 c5
    refine mj_aload_n X dX5_cell_8 rfl 0 rfl ?_
    refine mj_get X (C := RX5) (T := TX5) (N := 2) (ci := 5) w_Row_cell_0 rfl 0 (by decide) w_Row_cell_1 hr rfl dX5_cell_9 ?_
    refine mj_iload_n X dX5_cell_12 rfl 1 rfl ?_
    refine mj_iald X 0 (f j) rfl ha (by rw [ej]; exact vp_in_nI (by omega) (by omega)) (by rw [ej, nI_clamp (by omega)]) dX5_cell_13 ?_
    refine mj_goto X 18 dX5_cell_14 (by decide) ?_
    refine mj_iret X hr0 (by decide) (by decide) dX5_cell_18 ?_
    exact ⟨_, rfl, rfl, rfl, Or.inl ⟨j, hj, ej, rfl⟩⟩

theorem w_Row_sum_0 : ∀ w ∈ u_ws RX5 TX5 2, w ∈ wsX5_sumOfBytes := by decide +kernel
theorem w_Row_sum_1 : Cond.fieldLink RX5 21 "PackageRows2$Row" "count" "I" ∈ wsX5_sumOfBytes := by decide +kernel
theorem w_Row_sum_2 : Jvm.Cond.constant RX5 35 (65599) ∈ wsX5_sumOfBytes := by decide +kernel
theorem w_Row_sum_3 : Cond.fieldLink RX5 15 "PackageRows2$Row" "cells" "[I" ∈ wsX5_sumOfBytes := by decide +kernel
set_option maxHeartbeats 4000000 in
set_option maxRecDepth 100000 in
theorem lp_Row_sum_4 {l : Launch} {D : va_G} {ca : Nat → ClassId} (M : mw_M) (sz r cap n : Nat) (f : Nat → Int32) (hr : M r = some (.inr (5, [.ref (r + 1), .int (nI n)]))) (ha : M (r + 1) = some (.inl (ca 0, cap, .inl f))) (hn : n ≤ cap) (hcap : cap < 1000) {p : Program} {e : Env} {s : State} {m : MethodId} {below : List Frame} {meth : Method} {c : Code} (X : mw_X p s m ([.ref r] : List Value).toArray meth c cX5_sumOfBytes 3 yX5_sumOfBytes.cls wsX5_sumOfBytes D vwCl (mt ca)) (hr0 : meth.sig.returnType = (some .int)) (hnm : meth.name = yX5_sumOfBytes.name) (hlt : ∀ (a : Nat) (x : va_E), M a = some x → a < sz) : ∀ (fu : Nat) (i : Nat), i ≤ n → n < i + fu → mw_J p l e { frames := 0, cells := 0, slots := 0, locals := 0 } s m ([.ref r] : List Value).toArray below meth c 3 D vwCl (mw_A M sz) (MQ below (mw_Q D vwCl M sz (mq_i (fun v M' sz' => M' = M ∧ sz' = sz ∧ v = sumN f n))) ([.ref r] : List Value).toArray s 0 0 (mw_A M sz)) 4 [(0, .ref r), (1, .int (sumN f i)), (2, .int (nI i))] [] M sz 0 0 := by
  intro fu
  induction fu with
  | zero => intro i h1 h2; omega
  | succ fu ih =>
    intro i hi hfu
    refine mj_iload_n X dX5_sumOfBytes_4 rfl 2 rfl ?_
    refine mj_aload_n X dX5_sumOfBytes_5 rfl 0 rfl ?_
    refine mj_get X (C := RX5) (T := TX5) (N := 2) (ci := 5) w_Row_sum_0 rfl 1 (by decide) w_Row_sum_1 hr rfl dX5_sumOfBytes_6 ?_
    refine mj_icmp_ge X 30 dX5_sumOfBytes_9 (by decide) (fun c9 => ?_) (fun c9 => ?_)
    · refine mj_iload_n X dX5_sumOfBytes_30 rfl 1 rfl ?_
      refine mj_iret X hr0 (by decide) (by decide) dX5_sumOfBytes_31 ?_
      exact ⟨_, rfl, rfl, rfl, by rw [show i = n by have h9 := (nI_leI (by omega) (by omega)).mp c9; omega]⟩
    · have hlt9 : i < n := Nat.not_le.mp (fun h9 => c9 (nI_le h9 (by omega)))
      refine mj_ldc X (v := 65599) w_Row_sum_2 dX5_sumOfBytes_12 ?_
      refine mj_iload_n X dX5_sumOfBytes_14 rfl 1 rfl ?_
      refine mj_imul X dX5_sumOfBytes_15 ?_
      refine mj_aload_n X dX5_sumOfBytes_16 rfl 0 rfl ?_
      refine mj_get X (C := RX5) (T := TX5) (N := 2) (ci := 5) w_Row_sum_0 rfl 0 (by decide) w_Row_sum_3 hr rfl dX5_sumOfBytes_17 ?_
      refine mj_iload_n X dX5_sumOfBytes_20 rfl 2 rfl ?_
      refine mj_iald X 0 (f i) rfl ha (vp_in_nI (by omega) (by omega)) (by rw [nI_clamp (by omega)]) dX5_sumOfBytes_21 ?_
      refine mj_iadd X dX5_sumOfBytes_22 ?_
      refine mj_top (sumN f (i + 1)) rfl ?_
      refine mj_istore_n X [(1, .int (sumN f (i + 1))), (0, .ref r), (2, .int (nI i))] dX5_sumOfBytes_23 rfl (by decide) rfl ?_
      refine mj_iinc X [(2, .int (nI (i + 1))), (1, .int (sumN f (i + 1))), (0, .ref r)] dX5_sumOfBytes_24 2 rfl (nI_1 i) (by decide) rfl ?_
      refine mj_goto X 4 dX5_sumOfBytes_27 (by decide) ?_
      refine mj_sub [2, 1, 0] rfl ?_
      exact ih (i + 1) hlt9 (by omega)
set_option maxHeartbeats 4000000 in
set_option maxRecDepth 100000 in
/--  -/
theorem c_Row_sum (l : Launch) (D : va_G) (ca : Nat → ClassId) (M : mw_M) (sz r cap n : Nat) (f : Nat → Int32) (hr : M r = some (.inr (5, [.ref (r + 1), .int (nI n)]))) (ha : M (r + 1) = some (.inl (ca 0, cap, .inl f))) (hn : n ≤ cap) (hcap : cap < 1000) : mw_C wsX5_sumOfBytes l yX5_sumOfBytes { frames := 0, cells := 0, slots := 0, locals := 0 } D vwCl (mt ca) [.ref r] M sz (mq_i (fun v M' sz' => M' = M ∧ sz' = sz ∧ v = sumN f n)) := by
  refine mw_enter (cc := cX5_sumOfBytes) (maxL := 3) (ret := (some .int)) rfl (by decide) (Nat.le_of_ble_eq_true rfl) ?_
  intro p e s m below meth c X hr0 hnm hlt
  refine mj_iconst X (v := 1) dX5_sumOfBytes_0 (by decide +kernel) ?_
  refine mj_istore_n X [(1, .int 1), (0, .ref r)] dX5_sumOfBytes_1 rfl (by decide) rfl ?_
  refine mj_iconst X (v := 0) dX5_sumOfBytes_2 (by decide +kernel) ?_
  refine mj_istore_n X [(2, .int 0), (1, .int 1), (0, .ref r)] dX5_sumOfBytes_3 rfl (by decide) rfl ?_
  refine mj_sub [2, 1, 0] rfl ?_
  exact lp_Row_sum_4 (l := l) (D := D) (ca := ca) M sz r cap n f hr ha hn hcap X hr0 hnm hlt (n + 1) 0 (by omega) (by omega)

theorem w_Row_order_0 : ∀ w ∈ u_ws RX5 TX5 2, w ∈ wsX5_order := by decide +kernel
theorem w_Row_order_1 : Cond.fieldLink RX5 21 "PackageRows2$Row" "count" "I" ∈ wsX5_order := by decide +kernel
theorem w_Row_order_2 : Cond.fieldLink RX5 15 "PackageRows2$Row" "cells" "[I" ∈ wsX5_order := by decide +kernel
set_option maxHeartbeats 4000000 in
set_option maxRecDepth 100000 in
theorem lp_Row_order_2 {l : Launch} {D : va_G} {ca : Nat → ClassId} (M : mw_M) (sz r cap n : Nat) (f : Nat → Int32) (r2 cap2 m2 : Nat) (g : Nat → Int32) (hr : M r = some (.inr (5, [.ref (r + 1), .int (nI n)]))) (ha : M (r + 1) = some (.inl (ca 0, cap, .inl f))) (hn : n ≤ cap) (hcap : cap < 1000) (hr2 : M r2 = some (.inr (5, [.ref (r2 + 1), .int (nI m2)]))) (ha2 : M (r2 + 1) = some (.inl (ca 0, cap2, .inl g))) (hn2 : m2 ≤ cap2) (hcap2 : cap2 < 1000) {p : Program} {e : Env} {s : State} {m : MethodId} {below : List Frame} {meth : Method} {c : Code} (X : mw_X p s m ([.ref r, .ref r2] : List Value).toArray meth c cX5_order 3 yX5_order.cls wsX5_order D vwCl (mt ca)) (hr0 : meth.sig.returnType = (some .int)) (hnm : meth.name = yX5_order.name) (hlt : ∀ (a : Nat) (x : va_E), M a = some x → a < sz) : ∀ (fu : Nat) (i : Nat), i ≤ n → n < i + fu → i ≤ m2 → (∀ j, j < i → f j = g j) → mw_J p l e { frames := 0, cells := 0, slots := 0, locals := 0 } s m ([.ref r, .ref r2] : List Value).toArray below meth c 3 D vwCl (mw_A M sz) (MQ below (mw_Q D vwCl M sz (mq_i (fun v M' sz' => M' = M ∧ sz' = sz ∧ ((∃ k, k < n ∧ k < m2 ∧ (∀ j, j < k → f j = g j) ∧ f k ≠ g k ∧ v = f k - g k) ∨ ((∀ j, j < n → j < m2 → f j = g j) ∧ v = nI n - nI m2))))) ([.ref r, .ref r2] : List Value).toArray s 0 0 (mw_A M sz)) 2 [(0, .ref r), (1, .ref r2), (2, .int (nI i))] [] M sz 0 0 := by
  intro fu
  induction fu with
  | zero => intro i h1 h2; omega
  | succ fu ih =>
    intro i hi hfu him hall
    refine mj_iload_n X dX5_order_2 rfl 2 rfl ?_
    refine mj_aload_n X dX5_order_3 rfl 0 rfl ?_
    refine mj_get X (C := RX5) (T := TX5) (N := 2) (ci := 5) w_Row_order_0 rfl 1 (by decide) w_Row_order_1 hr rfl dX5_order_4 ?_
    refine mj_icmp_ge X 53 dX5_order_7 (by decide) (fun c7 => ?_) (fun c7 => ?_)
    · refine mj_aload_n X dX5_order_53 rfl 0 rfl ?_
      refine mj_get X (C := RX5) (T := TX5) (N := 2) (ci := 5) w_Row_order_0 rfl 1 (by decide) w_Row_order_1 hr rfl dX5_order_54 ?_
      refine mj_aload_n X dX5_order_57 rfl 1 rfl ?_
      refine mj_get X (C := RX5) (T := TX5) (N := 2) (ci := 5) w_Row_order_0 rfl 1 (by decide) w_Row_order_1 hr2 rfl dX5_order_58 ?_
      refine mj_isub X dX5_order_61 ?_
      refine mj_iret X hr0 (by decide) (by decide) dX5_order_62 ?_
      exact ⟨_, rfl, rfl, rfl, Or.inr ⟨fun j h1 h2 => hall j (by have h9 := (nI_leI (by omega) (by omega)).mp c7; omega), rfl⟩⟩
    · have hlt7 : i < n := Nat.not_le.mp (fun h9 => c7 (nI_le h9 (by omega)))
      refine mj_iload_n X dX5_order_10 rfl 2 rfl ?_
      refine mj_aload_n X dX5_order_11 rfl 1 rfl ?_
      refine mj_get X (C := RX5) (T := TX5) (N := 2) (ci := 5) w_Row_order_0 rfl 1 (by decide) w_Row_order_1 hr2 rfl dX5_order_12 ?_
      refine mj_icmp_ge X 53 dX5_order_15 (by decide) (fun c15 => ?_) (fun c15 => ?_)
      · refine mj_aload_n X dX5_order_53 rfl 0 rfl ?_
        refine mj_get X (C := RX5) (T := TX5) (N := 2) (ci := 5) w_Row_order_0 rfl 1 (by decide) w_Row_order_1 hr rfl dX5_order_54 ?_
        refine mj_aload_n X dX5_order_57 rfl 1 rfl ?_
        refine mj_get X (C := RX5) (T := TX5) (N := 2) (ci := 5) w_Row_order_0 rfl 1 (by decide) w_Row_order_1 hr2 rfl dX5_order_58 ?_
        refine mj_isub X dX5_order_61 ?_
        refine mj_iret X hr0 (by decide) (by decide) dX5_order_62 ?_
        exact ⟨_, rfl, rfl, rfl, Or.inr ⟨fun j h1 h2 => hall j (by have h9 := (nI_leI (by omega) (by omega)).mp c15; omega), rfl⟩⟩
      · have hlt15 : i < m2 := Nat.not_le.mp (fun h9 => c15 (nI_le h9 (by omega)))
        refine mj_aload_n X dX5_order_18 rfl 0 rfl ?_
        refine mj_get X (C := RX5) (T := TX5) (N := 2) (ci := 5) w_Row_order_0 rfl 0 (by decide) w_Row_order_2 hr rfl dX5_order_19 ?_
        refine mj_iload_n X dX5_order_22 rfl 2 rfl ?_
        refine mj_iald X 0 (f i) rfl ha (vp_in_nI (by omega) (by omega)) (by rw [nI_clamp (by omega)]) dX5_order_23 ?_
        refine mj_aload_n X dX5_order_24 rfl 1 rfl ?_
        refine mj_get X (C := RX5) (T := TX5) (N := 2) (ci := 5) w_Row_order_0 rfl 0 (by decide) w_Row_order_2 hr2 rfl dX5_order_25 ?_
        refine mj_iload_n X dX5_order_28 rfl 2 rfl ?_
        refine mj_iald X 0 (g i) rfl ha2 (vp_in_nI (by omega) (by omega)) (by rw [nI_clamp (by omega)]) dX5_order_29 ?_
        refine mj_icmp_eq X 47 dX5_order_30 (by decide) (fun c30 => ?_) (fun c30 => ?_)
        · refine mj_iinc X [(2, .int (nI (i + 1))), (0, .ref r), (1, .ref r2)] dX5_order_47 2 rfl (nI_1 i) (by decide) rfl ?_
          refine mj_goto X 2 dX5_order_50 (by decide) ?_
          refine mj_sub [1, 2, 0] rfl ?_
          exact ih (i + 1) hlt7 (by omega) hlt15 (lt_s hall c30)
        · refine mj_aload_n X dX5_order_33 rfl 0 rfl ?_
          refine mj_get X (C := RX5) (T := TX5) (N := 2) (ci := 5) w_Row_order_0 rfl 0 (by decide) w_Row_order_2 hr rfl dX5_order_34 ?_
          refine mj_iload_n X dX5_order_37 rfl 2 rfl ?_
          refine mj_iald X 0 (f i) rfl ha (vp_in_nI (by omega) (by omega)) (by rw [nI_clamp (by omega)]) dX5_order_38 ?_
          refine mj_aload_n X dX5_order_39 rfl 1 rfl ?_
          refine mj_get X (C := RX5) (T := TX5) (N := 2) (ci := 5) w_Row_order_0 rfl 0 (by decide) w_Row_order_2 hr2 rfl dX5_order_40 ?_
          refine mj_iload_n X dX5_order_43 rfl 2 rfl ?_
          refine mj_iald X 0 (g i) rfl ha2 (vp_in_nI (by omega) (by omega)) (by rw [nI_clamp (by omega)]) dX5_order_44 ?_
          refine mj_isub X dX5_order_45 ?_
          refine mj_iret X hr0 (by decide) (by decide) dX5_order_46 ?_
          exact ⟨_, rfl, rfl, rfl, Or.inl ⟨i, hlt7, hlt15, hall, c30, rfl⟩⟩
set_option maxHeartbeats 4000000 in
set_option maxRecDepth 100000 in
/--  -/
theorem c_Row_order (l : Launch) (D : va_G) (ca : Nat → ClassId) (M : mw_M) (sz r cap n : Nat) (f : Nat → Int32) (r2 cap2 m2 : Nat) (g : Nat → Int32) (hr : M r = some (.inr (5, [.ref (r + 1), .int (nI n)]))) (ha : M (r + 1) = some (.inl (ca 0, cap, .inl f))) (hn : n ≤ cap) (hcap : cap < 1000) (hr2 : M r2 = some (.inr (5, [.ref (r2 + 1), .int (nI m2)]))) (ha2 : M (r2 + 1) = some (.inl (ca 0, cap2, .inl g))) (hn2 : m2 ≤ cap2) (hcap2 : cap2 < 1000) : mw_C wsX5_order l yX5_order { frames := 0, cells := 0, slots := 0, locals := 0 } D vwCl (mt ca) [.ref r, .ref r2] M sz (mq_i (fun v M' sz' => M' = M ∧ sz' = sz ∧ ((∃ k, k < n ∧ k < m2 ∧ (∀ j, j < k → f j = g j) ∧ f k ≠ g k ∧ v = f k - g k) ∨ ((∀ j, j < n → j < m2 → f j = g j) ∧ v = nI n - nI m2)))) := by
  refine mw_enter (cc := cX5_order) (maxL := 3) (ret := (some .int)) rfl (by decide) (Nat.le_of_ble_eq_true rfl) ?_
  intro p e s m below meth c X hr0 hnm hlt
  refine mj_iconst X (v := 0) dX5_order_0 (by decide +kernel) ?_
  refine mj_istore_n X [(2, .int 0), (0, .ref r), (1, .ref r2)] dX5_order_1 rfl (by decide) rfl ?_
  refine mj_sub [1, 2, 0] rfl ?_
  exact lp_Row_order_2 (l := l) (D := D) (ca := ca) M sz r cap n f r2 cap2 m2 g hr ha hn hcap hr2 ha2 hn2 hcap2 X hr0 hnm hlt (n + 1) 0 (by omega) (by omega) (by omega) (fun j hj => absurd hj (by omega))

theorem w_Row_alike_0 : ∀ w ∈ u_ws RX5 TX5 2, w ∈ wsX5_alike := by decide +kernel
theorem w_Row_alike_1 : Cond.fieldLink RX5 21 "PackageRows2$Row" "count" "I" ∈ wsX5_alike := by decide +kernel
set_option maxHeartbeats 4000000 in
set_option maxRecDepth 100000 in
/--  -/
theorem c_Row_alike (l : Launch) (D : va_G) (ca : Nat → ClassId) (M : mw_M) (sz r cap n : Nat) (f : Nat → Int32) (r2 cap2 m2 : Nat) (g : Nat → Int32) (hr : M r = some (.inr (5, [.ref (r + 1), .int (nI n)]))) (ha : M (r + 1) = some (.inl (ca 0, cap, .inl f))) (hn : n ≤ cap) (hcap : cap < 1000) (hr2 : M r2 = some (.inr (5, [.ref (r2 + 1), .int (nI m2)]))) (ha2 : M (r2 + 1) = some (.inl (ca 0, cap2, .inl g))) (hn2 : m2 ≤ cap2) (hcap2 : cap2 < 1000) : mw_C wsX5_alike l yX5_alike { frames := 1, cells := 0, slots := 0, locals := 22 } D vwCl (mt ca) [.ref r, .ref r2] M sz (mq_i (fun v M' sz' => M' = M ∧ sz' = sz ∧ ((v = 1 ∧ n = m2 ∧ ∀ j, j < n → f j = g j) ∨ (v = 0 ∧ ¬ (n = m2 ∧ ∀ j, j < n → f j = g j))))) := by
  refine mw_enter (cc := cX5_alike) (maxL := 2) (ret := (some .boolean)) rfl (by decide) (Nat.le_of_ble_eq_true rfl) ?_
  intro p e s m below meth c X hr0 hnm hlt
  refine mj_aload_n X dX5_alike_0 rfl 0 rfl ?_
  refine mj_get X (C := RX5) (T := TX5) (N := 2) (ci := 5) w_Row_alike_0 rfl 1 (by decide) w_Row_alike_1 hr rfl dX5_alike_1 ?_
  refine mj_aload_n X dX5_alike_4 rfl 1 rfl ?_
  refine mj_get X (C := RX5) (T := TX5) (N := 2) (ci := 5) w_Row_alike_0 rfl 1 (by decide) w_Row_alike_1 hr2 rfl dX5_alike_5 ?_
  refine mj_icmp_ne X 23 dX5_alike_8 (by decide) (fun c8 => ?_) (fun c8 => ?_)
  · refine mj_iconst X (v := 0) dX5_alike_23 (by decide +kernel) ?_
    refine mj_zret X rfl hr0 (by decide) (by decide) dX5_alike_24 ?_
    exact ⟨_, rfl, rfl, rfl, Or.inr ⟨rfl, fun h9 => c8 (by rw [h9.1])⟩⟩
  · refine mj_aload_n X dX5_alike_11 rfl 0 rfl ?_
    refine mj_aload_n X dX5_alike_12 rfl 1 rfl ?_
    refine mj_callV X 1 gX5_alike_X5_order rfl (by decide +kernel) ⟨by decide, by decide⟩ (c_Row_order l D ca M sz r cap n f r2 cap2 m2 g hr ha hn hcap hr2 ha2 hn2 hcap2) rfl hr rfl rfl (Nat.le_of_ble_eq_true rfl) dX5_alike_13 ⟨by decide, by decide⟩ (mk_ri (fun b2 hb2 => ?_))
    refine mj_if_ne X 23 dX5_alike_16 (by decide) (fun c16 => ?_) (fun c16 => ?_)
    · refine mj_iconst X (v := 0) dX5_alike_23 (by decide +kernel) ?_
      refine mj_zret X rfl hr0 (by decide) (by decide) dX5_alike_24 ?_
      refine ⟨_, rfl, rfl, rfl, Or.inr ⟨rfl, fun h9 => ?_⟩⟩
      rcases hb2 with ⟨k, h1, h2, -, h3, -⟩ | ⟨-, h3⟩
      · exact h3 (h9.2 k h1)
      · exact c16 (by rw [h3, ← h9.1]; exact Int32.sub_self _)
    · refine mj_iconst X (v := 1) dX5_alike_19 (by decide +kernel) ?_
      refine mj_goto X 24 dX5_alike_20 (by decide) ?_
      refine mj_zret X rfl hr0 (by decide) (by decide) dX5_alike_24 ?_
      have hnm2 : n = m2 := (nI_eq (by omega) (by omega)).mp c8
      refine ⟨_, rfl, rfl, rfl, Or.inl ⟨rfl, hnm2, fun j hj => ?_⟩⟩
      rcases hb2 with ⟨k, -, -, -, h3, h4⟩ | ⟨h3, -⟩
      · exact absurd (i32_sub0 (h4.symm.trans c16)) h3
      · exact h3 j hj (by omega)

theorem w_Row_init_0 : Cond.methodLink RX5 3 Lib.objectInit ∈ wsX5_init := by decide +kernel
theorem w_Row_init_1 : Cond.instanceMethod Lib.objectInit ∈ wsX5_init := by decide +kernel
theorem w_Row_init_2 : Cond.code Lib.objectInit ⟨#[0xb1]⟩ 1 none ∈ wsX5_init := by decide +kernel
theorem w_Row_init_3 : Cond.methodLink RX5 9 Lib.Math.max.name ∈ wsX5_init := by decide +kernel
theorem w_Row_init_4 : Cond.static Lib.Math.max.name ∈ wsX5_init := by decide +kernel
theorem w_Row_init_5 : Cond.initialized "java/lang/Math" ∈ wsX5_init := by decide +kernel
theorem w_Row_init_6 : Cond.code Lib.Math.max.name Lib.Math.max.code 2 (some .int) ∈ wsX5_init := by decide +kernel
theorem w_Row_init_7 : Cond.arrayClass .int ∈ wsX5_init := by decide +kernel
theorem w_Row_init_8 : ∀ w ∈ u_ws RX5 TX5 2, w ∈ wsX5_init := by decide +kernel
theorem w_Row_init_9 : Cond.fieldLink RX5 15 "PackageRows2$Row" "cells" "[I" ∈ wsX5_init := by decide +kernel
theorem w_Row_init_10 : Cond.fieldLink RX5 21 "PackageRows2$Row" "count" "I" ∈ wsX5_init := by decide +kernel
set_option maxHeartbeats 4000000 in
set_option maxRecDepth 100000 in
/--  -/
theorem c_Row_init (l : Launch) (D : va_G) (ca : Nat → ClassId) (M : mw_M) (r k : Nat) (hr : M r = some (.inr (5, [.null, .int 0]))) (hk : k ≤ 40) : mw_C wsX5_init l yX5_init { frames := 1, cells := 1, slots := 40, locals := 16 } D vwCl (mt ca) [.ref r, .int (nI k)] M (r + 1) (mq_v (fun M' sz' => M' = mw_u (mw_u M (r + 1) (.inl (ca 0, k, .inl (fun _ => 0)))) r (.inr (5, [.ref (r + 1), .int (nI 0)])) ∧ sz' = r + 2)) := by
  refine mw_enter (cc := cX5_init) (maxL := 2) (ret := none) rfl (by decide) (Nat.le_of_ble_eq_true rfl) ?_
  intro p e s m below meth c X hr0 hnm hlt
  refine mj_aload_n X dX5_init_0 rfl 0 rfl ?_
  refine mj_objInit X w_Row_init_0 w_Row_init_1 w_Row_init_2 dX5_init_1 (by decide) (Nat.le_of_ble_eq_true rfl) ?_
  refine mj_aload_n X dX5_init_4 rfl 0 rfl ?_
  refine mj_iconst X (v := 0) dX5_init_5 (by decide +kernel) ?_
  refine mj_iload_n X dX5_init_6 rfl 1 rfl ?_
  refine mj_mmax X w_Row_init_3 w_Row_init_4 w_Row_init_5 w_Row_init_6 (by decide) (Nat.le_of_ble_eq_true rfl) (by decide) (by decide) dX5_init_7 ?_
  refine mj_top (nI k) (i32_max0 (by omega)) ?_
  refine mj_newa X (atype := .int) 0 k (k, .inl (fun _ => 0)) rfl rfl (fun _ h9 => h9) w_Row_init_7 (fun _ => rfl) (nI_pos (by omega)) (nI_clamp (by omega)) (by show k * 4 ≤ 536870912; omega) (by decide) (by show 0 + k ≤ 40; omega) dX5_init_10 ?_
  have f1_ := (mw_un (M := M) (e := (.inl (ca 0, k, .inl (fun _ => 0)))) (show r ≠ r + 1 by omega)).trans hr
  refine mj_putF X (C := RX5) (T := TX5) (N := 2) (ci := 5) (v := .ref (r + 1)) tyX5 w_Row_init_8 tyX5_ok nmX5 rfl 0 (by decide) w_Row_init_9 rfl f1_ [.ref (r + 1), .int 0] (Nat.le_of_ble_eq_true rfl) rfl rfl rfl rfl hnm rfl dX5_init_12 ?_
  refine mj_aload_n X dX5_init_15 rfl 0 rfl ?_
  refine mj_iconst X (v := 0) dX5_init_16 (by decide +kernel) ?_
  have f2_ := mw_us (M := (mw_u M (r + 1) (.inl (ca 0, k, .inl (fun _ => 0))))) (a := r) (e := (.inr (5, [.ref (r + 1), .int 0])))
  refine mj_put X (C := RX5) (T := TX5) (N := 2) (ci := 5) (v := .int 0) tyX5 w_Row_init_8 tyX5_ok nmX5 rfl 1 (by decide) w_Row_init_10 rfl f2_ [.ref (r + 1), .int 0] (Nat.le_of_ble_eq_true rfl) rfl rfl rfl rfl dX5_init_17 ?_
  refine mj_vret X hr0 (by decide) (by show 0 + k ≤ 40; omega) dX5_init_20 ?_
  exact ⟨rfl, by rw [mw_uu, nI_0], rfl⟩

theorem w_Row_copy_0 : ∀ w ∈ u_ws RX5 TX5 2, w ∈ wsX5_copy := by decide +kernel
theorem w_Row_copy_1 : Cond.fieldLink RX5 21 "PackageRows2$Row" "count" "I" ∈ wsX5_copy := by decide +kernel
theorem w_Row_copy_2 : Cond.fieldLink RX5 15 "PackageRows2$Row" "cells" "[I" ∈ wsX5_copy := by decide +kernel
theorem w_Row_copy_3 : Cond.classLink RX5 16 RX5 ∈ wsX5_copy := by decide +kernel
theorem w_Row_copy_4 : Cond.instantiable RX5 2 ∈ wsX5_copy := by decide +kernel
theorem w_Row_copy_5 : Cond.initialized RX5 ∈ wsX5_copy := by decide +kernel
theorem w_Row_copy_6 : Cond.initialized yX5_init.cls ∈ wsX5_copy := by decide +kernel
theorem w_Row_copy_7 : Cond.methodLink RX5 29 yX5_init ∈ wsX5_copy := by decide +kernel
theorem w_Row_copy_8 : Cond.instanceMethod yX5_init ∈ wsX5_copy := by decide +kernel
set_option maxHeartbeats 4000000 in
set_option maxRecDepth 100000 in
theorem lp_Row_copy_14 {l : Launch} {D : va_G} {ca : Nat → ClassId} (M : mw_M) (sz r cap n : Nat) (f : Nat → Int32) (hr : M r = some (.inr (5, [.ref (r + 1), .int (nI n)]))) (ha : M (r + 1) = some (.inl (ca 0, cap, .inl f))) (hn : n ≤ cap) (hcap : cap < 1000) (h40 : n ≤ 40) {p : Program} {e : Env} {s : State} {m : MethodId} {below : List Frame} {meth : Method} {c : Code} (X : mw_X p s m ([.ref r] : List Value).toArray meth c cX5_copy 3 yX5_copy.cls wsX5_copy D vwCl (mt ca)) (hr0 : meth.sig.returnType = (some (.object "PackageRows2$Row"))) (hnm : meth.name = yX5_copy.name) (hlt : ∀ (a : Nat) (x : va_E), M a = some x → a < sz) : ∀ (fu : Nat) (i : Nat), i ≤ n → n < i + fu → mw_J p l e { frames := 2, cells := 2, slots := 42, locals := 37 } s m ([.ref r] : List Value).toArray below meth c 3 D vwCl (mw_A M sz) (MQ below (mw_Q D vwCl M sz (mq_q (fun o M' sz' => o = some sz ∧ M' = mw_u (mw_u M (sz + 1) (.inl (ca 0, n, .inl (cut f n)))) sz (.inr (5, [.ref (sz + 1), .int (nI n)])) ∧ sz' = sz + 2))) ([.ref r] : List Value).toArray s 2 42 (mw_A M sz)) 14 [(0, .ref r), (1, .ref sz), (2, .int (nI i))] [] (mw_u (mw_u M (sz + 1) (.inl (ca 0, n, .inl (cut f i)))) sz (.inr (5, [.ref (sz + 1), .int (nI i)]))) (sz + 2) 2 42 := by
  intro fu
  induction fu with
  | zero => intro i h1 h2; omega
  | succ fu ih =>
    intro i hi hfu
    have hl1 := hlt _ _ hr
    have hl2 := hlt _ _ ha
    refine mj_iload_n X dX5_copy_14 rfl 2 rfl ?_
    refine mj_aload_n X dX5_copy_15 rfl 0 rfl ?_
    have f1_ := (mw_un (M := M) (e := (.inl (ca 0, n, .inl (cut f i)))) (show r ≠ sz + 1 by omega)).trans hr
    have f2_ := (mw_un (M := (mw_u M (sz + 1) (.inl (ca 0, n, .inl (cut f i))))) (e := (.inr (5, [.ref (sz + 1), .int (nI i)]))) (show r ≠ sz by omega)).trans f1_
    refine mj_get X (C := RX5) (T := TX5) (N := 2) (ci := 5) w_Row_copy_0 rfl 1 (by decide) w_Row_copy_1 f2_ rfl dX5_copy_16 ?_
    refine mj_icmp_ge X 38 dX5_copy_19 (by decide) (fun c19 => ?_) (fun c19 => ?_)
    · refine mj_aload_n X dX5_copy_38 rfl 1 rfl ?_
      refine mj_aret X (Or.inr ⟨_, rfl⟩) hr0 (by decide) (by decide) dX5_copy_39 ?_
      have e9 : i = n := by have h9 := (nI_leI (by omega) (by omega)).mp c19; omega
      exact ⟨some sz, rfl, rfl, by rw [e9], rfl⟩
    · have hlt19 : i < n := Nat.not_le.mp (fun h9 => c19 (nI_le h9 (by omega)))
      refine mj_aload_n X dX5_copy_22 rfl 1 rfl ?_
      refine mj_aload_n X dX5_copy_23 rfl 0 rfl ?_
      refine mj_get X (C := RX5) (T := TX5) (N := 2) (ci := 5) w_Row_copy_0 rfl 0 (by decide) w_Row_copy_2 f2_ rfl dX5_copy_24 ?_
      refine mj_iload_n X dX5_copy_27 rfl 2 rfl ?_
      have f3_ := (mw_un (M := M) (e := (.inl (ca 0, n, .inl (cut f i)))) (show r + 1 ≠ sz + 1 by omega)).trans ha
      have f4_ := (mw_un (M := (mw_u M (sz + 1) (.inl (ca 0, n, .inl (cut f i))))) (e := (.inr (5, [.ref (sz + 1), .int (nI i)]))) (show r + 1 ≠ sz by omega)).trans f3_
      refine mj_iald X 0 (f i) rfl f4_ (vp_in_nI (by omega) (by omega)) (by rw [nI_clamp (by omega)]) dX5_copy_28 ?_
      have f5_ := mw_us (M := (mw_u M (sz + 1) (.inl (ca 0, n, .inl (cut f i))))) (a := sz) (e := (.inr (5, [.ref (sz + 1), .int (nI i)])))
      have f6_ := mw_us (M := M) (a := (sz + 1)) (e := (.inl (ca 0, n, .inl (cut f i))))
      have f7_ := (mw_un (M := (mw_u M (sz + 1) (.inl (ca 0, n, .inl (cut f i))))) (e := (.inr (5, [.ref (sz + 1), .int (nI i)]))) (show sz + 1 ≠ sz by omega)).trans f6_
      refine mj_callV X 1 gX5_copy_X5_append rfl (by decide +kernel) ⟨by decide, by decide⟩ (c_Row_append l D ca _ (sz + 2) sz n i (cut f i) (f i) f5_ f7_ (by omega) (by omega)) rfl f5_ rfl rfl (Nat.le_of_ble_eq_true rfl) dX5_copy_29 ⟨by decide, by decide⟩ (mk_v (fun M9 sz9 h9 => ?_))
      obtain ⟨h9, e9⟩ := h9
      replace h9 : M9 = mw_u (mw_u M (sz + 1) (.inl (ca 0, n, .inl (cut f (i + 1))))) sz (.inr (5, [.ref (sz + 1), .int (nI (i + 1))])) := by
        rcases h9 with ⟨-, h9⟩ | ⟨h9, -⟩
        · rw [h9, mw_4 (by omega), cut_s]
        · omega
      refine mj_to rfl rfl h9 e9 ?_
      refine mj_iinc X [(2, .int (nI (i + 1))), (0, .ref r), (1, .ref sz)] dX5_copy_32 2 rfl (nI_1 i) (by decide) rfl ?_
      refine mj_goto X 14 dX5_copy_35 (by decide) ?_
      refine mj_sub [1, 2, 0] rfl ?_
      exact ih (i + 1) hlt19 (by omega)
set_option maxHeartbeats 4000000 in
set_option maxRecDepth 100000 in
/--  -/
theorem c_Row_copy (l : Launch) (D : va_G) (ca : Nat → ClassId) (M : mw_M) (sz r cap n : Nat) (f : Nat → Int32) (hr : M r = some (.inr (5, [.ref (r + 1), .int (nI n)]))) (ha : M (r + 1) = some (.inl (ca 0, cap, .inl f))) (hn : n ≤ cap) (hcap : cap < 1000) (h40 : n ≤ 40) : mw_C wsX5_copy l yX5_copy { frames := 2, cells := 2, slots := 42, locals := 37 } D vwCl (mt ca) [.ref r] M sz (mq_q (fun o M' sz' => o = some sz ∧ M' = mw_u (mw_u M (sz + 1) (.inl (ca 0, n, .inl (cut f n)))) sz (.inr (5, [.ref (sz + 1), .int (nI n)])) ∧ sz' = sz + 2)) := by
  refine mw_enter (cc := cX5_copy) (maxL := 3) (ret := (some (.object "PackageRows2$Row"))) rfl (by decide) (Nat.le_of_ble_eq_true rfl) ?_
  intro p e s m below meth c X hr0 hnm hlt
  have hl1 := hlt _ _ hr
  have hl2 := hlt _ _ ha
  refine mj_new X (C := RX5) (T := TX5) (N := 2) (ci := 5) [.null, .int 0] tyX5 w_Row_copy_0 tyX5_ok rfl (by intro j hj; rcases (show j = 0 ∨ j = 1 by omega) with rfl | rfl <;> rfl) w_Row_copy_3 w_Row_copy_4 w_Row_copy_5 (by decide) (by decide) dX5_copy_0 ?_
  refine mj_dup X dX5_copy_3 rfl ?_
  refine mj_aload_n X dX5_copy_4 rfl 0 rfl ?_
  have f8_ := (mw_un (M := M) (e := (.inr (5, [.null, .int 0]))) (show r ≠ sz by omega)).trans hr
  refine mj_get X (C := RX5) (T := TX5) (N := 2) (ci := 5) w_Row_copy_0 rfl 1 (by decide) w_Row_copy_1 f8_ rfl dX5_copy_5 ?_
  have f9_ := mw_us (M := M) (a := sz) (e := (.inr (5, [.null, .int 0])))
  refine mj_callI X 1 gX5_copy_X5_init rfl rfl w_Row_copy_6 w_Row_copy_7 w_Row_copy_8 (by decide +kernel) ⟨by decide, by decide⟩ (c_Row_init l D ca _ sz n f9_ (by omega)) rfl rfl (Nat.le_of_ble_eq_true rfl) dX5_copy_8 ⟨by decide, by decide⟩ (mk_v (fun M9 sz9 h9 => ?_))
  refine mj_to rfl rfl (h9.1.trans (mw_3 (by omega))) h9.2 ?_
  refine mj_astore_n X [(1, .ref sz), (0, .ref r)] dX5_copy_11 rfl (by decide) rfl ?_
  refine mj_iconst X (v := 0) dX5_copy_12 (by decide +kernel) ?_
  refine mj_istore_n X [(2, .int 0), (1, .ref sz), (0, .ref r)] dX5_copy_13 rfl (by decide) rfl ?_
  refine mj_sub [2, 1, 0] rfl ?_
  refine mj_widen 2 42 (by decide) (by decide) ?_
  rw [← cut_0 f]
  exact lp_Row_copy_14 (l := l) (D := D) (ca := ca) M sz r cap n f hr ha hn hcap h40 X hr0 hnm hlt (n + 1) 0 (by omega) (by omega)

