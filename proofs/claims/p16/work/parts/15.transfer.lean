theorem i32_min {a b : Nat} (h : b ≤ a) (ha : a < 2 ^ 31) : (if nI b < nI a then nI b else nI a) = nI b := by
  rcases Nat.lt_or_ge b a with q | q
  · rw [if_pos (nI_lt q ha)]
  · have e : a = b := by omega
    subst e; rw [if_neg (nI_nlt (Nat.le_refl _) ha)]
theorem pieces_le {t k : Nat} (hk : 1 ≤ k) (ht : t ≤ 320) : (t + k - 1) / k ≤ 320 := by
  rcases Nat.eq_zero_or_pos t with q | q
  · subst q; rw [Nat.div_eq_of_lt (by omega)]; omega
  · have h1 : t + k - 1 ≤ t * k := by
      obtain ⟨t', rfl⟩ : ∃ t', t = t' + 1 := ⟨t - 1, by omega⟩
      obtain ⟨k', rfl⟩ : ∃ k', k = k' + 1 := ⟨k - 1, by omega⟩
      have h2 : t' ≤ t' * (k' + 1) := Nat.le_mul_of_pos_right t' (by omega)
      have h3 : (t' + 1) * (k' + 1) = t' * (k' + 1) + (k' + 1) := by rw [Nat.add_mul, Nat.one_mul]
      omega
    have h4 : (t + k - 1) / k ≤ t := Nat.div_le_of_le_mul (by rw [Nat.mul_comm]; exact h1)
    omega
theorem i32_1_100 {k : Int32} (c2 : ¬ k < 1) (c8 : k ≤ 100) : ∃ len, 1 ≤ len ∧ len ≤ 100 ∧ k = nI len := by
  have a1 : (0 : Int32).toInt = 0 := by decide
  have a2 : (1 : Int32).toInt = 1 := by decide
  have k0 : ¬ k < 0 := fun h9 => by
    rw [Int32.lt_iff_toInt_lt] at h9 c2
    omega
  obtain ⟨j9, hj9, e9⟩ := nI_of k0
  refine ⟨j9, ?_, ?_, e9⟩
  · exact Nat.pos_of_ne_zero (fun h9 => c2 (by rw [e9, h9, nI_0]; decide))
  · rw [e9] at c8; exact (nI_leI (b := 100) hj9 (by omega)).mp c8
theorem w_Transfer_init_0 : Cond.methodLink RX6 3 Lib.objectInit ∈ wsX6_init := by decide +kernel
theorem w_Transfer_init_1 : Cond.instanceMethod Lib.objectInit ∈ wsX6_init := by decide +kernel
theorem w_Transfer_init_2 : Cond.code Lib.objectInit ⟨#[0xb1]⟩ 1 none ∈ wsX6_init := by decide +kernel
theorem w_Transfer_init_3 : ∀ w ∈ u_ws RX6 TX6 4, w ∈ wsX6_init := by decide +kernel
theorem w_Transfer_init_4 : Cond.fieldLink RX6 9 "PackageRows2$Transfer" "source" "LPackageRows2$Version;" ∈ wsX6_init := by decide +kernel
theorem w_Transfer_init_5 : Cond.arrayClass .boolean ∈ wsX6_init := by decide +kernel
theorem w_Transfer_init_6 : Cond.fieldLink RX6 15 "PackageRows2$Transfer" "came" "[Z" ∈ wsX6_init := by decide +kernel
theorem w_Transfer_init_7 : Cond.fieldLink RX6 19 "PackageRows2$Transfer" "pieceCount" "I" ∈ wsX6_init := by decide +kernel
theorem w_Transfer_init_8 : Cond.fieldLink RX6 23 "PackageRows2$Transfer" "missingCount" "I" ∈ wsX6_init := by decide +kernel
set_option maxHeartbeats 4000000 in
set_option maxRecDepth 100000 in
/--  -/
theorem c_Transfer_init (l : Launch) (D : va_G) (ca : Nat → ClassId) (M : mw_M) (z : Nat) (hz : M z = some (.inr (6, [.null, .null, .int 0, .int 0]))) : mw_C wsX6_init l yX6_init { frames := 1, cells := 1, slots := 320, locals := 12 } D vwCl (mt ca) [.ref z] M (z + 1) (mq_v (fun M' sz' => M' = mw_u (mw_u M (z + 1) (.inl (ca 1, 320, .inl (fun _ => 0)))) z (.inr (6, [.null, .ref (z + 1), .int (nI 0), .int (nI 0)])) ∧ sz' = z + 2)) := by
  refine mw_enter (cc := cX6_init) (maxL := 1) (ret := none) rfl (by decide) (Nat.le_of_ble_eq_true rfl) ?_
  intro p e s m below meth c X hr0 hnm hlt
  refine mj_aload_n X dX6_init_0 rfl 0 rfl ?_
  refine mj_objInit X w_Transfer_init_0 w_Transfer_init_1 w_Transfer_init_2 dX6_init_1 (by decide) (Nat.le_of_ble_eq_true rfl) ?_
  refine mj_aload_n X dX6_init_4 rfl 0 rfl ?_
  refine mj_null X dX6_init_5 ?_
  refine mj_put X (C := RX6) (T := TX6) (N := 4) (ci := 6) (v := .null) tyX6 w_Transfer_init_3 tyX6_ok nmX6 rfl 0 (by decide) w_Transfer_init_4 rfl hz [.null, .null, .int 0, .int 0] (Nat.le_of_ble_eq_true rfl) rfl rfl rfl rfl dX6_init_6 ?_
  refine mj_aload_n X dX6_init_9 rfl 0 rfl ?_
  refine mj_sipush X (v := 320) dX6_init_10 (by decide +kernel) ?_
  refine mj_newa X (atype := .boolean) 1 320 (320, .inl (fun _ => 0)) rfl rfl (fun _ h9 => h9) w_Transfer_init_5 (fun _ => rfl) (by decide) (by decide) (by decide) (by decide) (by decide) dX6_init_13 ?_
  have f1_ := mw_us (M := M) (a := z) (e := (.inr (6, [.null, .null, .int 0, .int 0])))
  have f2_ := (mw_un (M := (mw_u M z (.inr (6, [.null, .null, .int 0, .int 0])))) (e := (.inl (ca 1, 320, .inl (fun _ => 0)))) (show z ≠ z + 1 by omega)).trans f1_
  refine mj_putF X (C := RX6) (T := TX6) (N := 4) (ci := 6) (v := .ref (z + 1)) tyX6 w_Transfer_init_3 tyX6_ok nmX6 rfl 1 (by decide) w_Transfer_init_6 rfl f2_ [.null, .ref (z + 1), .int 0, .int 0] (Nat.le_of_ble_eq_true rfl) rfl rfl rfl rfl hnm rfl dX6_init_15 ?_
  refine mj_aload_n X dX6_init_18 rfl 0 rfl ?_
  refine mj_iconst X (v := 0) dX6_init_19 (by decide +kernel) ?_
  have f3_ := mw_us (M := (mw_u (mw_u M z (.inr (6, [.null, .null, .int 0, .int 0]))) (z + 1) (.inl (ca 1, 320, .inl (fun _ => 0))))) (a := z) (e := (.inr (6, [.null, .ref (z + 1), .int 0, .int 0])))
  refine mj_put X (C := RX6) (T := TX6) (N := 4) (ci := 6) (v := .int 0) tyX6 w_Transfer_init_3 tyX6_ok nmX6 rfl 2 (by decide) w_Transfer_init_7 rfl f3_ [.null, .ref (z + 1), .int 0, .int 0] (Nat.le_of_ble_eq_true rfl) rfl rfl rfl rfl dX6_init_20 ?_
  refine mj_aload_n X dX6_init_23 rfl 0 rfl ?_
  refine mj_iconst X (v := 0) dX6_init_24 (by decide +kernel) ?_
  have f4_ := mw_us (M := (mw_u (mw_u (mw_u M z (.inr (6, [.null, .null, .int 0, .int 0]))) (z + 1) (.inl (ca 1, 320, .inl (fun _ => 0)))) z (.inr (6, [.null, .ref (z + 1), .int 0, .int 0])))) (a := z) (e := (.inr (6, [.null, .ref (z + 1), .int 0, .int 0])))
  refine mj_put X (C := RX6) (T := TX6) (N := 4) (ci := 6) (v := .int 0) tyX6 w_Transfer_init_3 tyX6_ok nmX6 rfl 3 (by decide) w_Transfer_init_8 rfl f4_ [.null, .ref (z + 1), .int 0, .int 0] (Nat.le_of_ble_eq_true rfl) rfl rfl rfl rfl dX6_init_25 ?_
  refine mj_vret X hr0 (by decide) (by decide) dX6_init_28 ?_
  exact ⟨rfl, by simp only [mw_uu]; rw [nI_0, mw_3 (by omega)], rfl⟩

theorem w_Transfer_firstMissing_0 : ∀ w ∈ u_ws RX6 TX6 4, w ∈ wsX6_firstMissing := by decide +kernel
theorem w_Transfer_firstMissing_1 : Cond.fieldLink RX6 19 "PackageRows2$Transfer" "pieceCount" "I" ∈ wsX6_firstMissing := by decide +kernel
theorem w_Transfer_firstMissing_2 : Cond.fieldLink RX6 15 "PackageRows2$Transfer" "came" "[Z" ∈ wsX6_firstMissing := by decide +kernel
set_option maxHeartbeats 4000000 in
set_option maxRecDepth 100000 in
theorem lp_Transfer_firstMissing_2 {l : Launch} {D : va_G} {ca : Nat → ClassId} (M : mw_M) (sz z : Nat) (src : Value) (np nmi : Nat) (h : Nat → Int32) (hz : M z = some (.inr (6, [src, .ref (z + 1), .int (nI np), .int (nI nmi)]))) (hz1 : M (z + 1) = some (.inl (ca 1, 320, .inl h))) (hnp : np ≤ 320) (hmi : nmi ≤ 320) {p : Program} {e : Env} {s : State} {m : MethodId} {below : List Frame} {meth : Method} {c : Code} (X : mw_X p s m ([.ref z] : List Value).toArray meth c cX6_firstMissing 2 yX6_firstMissing.cls wsX6_firstMissing D vwCl (mt ca)) (hr0 : meth.sig.returnType = (some .int)) (hnm : meth.name = yX6_firstMissing.name) (hlt : ∀ (a : Nat) (x : va_E), M a = some x → a < sz) : ∀ (fu : Nat) (i : Nat), i ≤ np → np < i + fu → (∀ j, j < i → h j ≠ 0) → mw_J p l e { frames := 0, cells := 0, slots := 0, locals := 0 } s m ([.ref z] : List Value).toArray below meth c 2 D vwCl (mw_A M sz) (MQ below (mw_Q D vwCl M sz (mq_i (fun v9 M' sz' => M' = M ∧ sz' = sz ∧ ((∃ i, i < np ∧ h i = 0 ∧ (∀ j, j < i → h j ≠ 0) ∧ v9 = nI i) ∨ ((∀ j, j < np → h j ≠ 0) ∧ v9 = -1))))) ([.ref z] : List Value).toArray s 0 0 (mw_A M sz)) 2 [(0, .ref z), (1, .int (nI i))] [] M sz 0 0 := by
  intro fu
  induction fu with
  | zero => intro i h1 h2; omega
  | succ fu ih =>
    intro i hi hfu hall
    refine mj_iload_n X dX6_firstMissing_2 rfl 1 rfl ?_
    refine mj_aload_n X dX6_firstMissing_3 rfl 0 rfl ?_
    refine mj_get X (C := RX6) (T := TX6) (N := 4) (ci := 6) w_Transfer_firstMissing_0 rfl 2 (by decide) w_Transfer_firstMissing_1 hz rfl dX6_firstMissing_4 ?_
    refine mj_icmp_ge X 27 dX6_firstMissing_7 (by decide) (fun c7 => ?_) (fun c7 => ?_)
    · refine mj_iconst X (v := -1) dX6_firstMissing_27 (by decide +kernel) ?_
      refine mj_iret X hr0 (by decide) (by decide) dX6_firstMissing_28 ?_
      exact ⟨_, rfl, rfl, rfl, Or.inr ⟨fun j hj => hall j (by have h9 := (nI_leI (by omega) (by omega)).mp c7; omega), rfl⟩⟩
    · have hlt7 : i < np := Nat.not_le.mp (fun h9 => c7 (nI_le h9 (by omega)))
      refine mj_aload_n X dX6_firstMissing_10 rfl 0 rfl ?_
      refine mj_get X (C := RX6) (T := TX6) (N := 4) (ci := 6) w_Transfer_firstMissing_0 rfl 1 (by decide) w_Transfer_firstMissing_2 hz rfl dX6_firstMissing_11 ?_
      refine mj_iload_n X dX6_firstMissing_14 rfl 1 rfl ?_
      refine mj_zald X 1 (h i) rfl hz1 (vp_in_nI (by omega) (by omega)) (by rw [nI_clamp (by omega)]) dX6_firstMissing_15 ?_
      refine mj_if_ne X 21 dX6_firstMissing_16 (by decide) (fun c16 => ?_) (fun c16 => ?_)
      · refine mj_iinc X [(1, .int (nI (i + 1))), (0, .ref z)] dX6_firstMissing_21 1 rfl (nI_1 i) (by decide) rfl ?_
        refine mj_goto X 2 dX6_firstMissing_24 (by decide) ?_
        refine mj_sub [1, 0] rfl ?_
        exact ih (i + 1) hlt7 (by omega) (lt_s hall c16)
      · refine mj_iload_n X dX6_firstMissing_19 rfl 1 rfl ?_
        refine mj_iret X hr0 (by decide) (by decide) dX6_firstMissing_20 ?_
        exact ⟨_, rfl, rfl, rfl, Or.inl ⟨i, hlt7, c16, hall, rfl⟩⟩
set_option maxHeartbeats 4000000 in
set_option maxRecDepth 100000 in
/--  -/
theorem c_Transfer_firstMissing (l : Launch) (D : va_G) (ca : Nat → ClassId) (M : mw_M) (sz z : Nat) (src : Value) (np nmi : Nat) (h : Nat → Int32) (hz : M z = some (.inr (6, [src, .ref (z + 1), .int (nI np), .int (nI nmi)]))) (hz1 : M (z + 1) = some (.inl (ca 1, 320, .inl h))) (hnp : np ≤ 320) (hmi : nmi ≤ 320) : mw_C wsX6_firstMissing l yX6_firstMissing { frames := 0, cells := 0, slots := 0, locals := 0 } D vwCl (mt ca) [.ref z] M sz (mq_i (fun v9 M' sz' => M' = M ∧ sz' = sz ∧ ((∃ i, i < np ∧ h i = 0 ∧ (∀ j, j < i → h j ≠ 0) ∧ v9 = nI i) ∨ ((∀ j, j < np → h j ≠ 0) ∧ v9 = -1)))) := by
  refine mw_enter (cc := cX6_firstMissing) (maxL := 2) (ret := (some .int)) rfl (by decide) (Nat.le_of_ble_eq_true rfl) ?_
  intro p e s m below meth c X hr0 hnm hlt
  refine mj_iconst X (v := 0) dX6_firstMissing_0 (by decide +kernel) ?_
  refine mj_istore_n X [(1, .int 0), (0, .ref z)] dX6_firstMissing_1 rfl (by decide) rfl ?_
  refine mj_sub [1, 0] rfl ?_
  exact lp_Transfer_firstMissing_2 (l := l) (D := D) (ca := ca) M sz z src np nmi h hz hz1 hnp hmi X hr0 hnm hlt (np + 1) 0 (by omega) (by omega) (fun j hj => absurd hj (by omega))

theorem w_Transfer_take_0 : ∀ w ∈ u_ws RX6 TX6 4, w ∈ wsX6_take := by decide +kernel
theorem w_Transfer_take_1 : Cond.fieldLink RX6 19 "PackageRows2$Transfer" "pieceCount" "I" ∈ wsX6_take := by decide +kernel
theorem w_Transfer_take_2 : Cond.fieldLink RX6 23 "PackageRows2$Transfer" "missingCount" "I" ∈ wsX6_take := by decide +kernel
theorem w_Transfer_take_3 : Cond.fieldLink RX6 15 "PackageRows2$Transfer" "came" "[Z" ∈ wsX6_take := by decide +kernel
set_option maxHeartbeats 4000000 in
set_option maxRecDepth 100000 in
/--  -/
theorem c_Transfer_take (l : Launch) (D : va_G) (ca : Nat → ClassId) (M : mw_M) (sz z : Nat) (src : Value) (np nmi : Nat) (h : Nat → Int32) (k u : Int32) (hz : M z = some (.inr (6, [src, .ref (z + 1), .int (nI np), .int (nI nmi)]))) (hz1 : M (z + 1) = some (.inl (ca 1, 320, .inl h))) (hnp : np ≤ 320) (hmi : nmi ≤ 320) (hpos : ∀ j, j < np → h j = 0 → 0 < nmi) : mw_C wsX6_take l yX6_take { frames := 0, cells := 0, slots := 0, locals := 0 } D vwCl (mt ca) [.ref z, .int k, .int u] M sz (mq_i (fun v9 M' sz' => (((∀ j, j < np → k ≠ nI j) ∧ v9 = -2 ∧ M' = M) ∨ (∃ j, j < np ∧ k = nI j ∧ (((u = 0 ∨ h j ≠ 0) ∧ v9 = nI nmi ∧ M' = M) ∨ (u ≠ 0 ∧ h j = 0 ∧ v9 = nI (nmi - 1) ∧ M' = mw_u (mw_u M (z + 1) (.inl (ca 1, 320, .inl (upd h j 1)))) z (.inr (6, [src, .ref (z + 1), .int (nI np), .int (nI (nmi - 1))])))))) ∧ sz' = sz)) := by
  refine mw_enter (cc := cX6_take) (maxL := 3) (ret := (some .int)) rfl (by decide) (Nat.le_of_ble_eq_true rfl) ?_
  intro p e s m below meth c X hr0 hnm hlt
  refine mj_iload_n X dX6_take_0 rfl 1 rfl ?_
  refine mj_if_lt X 12 dX6_take_1 (by decide) (fun c1 => ?_) (fun c1 => ?_)
  · refine mj_bipush X (v := -2) dX6_take_12 (by decide +kernel) ?_
    refine mj_iret X hr0 (by decide) (by decide) dX6_take_14 ?_
    exact ⟨_, rfl, Or.inl ⟨fun j hj e9 => absurd c1 (by rw [e9]; exact nI_pos (by omega)), rfl, rfl⟩, rfl⟩
  · refine mj_iload_n X dX6_take_4 rfl 1 rfl ?_
    refine mj_aload_n X dX6_take_5 rfl 0 rfl ?_
    refine mj_get X (C := RX6) (T := TX6) (N := 4) (ci := 6) w_Transfer_take_0 rfl 2 (by decide) w_Transfer_take_1 hz rfl dX6_take_6 ?_
    refine mj_icmp_lt X 15 dX6_take_9 (by decide) (fun c9 => ?_) (fun c9 => ?_)
    · obtain ⟨j, hj, ej⟩ : ∃ j, j < np ∧ k = nI j := by
        rcases pk_ix k (n := np) (by omega) with h | h | h
        · exact absurd h c1
        · exact absurd c9 (by obtain ⟨j9, hj9, e9⟩ := nI_of c1; rw [e9] at h ⊢; exact nI_nlt ((nI_leI (by omega) hj9).mp h) hj9)
        · exact h
      refine mj_iload_n X dX6_take_15 rfl 2 rfl ?_
      refine mj_if_eq X 45 dX6_take_16 (by decide) (fun c16 => ?_) (fun c16 => ?_)
      · refine mj_aload_n X dX6_take_45 rfl 0 rfl ?_
        refine mj_get X (C := RX6) (T := TX6) (N := 4) (ci := 6) w_Transfer_take_0 rfl 3 (by decide) w_Transfer_take_2 hz rfl dX6_take_46 ?_
        refine mj_iret X hr0 (by decide) (by decide) dX6_take_49 ?_
        exact ⟨_, rfl, Or.inr ⟨j, hj, ej, Or.inl ⟨Or.inl c16, rfl, rfl⟩⟩, rfl⟩
      · refine mj_aload_n X dX6_take_19 rfl 0 rfl ?_
        refine mj_get X (C := RX6) (T := TX6) (N := 4) (ci := 6) w_Transfer_take_0 rfl 1 (by decide) w_Transfer_take_3 hz rfl dX6_take_20 ?_
        refine mj_iload_n X dX6_take_23 rfl 1 rfl ?_
        refine mj_zald X 1 (h j) rfl hz1 (by rw [ej]; exact vp_in_nI (by omega) (by omega)) (by rw [ej, nI_clamp (by omega)]) dX6_take_24 ?_
        refine mj_if_ne X 45 dX6_take_25 (by decide) (fun c25 => ?_) (fun c25 => ?_)
        · refine mj_aload_n X dX6_take_45 rfl 0 rfl ?_
          refine mj_get X (C := RX6) (T := TX6) (N := 4) (ci := 6) w_Transfer_take_0 rfl 3 (by decide) w_Transfer_take_2 hz rfl dX6_take_46 ?_
          refine mj_iret X hr0 (by decide) (by decide) dX6_take_49 ?_
          exact ⟨_, rfl, Or.inr ⟨j, hj, ej, Or.inl ⟨Or.inr c25, rfl, rfl⟩⟩, rfl⟩
        · have hp0 := hpos j hj c25
          refine mj_aload_n X dX6_take_28 rfl 0 rfl ?_
          refine mj_get X (C := RX6) (T := TX6) (N := 4) (ci := 6) w_Transfer_take_0 rfl 1 (by decide) w_Transfer_take_3 hz rfl dX6_take_29 ?_
          refine mj_iload_n X dX6_take_32 rfl 1 rfl ?_
          refine mj_iconst X (v := 1) dX6_take_33 (by decide +kernel) ?_
          refine mj_zast X 1 j rfl hz1 (by rw [ej]; exact vp_in_nI (by omega) (by omega)) (by rw [ej, nI_clamp (by omega)]) dX6_take_34 ?_
          refine mj_aload_n X dX6_take_35 rfl 0 rfl ?_
          refine mj_dup X dX6_take_36 rfl ?_
          have f1_ := (mw_un (M := M) (e := (.inl (ca 1, 320, .inl (upd h j (vp_nar .boolean 1))))) (show z ≠ z + 1 by omega)).trans hz
          refine mj_get X (C := RX6) (T := TX6) (N := 4) (ci := 6) w_Transfer_take_0 rfl 3 (by decide) w_Transfer_take_2 f1_ rfl dX6_take_37 ?_
          refine mj_iconst X (v := 1) dX6_take_40 (by decide +kernel) ?_
          refine mj_isub X dX6_take_41 ?_
          refine mj_top (nI (nmi - 1)) (show nI nmi - nI 1 = _ from pk_sub (by omega)) ?_
          refine mj_put X (C := RX6) (T := TX6) (N := 4) (ci := 6) (v := .int (nI (nmi - 1))) tyX6 w_Transfer_take_0 tyX6_ok nmX6 rfl 3 (by decide) w_Transfer_take_2 rfl f1_ [src, .ref (z + 1), .int (nI np), .int (nI (nmi - 1))] (Nat.le_of_ble_eq_true rfl) rfl rfl rfl rfl dX6_take_42 ?_
          refine mj_aload_n X dX6_take_45 rfl 0 rfl ?_
          have f2_ := mw_us (M := (mw_u M (z + 1) (.inl (ca 1, 320, .inl (upd h j (vp_nar .boolean 1)))))) (a := z) (e := (.inr (6, [src, .ref (z + 1), .int (nI np), .int (nI (nmi - 1))])))
          refine mj_get X (C := RX6) (T := TX6) (N := 4) (ci := 6) w_Transfer_take_0 rfl 3 (by decide) w_Transfer_take_2 f2_ rfl dX6_take_46 ?_
          refine mj_iret X hr0 (by decide) (by decide) dX6_take_49 ?_
          exact ⟨_, rfl, Or.inr ⟨j, hj, ej, Or.inr ⟨c16, c25, rfl, by rw [show vp_nar .boolean 1 = 1 by decide]⟩⟩, rfl⟩
    · refine mj_bipush X (v := -2) dX6_take_12 (by decide +kernel) ?_
      refine mj_iret X hr0 (by decide) (by decide) dX6_take_14 ?_
      exact ⟨_, rfl, Or.inl ⟨fun j hj e9 => c9 (by rw [e9]; exact nI_lt hj (by omega)), rfl, rfl⟩, rfl⟩

theorem w_Transfer_begin_0 : ∀ w ∈ u_ws RX6 TX6 4, w ∈ wsX6_begin := by decide +kernel
theorem w_Transfer_begin_1 : Cond.fieldLink RX6 19 "PackageRows2$Transfer" "pieceCount" "I" ∈ wsX6_begin := by decide +kernel
theorem w_Transfer_begin_2 : Cond.fieldLink RX6 15 "PackageRows2$Transfer" "came" "[Z" ∈ wsX6_begin := by decide +kernel
theorem w_Transfer_begin_3 : Cond.fieldLink RX6 9 "PackageRows2$Transfer" "source" "LPackageRows2$Version;" ∈ wsX6_begin := by decide +kernel
theorem w_Transfer_begin_4 : Cond.methodLink RX6 32 Lib.Math.min.name ∈ wsX6_begin := by decide +kernel
theorem w_Transfer_begin_5 : Cond.static Lib.Math.min.name ∈ wsX6_begin := by decide +kernel
theorem w_Transfer_begin_6 : Cond.initialized "java/lang/Math" ∈ wsX6_begin := by decide +kernel
theorem w_Transfer_begin_7 : Cond.code Lib.Math.min.name Lib.Math.min.code 2 (some .int) ∈ wsX6_begin := by decide +kernel
theorem w_Transfer_begin_8 : Cond.fieldLink RX6 23 "PackageRows2$Transfer" "missingCount" "I" ∈ wsX6_begin := by decide +kernel
set_option maxHeartbeats 4000000 in
set_option maxRecDepth 100000 in
theorem lp_Transfer_begin_51 {l : Launch} {D : va_G} {ca : Nat → ClassId} (M : mw_M) (sz z : Nat) (src : Value) (np nmi : Nat) (h : Nat → Int32) (v vc : Nat) (ve : Nat → Option Nat) (E en ek : Nat → Nat) (ef eg : Nat → Nat → Int32) (ev : Nat → Int32) (k : Int32) (hz : M z = some (.inr (6, [src, .ref (z + 1), .int (nI np), .int (nI nmi)]))) (hz1 : M (z + 1) = some (.inl (ca 1, 320, .inl h))) (hnp : np ≤ 320) (hmi : nmi ≤ 320) (hv : M v = some (.inr (7, [.ref (v + 1), .int (nI vc)]))) (hva : M (v + 1) = some (.inl (ca 3, 8, .inr (.inr (.inr (.inr ve)))))) (hvc : vc ≤ 8) (he : ∀ i, i < vc → ve i = some (E i)) (hent : ∀ i, i < vc → isEnt ca M (E i) (en i) (ef i) (ek i) (eg i) (ev i)) (hvz : z + 2 ≤ v) (hEz : ∀ i, i < vc → z + 2 ≤ E i) {p : Program} {e : Env} {s : State} {m : MethodId} {below : List Frame} {meth : Method} {c : Code} (X : mw_X p s m ([.ref z, .ref v, .int k] : List Value).toArray meth c cX6_begin 4 yX6_begin.cls wsX6_begin D vwCl (mt ca)) (hr0 : meth.sig.returnType = (some .int)) (hnm : meth.name = yX6_begin.name) (hlt : ∀ (a : Nat) (x : va_E), M a = some x → a < sz) : ∀ (fu : Nat) (len i : Nat) (h1 : Nat → Int32), 1 ≤ len → len ≤ 100 → k = nI len → i ≤ ((szs ek vc + len - 1) / len) → ((szs ek vc + len - 1) / len) < i + fu → (∀ j, j < i → h1 j = 0) → mw_J p l e { frames := 2, cells := 0, slots := 0, locals := 42 } s m ([.ref z, .ref v, .int k] : List Value).toArray below meth c 4 D vwCl (mw_A M sz) (MQ below (mw_Q D vwCl M sz (mq_i (fun v9 M' sz' => (((k < 1 ∨ ¬ k ≤ 100) ∧ v9 = -2 ∧ M' = M) ∨ (∃ (len : Nat) (h' : Nat → Int32), 1 ≤ len ∧ len ≤ 100 ∧ k = nI len ∧ v9 = nI ((szs ek vc + len - 1) / len) ∧ (∀ j, j < ((szs ek vc + len - 1) / len) → h' j = 0) ∧ M' = mw_u (mw_u M z (.inr (6, [.ref v, .ref (z + 1), .int (nI ((szs ek vc + len - 1) / len)), .int (nI ((szs ek vc + len - 1) / len))]))) (z + 1) (.inl (ca 1, 320, .inl h')))) ∧ sz' = sz))) ([.ref z, .ref v, .int k] : List Value).toArray s 0 0 (mw_A M sz)) 51 [(0, .ref z), (3, .int (nI i))] [] (mw_u (mw_u M z (.inr (6, [.ref v, .ref (z + 1), .int (nI ((szs ek vc + len - 1) / len)), .int (nI ((szs ek vc + len - 1) / len))]))) (z + 1) (.inl (ca 1, 320, .inl h1))) sz 0 0 := by
  intro fu
  induction fu with
  | zero => intro len i h1 a1 a2 a3 a4 a5; omega
  | succ fu ih =>
    intro len i h1 hl1 hl2 ek9 hi hfu hall
    have h320 := szs_le (fun q hq => (hent q hq).2.2.2.2) vc (Nat.le_refl _)
    have hP := pieces_le hl1 (show szs ek vc ≤ 320 by omega)
    refine mj_iload_n X dX6_begin_51 rfl 1 rfl ?_
    refine mj_aload_n X dX6_begin_52 rfl 0 rfl ?_
    have f1_ := mw_us (M := M) (a := z) (e := (.inr (6, [.ref v, .ref (z + 1), .int (nI ((szs ek vc + len - 1) / len)), .int (nI ((szs ek vc + len - 1) / len))])))
    have f2_ := (mw_un (M := (mw_u M z (.inr (6, [.ref v, .ref (z + 1), .int (nI ((szs ek vc + len - 1) / len)), .int (nI ((szs ek vc + len - 1) / len))])))) (e := (.inl (ca 1, 320, .inl h1))) (show z ≠ z + 1 by omega)).trans f1_
    refine mj_get X (C := RX6) (T := TX6) (N := 4) (ci := 6) w_Transfer_begin_0 rfl 2 (by decide) w_Transfer_begin_1 f2_ rfl dX6_begin_53 ?_
    refine mj_icmp_ge X 72 dX6_begin_56 (by decide) (fun c56 => ?_) (fun c56 => ?_)
    · refine mj_aload_n X dX6_begin_72 rfl 0 rfl ?_
      refine mj_get X (C := RX6) (T := TX6) (N := 4) (ci := 6) w_Transfer_begin_0 rfl 2 (by decide) w_Transfer_begin_1 f2_ rfl dX6_begin_73 ?_
      refine mj_iret X hr0 (by decide) (by decide) dX6_begin_76 ?_
      have e9 : i = ((szs ek vc + len - 1) / len) := by have h9 := (nI_leI (by omega) (by omega)).mp c56; omega
      exact ⟨_, rfl, Or.inr ⟨len, h1, hl1, hl2, ek9, rfl, fun j hj => hall j (by omega), rfl⟩, rfl⟩
    · have hlt56 : i < ((szs ek vc + len - 1) / len) := Nat.not_le.mp (fun h9 => c56 (nI_le h9 (by omega)))
      refine mj_aload_n X dX6_begin_59 rfl 0 rfl ?_
      refine mj_get X (C := RX6) (T := TX6) (N := 4) (ci := 6) w_Transfer_begin_0 rfl 1 (by decide) w_Transfer_begin_2 f2_ rfl dX6_begin_60 ?_
      refine mj_iload_n X dX6_begin_63 rfl 1 rfl ?_
      refine mj_iconst X (v := 0) dX6_begin_64 (by decide +kernel) ?_
      have f3_ := (mw_un (M := M) (e := (.inr (6, [.ref v, .ref (z + 1), .int (nI ((szs ek vc + len - 1) / len)), .int (nI ((szs ek vc + len - 1) / len))]))) (show z + 1 ≠ z by omega)).trans hz1
      have f4_ := mw_us (M := (mw_u M z (.inr (6, [.ref v, .ref (z + 1), .int (nI ((szs ek vc + len - 1) / len)), .int (nI ((szs ek vc + len - 1) / len))])))) (a := (z + 1)) (e := (.inl (ca 1, 320, .inl h1)))
      refine mj_zast X 1 i rfl f4_ (vp_in_nI (by omega) (by omega)) (nI_clamp (by omega)) dX6_begin_65 ?_
      refine mj_iinc X [(3, .int (nI (i + 1))), (0, .ref z)] dX6_begin_66 1 rfl (nI_1 i) (by decide) rfl ?_
      refine mj_goto X 51 dX6_begin_69 (by decide) ?_
      refine mj_sub [1, 0] rfl ?_
      refine mj_to rfl rfl mw_uu rfl ?_
      rw [show vp_nar .boolean 0 = 0 by decide]
      refine ih len (i + 1) _ hl1 hl2 ek9 hlt56 (by omega) (fun j hj => ?_)
      rcases Nat.lt_or_ge j i with q9 | q9
      · rw [pk_un (by omega)]; exact hall j q9
      · rw [show j = i by omega]; exact pk_us
set_option maxHeartbeats 4000000 in
set_option maxRecDepth 100000 in
/--  -/
theorem c_Transfer_begin (l : Launch) (D : va_G) (ca : Nat → ClassId) (M : mw_M) (sz z : Nat) (src : Value) (np nmi : Nat) (h : Nat → Int32) (v vc : Nat) (ve : Nat → Option Nat) (E en ek : Nat → Nat) (ef eg : Nat → Nat → Int32) (ev : Nat → Int32) (k : Int32) (hz : M z = some (.inr (6, [src, .ref (z + 1), .int (nI np), .int (nI nmi)]))) (hz1 : M (z + 1) = some (.inl (ca 1, 320, .inl h))) (hnp : np ≤ 320) (hmi : nmi ≤ 320) (hv : M v = some (.inr (7, [.ref (v + 1), .int (nI vc)]))) (hva : M (v + 1) = some (.inl (ca 3, 8, .inr (.inr (.inr (.inr ve)))))) (hvc : vc ≤ 8) (he : ∀ i, i < vc → ve i = some (E i)) (hent : ∀ i, i < vc → isEnt ca M (E i) (en i) (ef i) (ek i) (eg i) (ev i)) (hvz : z + 2 ≤ v) (hEz : ∀ i, i < vc → z + 2 ≤ E i) : mw_C wsX6_begin l yX6_begin { frames := 2, cells := 0, slots := 0, locals := 42 } D vwCl (mt ca) [.ref z, .ref v, .int k] M sz (mq_i (fun v9 M' sz' => (((k < 1 ∨ ¬ k ≤ 100) ∧ v9 = -2 ∧ M' = M) ∨ (∃ (len : Nat) (h' : Nat → Int32), 1 ≤ len ∧ len ≤ 100 ∧ k = nI len ∧ v9 = nI ((szs ek vc + len - 1) / len) ∧ (∀ j, j < ((szs ek vc + len - 1) / len) → h' j = 0) ∧ M' = mw_u (mw_u M z (.inr (6, [.ref v, .ref (z + 1), .int (nI ((szs ek vc + len - 1) / len)), .int (nI ((szs ek vc + len - 1) / len))]))) (z + 1) (.inl (ca 1, 320, .inl h')))) ∧ sz' = sz)) := by
  refine mw_enter (cc := cX6_begin) (maxL := 4) (ret := (some .int)) rfl (by decide) (Nat.le_of_ble_eq_true rfl) ?_
  intro p e s m below meth c X hr0 hnm hlt
  refine mj_iload_n X dX6_begin_0 rfl 2 rfl ?_
  refine mj_iconst X (v := 1) dX6_begin_1 (by decide +kernel) ?_
  refine mj_icmp_lt X 11 dX6_begin_2 (by decide) (fun c2 => ?_) (fun c2 => ?_)
  · refine mj_bipush X (v := -2) dX6_begin_11 (by decide +kernel) ?_
    refine mj_iret X hr0 (by decide) (by decide) dX6_begin_13 ?_
    exact ⟨_, rfl, Or.inl ⟨Or.inl c2, rfl, rfl⟩, rfl⟩
  · refine mj_iload_n X dX6_begin_5 rfl 2 rfl ?_
    refine mj_bipush X (v := 100) dX6_begin_6 (by decide +kernel) ?_
    refine mj_icmp_le X 14 dX6_begin_8 (by decide) (fun c8 => ?_) (fun c8 => ?_)
    · obtain ⟨len, hl1, hl2, rfl⟩ := i32_1_100 c2 c8
      have h320 := szs_le (fun q hq => (hent q hq).2.2.2.2) vc (Nat.le_refl _)
      have hP := pieces_le hl1 (show szs ek vc ≤ 320 by omega)
      refine mj_aload_n X dX6_begin_14 rfl 0 rfl ?_
      refine mj_aload_n X dX6_begin_15 rfl 1 rfl ?_
      refine mj_put X (C := RX6) (T := TX6) (N := 4) (ci := 6) (v := .ref v) tyX6 w_Transfer_begin_0 tyX6_ok nmX6 rfl 0 (by decide) w_Transfer_begin_3 rfl hz [.ref v, .ref (z + 1), .int (nI np), .int (nI nmi)] (Nat.le_of_ble_eq_true rfl) rfl rfl rfl rfl dX6_begin_16 ?_
      refine mj_aload_n X dX6_begin_19 rfl 0 rfl ?_
      refine mj_aload_n X dX6_begin_20 rfl 0 rfl ?_
      have f5_ := mw_us (M := M) (a := z) (e := (.inr (6, [.ref v, .ref (z + 1), .int (nI np), .int (nI nmi)])))
      refine mj_get X (C := RX6) (T := TX6) (N := 4) (ci := 6) w_Transfer_begin_0 rfl 1 (by decide) w_Transfer_begin_2 f5_ rfl dX6_begin_21 ?_
      have f6_ := (mw_un (M := M) (e := (.inr (6, [.ref v, .ref (z + 1), .int (nI np), .int (nI nmi)]))) (show z + 1 ≠ z by omega)).trans hz1
      refine mj_alen X 1 (v := nI 320) rfl f6_ rfl dX6_begin_24 ?_
      refine mj_aload_n X dX6_begin_25 rfl 1 rfl ?_
      have f7_ := (mw_un (M := M) (e := (.inr (6, [.ref v, .ref (z + 1), .int (nI np), .int (nI nmi)]))) (show v ≠ z by omega)).trans hv
      have f8_ := (mw_un (M := M) (e := (.inr (6, [.ref v, .ref (z + 1), .int (nI np), .int (nI nmi)]))) (show v + 1 ≠ z by omega)).trans hva
      have hent1 : ∀ j, j < vc → isEnt ca (mw_u M z (.inr (6, [.ref v, .ref (z + 1), .int (nI np), .int (nI nmi)]))) (E j) (en j) (ef j) (ek j) (eg j) (ev j) := fun j hj => (hent j hj).up (fun b h1 h2 => mw_un (by have := hEz j hj; omega))
      refine mj_callV X 0 gX6_begin_X7_byteCount rfl (by decide +kernel) ⟨by decide, by decide⟩ (c_Version_byteCount l D ca _ sz v vc ve E en ek ef eg ev f7_ f8_ hvc he hent1) rfl f7_ rfl rfl (Nat.le_of_ble_eq_true rfl) dX6_begin_26 ⟨by decide, by decide⟩ (mk_ri (fun b2 hb2 => ?_))
      subst hb2
      refine mj_iload_n X dX6_begin_29 rfl 2 rfl ?_
      refine mj_iadd X dX6_begin_30 ?_
      refine mj_top (nI (szs ek vc + len)) (nI_add _ _) ?_
      refine mj_iconst X (v := 1) dX6_begin_31 (by decide +kernel) ?_
      refine mj_isub X dX6_begin_32 ?_
      refine mj_top (nI (szs ek vc + len - 1)) (show nI _ - nI 1 = _ from pk_sub (by omega)) ?_
      refine mj_iload_n X dX6_begin_33 rfl 2 rfl ?_
      refine mj_idiv X (nI_ne0 (by omega) (by omega)) dX6_begin_34 ?_
      refine mj_top (nI ((szs ek vc + len - 1) / len)) (pk_div (by omega) (by omega) (by omega)) ?_
      refine mj_mmin X w_Transfer_begin_4 w_Transfer_begin_5 w_Transfer_begin_6 w_Transfer_begin_7 (by decide) (Nat.le_of_ble_eq_true rfl) (by decide) (by decide) dX6_begin_35 ?_
      refine mj_top (nI ((szs ek vc + len - 1) / len)) (i32_min hP (by omega)) ?_
      refine mj_put X (C := RX6) (T := TX6) (N := 4) (ci := 6) (v := .int (nI ((szs ek vc + len - 1) / len))) tyX6 w_Transfer_begin_0 tyX6_ok nmX6 rfl 2 (by decide) w_Transfer_begin_1 rfl f5_ [.ref v, .ref (z + 1), .int (nI ((szs ek vc + len - 1) / len)), .int (nI nmi)] (Nat.le_of_ble_eq_true rfl) rfl rfl rfl rfl dX6_begin_38 ?_
      refine mj_aload_n X dX6_begin_41 rfl 0 rfl ?_
      refine mj_aload_n X dX6_begin_42 rfl 0 rfl ?_
      have f9_ := mw_us (M := (mw_u M z (.inr (6, [.ref v, .ref (z + 1), .int (nI np), .int (nI nmi)])))) (a := z) (e := (.inr (6, [.ref v, .ref (z + 1), .int (nI ((szs ek vc + len - 1) / len)), .int (nI nmi)])))
      refine mj_get X (C := RX6) (T := TX6) (N := 4) (ci := 6) w_Transfer_begin_0 rfl 2 (by decide) w_Transfer_begin_1 f9_ rfl dX6_begin_43 ?_
      refine mj_put X (C := RX6) (T := TX6) (N := 4) (ci := 6) (v := .int (nI ((szs ek vc + len - 1) / len))) tyX6 w_Transfer_begin_0 tyX6_ok nmX6 rfl 3 (by decide) w_Transfer_begin_8 rfl f9_ [.ref v, .ref (z + 1), .int (nI ((szs ek vc + len - 1) / len)), .int (nI ((szs ek vc + len - 1) / len))] (Nat.le_of_ble_eq_true rfl) rfl rfl rfl rfl dX6_begin_46 ?_
      refine mj_iconst X (v := 0) dX6_begin_49 (by decide +kernel) ?_
      refine mj_istore_n X [(3, .int 0), (0, .ref z), (1, .ref v), (2, .int (nI len))] dX6_begin_50 rfl (by decide) rfl ?_
      refine mj_sub [1, 0] rfl ?_
      refine mj_to (M' := mw_u (mw_u M z (.inr (6, [.ref v, .ref (z + 1), .int (nI ((szs ek vc + len - 1) / len)), .int (nI ((szs ek vc + len - 1) / len))]))) (z + 1) (.inl (ca 1, 320, .inl h))) rfl rfl (by simp only [mw_uu]; exact (mw_self ((mw_un (by omega)).trans hz1)).symm) rfl ?_
      rw [← nI_0]
      exact lp_Transfer_begin_51 (l := l) (D := D) (ca := ca) M sz z src np nmi h v vc ve E en ek ef eg ev (nI len) hz hz1 hnp hmi hv hva hvc he hent hvz hEz X hr0 hnm hlt (((szs ek vc + len - 1) / len) + 1) len 0 h hl1 hl2 rfl (Nat.zero_le _) (by rw [Nat.zero_add]; exact Nat.lt_succ_self _) (fun j hj => absurd hj (by omega))
    · refine mj_bipush X (v := -2) dX6_begin_11 (by decide +kernel) ?_
      refine mj_iret X hr0 (by decide) (by decide) dX6_begin_13 ?_
      exact ⟨_, rfl, Or.inl ⟨Or.inr c8, rfl, rfl⟩, rfl⟩

theorem w_Transfer_joinedByte0_0 : ∀ w ∈ u_ws RX6 TX6 4, w ∈ wsX6_joinedByte := by decide +kernel
theorem w_Transfer_joinedByte0_1 : Cond.fieldLink RX6 9 "PackageRows2$Transfer" "source" "LPackageRows2$Version;" ∈ wsX6_joinedByte := by decide +kernel
set_option maxHeartbeats 4000000 in
set_option maxRecDepth 100000 in
/--  -/
theorem c_Transfer_joinedByte0 (l : Launch) (D : va_G) (ca : Nat → ClassId) (M : mw_M) (sz z : Nat) (np nmi : Nat) (h : Nat → Int32) (k : Int32) (hz : M z = some (.inr (6, [.null, .ref (z + 1), .int (nI np), .int (nI nmi)]))) (hz1 : M (z + 1) = some (.inl (ca 1, 320, .inl h))) (hnp : np ≤ 320) (hmi : nmi ≤ 320) : mw_C wsX6_joinedByte l yX6_joinedByte { frames := 3, cells := 0, slots := 0, locals := 66 } D vwCl (mt ca) [.ref z, .int k] M sz (mq_i (fun v9 M' sz' => M' = M ∧ sz' = sz ∧ v9 = -3)) := by
  refine mw_enter (cc := cX6_joinedByte) (maxL := 2) (ret := (some .int)) rfl (by decide) (Nat.le_of_ble_eq_true rfl) ?_
  intro p e s m below meth c X hr0 hnm hlt
  refine mj_aload_n X dX6_joinedByte_0 rfl 0 rfl ?_
  refine mj_get X (C := RX6) (T := TX6) (N := 4) (ci := 6) w_Transfer_joinedByte0_0 rfl 0 (by decide) w_Transfer_joinedByte0_1 hz rfl dX6_joinedByte_1 ?_
  refine mj_ifnullN X 14 dX6_joinedByte_4 (by decide) ?_
  refine mj_bipush X (v := -3) dX6_joinedByte_14 (by decide +kernel) ?_
  refine mj_iret X hr0 (by decide) (by decide) dX6_joinedByte_16 ?_
  exact ⟨_, rfl, rfl, rfl, rfl⟩

theorem w_Transfer_joinedByte1_0 : ∀ w ∈ u_ws RX6 TX6 4, w ∈ wsX6_joinedByte := by decide +kernel
theorem w_Transfer_joinedByte1_1 : Cond.fieldLink RX6 9 "PackageRows2$Transfer" "source" "LPackageRows2$Version;" ∈ wsX6_joinedByte := by decide +kernel
theorem w_Transfer_joinedByte1_2 : Cond.fieldLink RX6 23 "PackageRows2$Transfer" "missingCount" "I" ∈ wsX6_joinedByte := by decide +kernel
set_option maxHeartbeats 4000000 in
set_option maxRecDepth 100000 in
/--  -/
theorem c_Transfer_joinedByte1 (l : Launch) (D : va_G) (ca : Nat → ClassId) (M : mw_M) (sz z : Nat) (np nmi : Nat) (h : Nat → Int32) (v vc : Nat) (ve : Nat → Option Nat) (E en ek : Nat → Nat) (ef eg : Nat → Nat → Int32) (ev : Nat → Int32) (k : Int32) (hz : M z = some (.inr (6, [.ref v, .ref (z + 1), .int (nI np), .int (nI nmi)]))) (hz1 : M (z + 1) = some (.inl (ca 1, 320, .inl h))) (hnp : np ≤ 320) (hmi : nmi ≤ 320) (hv : M v = some (.inr (7, [.ref (v + 1), .int (nI vc)]))) (hva : M (v + 1) = some (.inl (ca 3, 8, .inr (.inr (.inr (.inr ve)))))) (hvc : vc ≤ 8) (he : ∀ i, i < vc → ve i = some (E i)) (hent : ∀ i, i < vc → isEnt ca M (E i) (en i) (ef i) (ek i) (eg i) (ev i)) : mw_C wsX6_joinedByte l yX6_joinedByte { frames := 3, cells := 0, slots := 0, locals := 66 } D vwCl (mt ca) [.ref z, .int k] M sz (mq_i (fun v9 M' sz' => M' = M ∧ sz' = sz ∧ ((0 < nmi ∧ v9 = -3) ∨ (nmi = 0 ∧ ((∃ i t, i < vc ∧ t < ek i ∧ k = nI (szs ek i + t) ∧ v9 = eg i t) ∨ ((∀ u, u < szs ek vc → k ≠ nI u) ∧ v9 = -1)))))) := by
  refine mw_enter (cc := cX6_joinedByte) (maxL := 2) (ret := (some .int)) rfl (by decide) (Nat.le_of_ble_eq_true rfl) ?_
  intro p e s m below meth c X hr0 hnm hlt
  refine mj_aload_n X dX6_joinedByte_0 rfl 0 rfl ?_
  refine mj_get X (C := RX6) (T := TX6) (N := 4) (ci := 6) w_Transfer_joinedByte1_0 rfl 0 (by decide) w_Transfer_joinedByte1_1 hz rfl dX6_joinedByte_1 ?_
  refine mj_ifnullR X dX6_joinedByte_4 ?_
  refine mj_aload_n X dX6_joinedByte_7 rfl 0 rfl ?_
  refine mj_get X (C := RX6) (T := TX6) (N := 4) (ci := 6) w_Transfer_joinedByte1_0 rfl 3 (by decide) w_Transfer_joinedByte1_2 hz rfl dX6_joinedByte_8 ?_
  refine mj_if_le X 17 dX6_joinedByte_11 (by decide) (fun c11 => ?_) (fun c11 => ?_)
  · refine mj_aload_n X dX6_joinedByte_17 rfl 0 rfl ?_
    refine mj_get X (C := RX6) (T := TX6) (N := 4) (ci := 6) w_Transfer_joinedByte1_0 rfl 0 (by decide) w_Transfer_joinedByte1_1 hz rfl dX6_joinedByte_18 ?_
    refine mj_iload_n X dX6_joinedByte_21 rfl 1 rfl ?_
    refine mj_callV X 1 gX6_joinedByte_X7_byteInAll rfl (by decide +kernel) ⟨by decide, by decide⟩ (c_Version_byteInAll l D ca M sz v vc ve E en ek ef eg ev k hv hva hvc he hent) rfl hv rfl rfl (Nat.le_of_ble_eq_true rfl) dX6_joinedByte_22 ⟨by decide, by decide⟩ (mk_ri (fun b22 hb22 => ?_))
    refine mj_iret X hr0 (by decide) (by decide) dX6_joinedByte_25 ?_
    exact ⟨_, rfl, rfl, rfl, Or.inr ⟨Nat.eq_zero_of_not_pos (fun h9 => nI_nle h9 (by omega) c11), hb22⟩⟩
  · refine mj_bipush X (v := -3) dX6_joinedByte_14 (by decide +kernel) ?_
    refine mj_iret X hr0 (by decide) (by decide) dX6_joinedByte_16 ?_
    exact ⟨_, rfl, rfl, rfl, Or.inl ⟨Nat.pos_of_ne_zero (fun h9 => c11 (by rw [h9, nI_0]; decide)), rfl⟩⟩

