-- ===== entries, lines, versions in cells; the same name =====
def same (n : Nat) (f : Nat → Int32) (m : Nat) (g : Nat → Int32) : Prop := n = m ∧ ∀ j, j < n → f j = g j
def isRow (ca : Nat → ClassId) (M : mw_M) (r cap n : Nat) (f : Nat → Int32) : Prop := M r = some (.inr (5, [.ref (r + 1), .int (nI n)])) ∧ M (r + 1) = some (.inl (ca 0, cap, .inl f)) ∧ n ≤ cap ∧ cap < 1000
/-- an Entry at a: its name's Row at a + 1, its bytes' Row at a + 3 -/
def isEnt (ca : Nat → ClassId) (M : mw_M) (a n : Nat) (f : Nat → Int32) (k : Nat) (g : Nat → Int32) (x : Int32) : Prop :=
  M a = some (.inr (2, [.ref (a + 1), .ref (a + 3), .int (sumN g k), .int x])) ∧ isRow ca M (a + 1) n n f ∧ isRow ca M (a + 3) k k g ∧ n ≤ 24 ∧ k ≤ 40
def isLin (ca : Nat → ClassId) (M : mw_M) (a n : Nat) (f : Nat → Int32) (x y : Int32) : Prop :=
  M a = some (.inr (4, [.ref (a + 1), .int x, .int y])) ∧ isRow ca M (a + 1) n n f ∧ n ≤ 24
theorem nI_m1 {j : Nat} (h : j < 2 ^ 31) : (-1 : Int32) ≠ nI j := fun e => nI_pos h (by rw [← e]; decide)
/-- the sum of the first sizes -/
def szs (z : Nat → Nat) : Nat → Nat
  | 0 => 0
  | i + 1 => szs z i + z i
theorem szs_le {z : Nat → Nat} {k : Nat} (h : ∀ i, i < k → z i ≤ 40) : ∀ j, j ≤ k → szs z j ≤ 40 * j
  | 0, _ => Nat.le_refl 0
  | j + 1, hj => by have h1 := szs_le h j (by omega); have h2 := h j (by omega); simp only [szs]; omega
theorem szs_mono {z : Nat → Nat} : ∀ {a b : Nat}, a ≤ b → szs z a ≤ szs z b
  | a, 0, h => by rw [Nat.le_zero.mp h]; exact Nat.le_refl _
  | a, b + 1, h => by
    rcases Nat.lt_or_ge a (b + 1) with q | q
    · have := szs_mono (z := z) (show a ≤ b by omega); simp only [szs]; omega
    · rw [show a = b + 1 by omega]; exact Nat.le_refl _
/-- how many hold -/
noncomputable def cntP (P : Nat → Prop) : Nat → Nat
  | 0 => 0
  | i + 1 => cntP P i + @ite Nat (P i) (Classical.propDecidable (P i)) 1 0
theorem cntP_t {P : Nat → Prop} {i : Nat} (h : P i) : cntP P (i + 1) = cntP P i + 1 := by simp [cntP, h]
theorem cntP_f {P : Nat → Prop} {i : Nat} (h : ¬ P i) : cntP P (i + 1) = cntP P i := by simp [cntP, h]
theorem cntP_le (P : Nat → Prop) : ∀ i, cntP P i ≤ i
  | 0 => Nat.le_refl 0
  | i + 1 => by
    have := cntP_le P i
    by_cases h : P i
    · rw [cntP_t h]; omega
    · rw [cntP_f h]; omega
theorem i32_neg {x : Int32} {n : Nat} (hn : n < 2 ^ 31) (h : x < 0) : ¬ nI n ≤ x := fun h2 => by
  have h3 := Int32.le_iff_toInt_le.mp h2
  have h4 := Int32.lt_iff_toInt_lt.mp h
  rw [nI_toInt hn] at h3
  have h5 : (0 : Int32).toInt = 0 := by decide
  omega
theorem w_Version_size_0 : ∀ w ∈ u_ws RX7 TX7 2, w ∈ wsX7_size := by decide +kernel
theorem w_Version_size_1 : Cond.fieldLink RX7 17 "PackageRows2$Version" "count" "I" ∈ wsX7_size := by decide +kernel
set_option maxHeartbeats 4000000 in
set_option maxRecDepth 100000 in
/--  -/
theorem c_Version_size (l : Launch) (D : va_G) (ca : Nat → ClassId) (M : mw_M) (sz v vc : Nat) (hv : M v = some (.inr (7, [.ref (v + 1), .int (nI vc)]))) : mw_C wsX7_size l yX7_size { frames := 0, cells := 0, slots := 0, locals := 0 } D vwCl (mt ca) [.ref v] M sz (mq_i (fun v9 M' sz' => M' = M ∧ sz' = sz ∧ v9 = nI vc)) := by
  refine mw_enter (cc := cX7_size) (maxL := 1) (ret := (some .int)) rfl (by decide) (Nat.le_of_ble_eq_true rfl) ?_
  intro p e s m below meth c X hr0 hnm hlt
  refine mj_aload_n X dX7_size_0 rfl 0 rfl ?_
  refine mj_get X (C := RX7) (T := TX7) (N := 2) (ci := 7) w_Version_size_0 rfl 1 (by decide) w_Version_size_1 hv rfl dX7_size_1 ?_
  refine mj_iret X hr0 (by decide) (by decide) dX7_size_4 ?_
  exact ⟨_, rfl, rfl, rfl, rfl⟩

theorem w_Version_init_0 : Cond.methodLink RX7 3 Lib.objectInit ∈ wsX7_init := by decide +kernel
theorem w_Version_init_1 : Cond.instanceMethod Lib.objectInit ∈ wsX7_init := by decide +kernel
theorem w_Version_init_2 : Cond.code Lib.objectInit ⟨#[0xb1]⟩ 1 none ∈ wsX7_init := by decide +kernel
theorem w_Version_init_3 : Cond.classLink RX7 9 RX1 ∈ wsX7_init := by decide +kernel
theorem w_Version_init_4 : ∀ w ∈ u_ws RX7 TX7 2, w ∈ wsX7_init := by decide +kernel
theorem w_Version_init_5 : Cond.fieldLink RX7 11 "PackageRows2$Version" "entries" "[LPackageRows2$Entry;" ∈ wsX7_init := by decide +kernel
theorem w_Version_init_6 : Cond.fieldLink RX7 17 "PackageRows2$Version" "count" "I" ∈ wsX7_init := by decide +kernel
set_option maxHeartbeats 4000000 in
set_option maxRecDepth 100000 in
/--  -/
theorem c_Version_init (l : Launch) (D : va_G) (ca : Nat → ClassId) (M : mw_M) (q : Nat) (hq : M q = some (.inr (7, [.null, .int 0]))) : mw_C wsX7_init l yX7_init { frames := 1, cells := 1, slots := 8, locals := 12 } D vwCl (mt ca) [.ref q] M (q + 1) (mq_v (fun M' sz' => M' = mw_u (mw_u M (q + 1) (.inl (ca 3, 8, .inr (.inr (.inr (.inr (fun _ => none))))))) q (.inr (7, [.ref (q + 1), .int (nI 0)])) ∧ sz' = q + 2)) := by
  refine mw_enter (cc := cX7_init) (maxL := 1) (ret := none) rfl (by decide) (Nat.le_of_ble_eq_true rfl) ?_
  intro p e s m below meth c X hr0 hnm hlt
  refine mj_aload_n X dX7_init_0 rfl 0 rfl ?_
  refine mj_objInit X w_Version_init_0 w_Version_init_1 w_Version_init_2 dX7_init_1 (by decide) (Nat.le_of_ble_eq_true rfl) ?_
  refine mj_aload_n X dX7_init_4 rfl 0 rfl ?_
  refine mj_bipush X (v := 8) dX7_init_5 (by decide +kernel) ?_
  refine mj_newq X 3 8 (C := RX1) rfl w_Version_init_3 (by decide) (by decide) (by decide) (by decide) (by decide) (by decide) dX7_init_7 ?_
  have f1_ := (mw_un (M := M) (e := (.inl (ca 3, 8, .inr (.inr (.inr (.inr (fun _ => none))))))) (show q ≠ q + 1 by omega)).trans hq
  refine mj_putF X (C := RX7) (T := TX7) (N := 2) (ci := 7) (v := .ref (q + 1)) tyX7 w_Version_init_4 tyX7_ok nmX7 rfl 0 (by decide) w_Version_init_5 rfl f1_ [.ref (q + 1), .int 0] (Nat.le_of_ble_eq_true rfl) rfl rfl rfl rfl hnm rfl dX7_init_10 ?_
  refine mj_aload_n X dX7_init_13 rfl 0 rfl ?_
  refine mj_iconst X (v := 0) dX7_init_14 (by decide +kernel) ?_
  have f2_ := mw_us (M := (mw_u M (q + 1) (.inl (ca 3, 8, .inr (.inr (.inr (.inr (fun _ => none)))))))) (a := q) (e := (.inr (7, [.ref (q + 1), .int 0])))
  refine mj_put X (C := RX7) (T := TX7) (N := 2) (ci := 7) (v := .int 0) tyX7 w_Version_init_4 tyX7_ok nmX7 rfl 1 (by decide) w_Version_init_6 rfl f2_ [.ref (q + 1), .int 0] (Nat.le_of_ble_eq_true rfl) rfl rfl rfl rfl dX7_init_15 ?_
  refine mj_vret X hr0 (by decide) (by decide) dX7_init_18 ?_
  exact ⟨rfl, by rw [mw_uu, nI_0], rfl⟩

theorem w_Version_entryOrNull_0 : ∀ w ∈ u_ws RX7 TX7 2, w ∈ wsX7_entryOrNull := by decide +kernel
theorem w_Version_entryOrNull_1 : Cond.fieldLink RX7 17 "PackageRows2$Version" "count" "I" ∈ wsX7_entryOrNull := by decide +kernel
theorem w_Version_entryOrNull_2 : Cond.fieldLink RX7 11 "PackageRows2$Version" "entries" "[LPackageRows2$Entry;" ∈ wsX7_entryOrNull := by decide +kernel
set_option maxHeartbeats 4000000 in
set_option maxRecDepth 100000 in
/--  -/
theorem c_Version_entryOrNull (l : Launch) (D : va_G) (ca : Nat → ClassId) (M : mw_M) (sz v vc : Nat) (ve : Nat → Option Nat) (E : Nat → Nat) (k : Int32) (hv : M v = some (.inr (7, [.ref (v + 1), .int (nI vc)]))) (hva : M (v + 1) = some (.inl (ca 3, 8, .inr (.inr (.inr (.inr ve)))))) (hvc : vc ≤ 8) (he : ∀ i, i < vc → ve i = some (E i)) : mw_C wsX7_entryOrNull l yX7_entryOrNull { frames := 0, cells := 0, slots := 0, locals := 0 } D vwCl (mt ca) [.ref v, .int k] M sz (mq_q (fun o M' sz' => M' = M ∧ sz' = sz ∧ ((∃ j, j < vc ∧ k = nI j ∧ o = some (E j)) ∨ ((∀ j, j < vc → k ≠ nI j) ∧ o = none)))) := by
  refine mw_enter (cc := cX7_entryOrNull) (maxL := 2) (ret := (some (.object "PackageRows2$Entry"))) rfl (by decide) (Nat.le_of_ble_eq_true rfl) ?_
  intro p e s m below meth c X hr0 hnm hlt
  refine mj_iload_n X dX7_entryOrNull_0 rfl 1 rfl ?_
  refine mj_if_lt X 12 dX7_entryOrNull_1 (by decide) (fun c1 => ?_) (fun c1 => ?_)
  · refine mj_null X dX7_entryOrNull_12 ?_
    refine mj_goto X 22 dX7_entryOrNull_13 (by decide) ?_
    refine mj_aret X (Or.inl rfl) hr0 (by decide) (by decide) dX7_entryOrNull_22 ?_
    exact ⟨none, rfl, rfl, rfl, Or.inr ⟨fun j hj e9 => absurd c1 (by rw [e9]; exact nI_pos (by omega)), rfl⟩⟩
  · refine mj_iload_n X dX7_entryOrNull_4 rfl 1 rfl ?_
    refine mj_aload_n X dX7_entryOrNull_5 rfl 0 rfl ?_
    refine mj_get X (C := RX7) (T := TX7) (N := 2) (ci := 7) w_Version_entryOrNull_0 rfl 1 (by decide) w_Version_entryOrNull_1 hv rfl dX7_entryOrNull_6 ?_
    refine mj_icmp_lt X 16 dX7_entryOrNull_9 (by decide) (fun c9 => ?_) (fun c9 => ?_)
    · obtain ⟨j, hj, ej⟩ : ∃ j, j < vc ∧ k = nI j := by
        rcases pk_ix k (n := vc) (by omega) with h | h | h
        · exact absurd h c1
        · exact absurd c9 (by obtain ⟨j9, hj9, e9⟩ := nI_of c1; rw [e9] at h ⊢; exact nI_nlt ((nI_leI (by omega) hj9).mp h) hj9)
        · exact h
      refine mj_aload_n X dX7_entryOrNull_16 rfl 0 rfl ?_
      refine mj_get X (C := RX7) (T := TX7) (N := 2) (ci := 7) w_Version_entryOrNull_0 rfl 0 (by decide) w_Version_entryOrNull_2 hv rfl dX7_entryOrNull_17 ?_
      refine mj_iload_n X dX7_entryOrNull_20 rfl 1 rfl ?_
      refine mj_aald X 3 (ve j) rfl hva (by rw [ej]; exact vp_in_nI (by omega) (by omega)) (by rw [ej, nI_clamp (by omega)]) dX7_entryOrNull_21 ?_
      refine mj_top' (.ref (E j)) (by rw [he j hj]; rfl) ?_
      refine mj_aret X (Or.inr ⟨_, rfl⟩) hr0 (by decide) (by decide) dX7_entryOrNull_22 ?_
      exact ⟨some (E j), rfl, rfl, rfl, Or.inl ⟨j, hj, ej, rfl⟩⟩
    · refine mj_null X dX7_entryOrNull_12 ?_
      refine mj_goto X 22 dX7_entryOrNull_13 (by decide) ?_
      refine mj_aret X (Or.inl rfl) hr0 (by decide) (by decide) dX7_entryOrNull_22 ?_
      exact ⟨none, rfl, rfl, rfl, Or.inr ⟨fun j hj e9 => c9 (by rw [e9]; exact nI_lt hj (by omega)), rfl⟩⟩

theorem w_Version_placeOf_0 : ∀ w ∈ u_ws RX7 TX7 2, w ∈ wsX7_placeOf := by decide +kernel
theorem w_Version_placeOf_1 : Cond.fieldLink RX7 17 "PackageRows2$Version" "count" "I" ∈ wsX7_placeOf := by decide +kernel
theorem w_Version_placeOf_2 : Cond.fieldLink RX7 11 "PackageRows2$Version" "entries" "[LPackageRows2$Entry;" ∈ wsX7_placeOf := by decide +kernel
theorem w_Version_placeOf_3 : ∀ w ∈ u_ws RX1 TX1 4, w ∈ wsX7_placeOf := by decide +kernel
theorem w_Version_placeOf_4 : Cond.fieldLink RX7 21 "PackageRows2$Entry" "name" "LPackageRows2$Row;" ∈ wsX7_placeOf := by decide +kernel
set_option maxHeartbeats 4000000 in
set_option maxRecDepth 100000 in
theorem lp_Version_placeOf_2 {l : Launch} {D : va_G} {ca : Nat → ClassId} (M : mw_M) (sz v vc : Nat) (ve : Nat → Option Nat) (E en ek : Nat → Nat) (ef eg : Nat → Nat → Int32) (ev : Nat → Int32) (r cap n : Nat) (f : Nat → Int32) (hv : M v = some (.inr (7, [.ref (v + 1), .int (nI vc)]))) (hva : M (v + 1) = some (.inl (ca 3, 8, .inr (.inr (.inr (.inr ve)))))) (hvc : vc ≤ 8) (he : ∀ i, i < vc → ve i = some (E i)) (hent : ∀ i, i < vc → isEnt ca M (E i) (en i) (ef i) (ek i) (eg i) (ev i)) (hr : M r = some (.inr (5, [.ref (r + 1), .int (nI n)]))) (ha : M (r + 1) = some (.inl (ca 0, cap, .inl f))) (hn : n ≤ cap) (hcap : cap < 1000) {p : Program} {e : Env} {s : State} {m : MethodId} {below : List Frame} {meth : Method} {c : Code} (X : mw_X p s m ([.ref v, .ref r] : List Value).toArray meth c cX7_placeOf 3 yX7_placeOf.cls wsX7_placeOf D vwCl (mt ca)) (hr0 : meth.sig.returnType = (some .int)) (hnm : meth.name = yX7_placeOf.name) (hlt : ∀ (a : Nat) (x : va_E), M a = some x → a < sz) : ∀ (fu : Nat) (i : Nat), i ≤ vc → vc < i + fu → (∀ j, j < i → ¬ same (en j) (ef j) n f) → mw_J p l e { frames := 2, cells := 0, slots := 0, locals := 43 } s m ([.ref v, .ref r] : List Value).toArray below meth c 3 D vwCl (mw_A M sz) (MQ below (mw_Q D vwCl M sz (mq_i (fun v9 M' sz' => M' = M ∧ sz' = sz ∧ ((∃ i, i < vc ∧ same (en i) (ef i) n f ∧ (∀ j, j < i → ¬ same (en j) (ef j) n f) ∧ v9 = nI i) ∨ ((∀ j, j < vc → ¬ same (en j) (ef j) n f) ∧ v9 = -1))))) ([.ref v, .ref r] : List Value).toArray s 0 0 (mw_A M sz)) 2 [(0, .ref v), (1, .ref r), (2, .int (nI i))] [] M sz 0 0 := by
  intro fu
  induction fu with
  | zero => intro i h1 h2; omega
  | succ fu ih =>
    intro i hi hfu hall
    refine mj_iload_n X dX7_placeOf_2 rfl 2 rfl ?_
    refine mj_aload_n X dX7_placeOf_3 rfl 0 rfl ?_
    refine mj_get X (C := RX7) (T := TX7) (N := 2) (ci := 7) w_Version_placeOf_0 rfl 1 (by decide) w_Version_placeOf_1 hv rfl dX7_placeOf_4 ?_
    refine mj_icmp_ge X 34 dX7_placeOf_7 (by decide) (fun c7 => ?_) (fun c7 => ?_)
    · refine mj_iconst X (v := -1) dX7_placeOf_34 (by decide +kernel) ?_
      refine mj_iret X hr0 (by decide) (by decide) dX7_placeOf_35 ?_
      exact ⟨_, rfl, rfl, rfl, Or.inr ⟨fun j hj => hall j (by have h9 := (nI_leI (by omega) (by omega)).mp c7; omega), rfl⟩⟩
    · have hlt7 : i < vc := Nat.not_le.mp (fun h9 => c7 (nI_le h9 (by omega)))
      obtain ⟨hE1, ⟨hE2, hE3, hE4, hE5⟩, ⟨hE6, hE7, hE8, hE9⟩, hE10, hE11⟩ := hent i hlt7
      refine mj_aload_n X dX7_placeOf_10 rfl 0 rfl ?_
      refine mj_get X (C := RX7) (T := TX7) (N := 2) (ci := 7) w_Version_placeOf_0 rfl 0 (by decide) w_Version_placeOf_2 hv rfl dX7_placeOf_11 ?_
      refine mj_iload_n X dX7_placeOf_14 rfl 2 rfl ?_
      refine mj_aald X 3 (ve i) rfl hva (vp_in_nI (by omega) (by omega)) (by rw [nI_clamp (by omega)]) dX7_placeOf_15 ?_
      refine mj_top' (.ref (E i)) (by rw [he i hlt7]; rfl) ?_
      refine mj_get X (C := RX1) (T := TX1) (N := 4) (ci := 2) w_Version_placeOf_3 rfl 0 (by decide) w_Version_placeOf_4 hE1 rfl dX7_placeOf_16 ?_
      refine mj_aload_n X dX7_placeOf_19 rfl 1 rfl ?_
      refine mj_callV X 1 gX7_placeOf_X5_alike rfl (by decide +kernel) ⟨by decide, by decide⟩ (c_Row_alike l D ca M sz (E i + 1) (en i) (en i) (ef i) r cap n f hE2 hE3 hE4 hE5 hr ha hn hcap) rfl hE2 rfl rfl (Nat.le_of_ble_eq_true rfl) dX7_placeOf_20 ⟨by decide, by decide⟩ (mk_ri (fun b2 hb2 => ?_))
      refine mj_if_eq X 28 dX7_placeOf_23 (by decide) (fun c23 => ?_) (fun c23 => ?_)
      · refine mj_iinc X [(2, .int (nI (i + 1))), (0, .ref v), (1, .ref r)] dX7_placeOf_28 2 rfl (nI_1 i) (by decide) rfl ?_
        refine mj_goto X 2 dX7_placeOf_31 (by decide) ?_
        refine mj_sub [1, 2, 0] rfl ?_
        have hs9 : ¬ same (en i) (ef i) n f := by
          rcases hb2 with ⟨h2, -⟩ | ⟨-, h2⟩
          · rw [h2] at c23; exact absurd c23 (by decide)
          · exact h2
        exact ih (i + 1) hlt7 (by omega) (lt_s hall hs9)
      · refine mj_iload_n X dX7_placeOf_26 rfl 2 rfl ?_
        refine mj_iret X hr0 (by decide) (by decide) dX7_placeOf_27 ?_
        have hs9 : same (en i) (ef i) n f := by
          rcases hb2 with ⟨-, h2⟩ | ⟨h2, -⟩
          · exact h2
          · exact absurd h2 c23
        exact ⟨_, rfl, rfl, rfl, Or.inl ⟨i, hlt7, hs9, hall, rfl⟩⟩
set_option maxHeartbeats 4000000 in
set_option maxRecDepth 100000 in
/--  -/
theorem c_Version_placeOf (l : Launch) (D : va_G) (ca : Nat → ClassId) (M : mw_M) (sz v vc : Nat) (ve : Nat → Option Nat) (E en ek : Nat → Nat) (ef eg : Nat → Nat → Int32) (ev : Nat → Int32) (r cap n : Nat) (f : Nat → Int32) (hv : M v = some (.inr (7, [.ref (v + 1), .int (nI vc)]))) (hva : M (v + 1) = some (.inl (ca 3, 8, .inr (.inr (.inr (.inr ve)))))) (hvc : vc ≤ 8) (he : ∀ i, i < vc → ve i = some (E i)) (hent : ∀ i, i < vc → isEnt ca M (E i) (en i) (ef i) (ek i) (eg i) (ev i)) (hr : M r = some (.inr (5, [.ref (r + 1), .int (nI n)]))) (ha : M (r + 1) = some (.inl (ca 0, cap, .inl f))) (hn : n ≤ cap) (hcap : cap < 1000) : mw_C wsX7_placeOf l yX7_placeOf { frames := 2, cells := 0, slots := 0, locals := 43 } D vwCl (mt ca) [.ref v, .ref r] M sz (mq_i (fun v9 M' sz' => M' = M ∧ sz' = sz ∧ ((∃ i, i < vc ∧ same (en i) (ef i) n f ∧ (∀ j, j < i → ¬ same (en j) (ef j) n f) ∧ v9 = nI i) ∨ ((∀ j, j < vc → ¬ same (en j) (ef j) n f) ∧ v9 = -1)))) := by
  refine mw_enter (cc := cX7_placeOf) (maxL := 3) (ret := (some .int)) rfl (by decide) (Nat.le_of_ble_eq_true rfl) ?_
  intro p e s m below meth c X hr0 hnm hlt
  refine mj_iconst X (v := 0) dX7_placeOf_0 (by decide +kernel) ?_
  refine mj_istore_n X [(2, .int 0), (0, .ref v), (1, .ref r)] dX7_placeOf_1 rfl (by decide) rfl ?_
  refine mj_sub [1, 2, 0] rfl ?_
  exact lp_Version_placeOf_2 (l := l) (D := D) (ca := ca) M sz v vc ve E en ek ef eg ev r cap n f hv hva hvc he hent hr ha hn hcap X hr0 hnm hlt (vc + 1) 0 (by omega) (by omega) (fun j hj => absurd hj (by omega))


set_option maxHeartbeats 4000000 in
set_option maxRecDepth 100000 in
/--  -/
theorem c_Version_entryOfPath (l : Launch) (D : va_G) (ca : Nat → ClassId) (M : mw_M) (sz v vc : Nat) (ve : Nat → Option Nat) (E en ek : Nat → Nat) (ef eg : Nat → Nat → Int32) (ev : Nat → Int32) (r cap n : Nat) (f : Nat → Int32) (hv : M v = some (.inr (7, [.ref (v + 1), .int (nI vc)]))) (hva : M (v + 1) = some (.inl (ca 3, 8, .inr (.inr (.inr (.inr ve)))))) (hvc : vc ≤ 8) (he : ∀ i, i < vc → ve i = some (E i)) (hent : ∀ i, i < vc → isEnt ca M (E i) (en i) (ef i) (ek i) (eg i) (ev i)) (hr : M r = some (.inr (5, [.ref (r + 1), .int (nI n)]))) (ha : M (r + 1) = some (.inl (ca 0, cap, .inl f))) (hn : n ≤ cap) (hcap : cap < 1000) : mw_C wsX7_entryOfPath l yX7_entryOfPath { frames := 3, cells := 0, slots := 0, locals := 65 } D vwCl (mt ca) [.ref v, .ref r] M sz (mq_q (fun o M' sz' => M' = M ∧ sz' = sz ∧ ((∃ i, i < vc ∧ same (en i) (ef i) n f ∧ (∀ j, j < i → ¬ same (en j) (ef j) n f) ∧ o = some (E i)) ∨ ((∀ j, j < vc → ¬ same (en j) (ef j) n f) ∧ o = none)))) := by
  refine mw_enter (cc := cX7_entryOfPath) (maxL := 2) (ret := (some (.object "PackageRows2$Entry"))) rfl (by decide) (Nat.le_of_ble_eq_true rfl) ?_
  intro p e s m below meth c X hr0 hnm hlt
  refine mj_aload_n X dX7_entryOfPath_0 rfl 0 rfl ?_
  refine mj_aload_n X dX7_entryOfPath_1 rfl 0 rfl ?_
  refine mj_aload_n X dX7_entryOfPath_2 rfl 1 rfl ?_
  refine mj_callV X 1 gX7_entryOfPath_X7_placeOf rfl (by decide +kernel) ⟨by decide, by decide⟩ (c_Version_placeOf l D ca M sz v vc ve E en ek ef eg ev r cap n f hv hva hvc he hent hr ha hn hcap) rfl hv rfl rfl (Nat.le_of_ble_eq_true rfl) dX7_entryOfPath_3 ⟨by decide, by decide⟩ (mk_ri (fun b3 hb3 => ?_))
  refine mj_callV X 1 gX7_entryOfPath_X7_entryOrNull rfl (by decide +kernel) ⟨by decide, by decide⟩ (c_Version_entryOrNull l D ca M sz v vc ve E b3 hv hva hvc he) rfl hv rfl rfl (Nat.le_of_ble_eq_true rfl) dX7_entryOfPath_6 ⟨by decide, by decide⟩ (mk_rq (fun o6 ho6 => ?_))
  refine mj_aret X (by cases o6 <;> simp [va_rf]) hr0 (by decide) (by decide) dX7_entryOfPath_9 ?_
  refine ⟨o6, rfl, rfl, rfl, ?_⟩
  rcases hb3 with ⟨i, h1, h2, h3, h4⟩ | ⟨h1, h4⟩
  · rcases ho6 with ⟨j, g1, g2, g3⟩ | ⟨g1, g2⟩
    · have e9 : i = j := (nI_eq (by omega) (by omega)).mp (h4.symm.trans g2)
      subst e9; exact Or.inl ⟨i, h1, h2, h3, g3⟩
    · exact absurd h4 (g1 i h1)
  · rcases ho6 with ⟨j, g1, g2, g3⟩ | ⟨g1, g2⟩
    · exact absurd (h4.symm.trans g2) (nI_m1 (by omega))
    · exact Or.inr ⟨h1, g2⟩

theorem w_Version_byteCount_0 : ∀ w ∈ u_ws RX7 TX7 2, w ∈ wsX7_byteCount := by decide +kernel
theorem w_Version_byteCount_1 : Cond.fieldLink RX7 17 "PackageRows2$Version" "count" "I" ∈ wsX7_byteCount := by decide +kernel
theorem w_Version_byteCount_2 : Cond.fieldLink RX7 11 "PackageRows2$Version" "entries" "[LPackageRows2$Entry;" ∈ wsX7_byteCount := by decide +kernel
theorem w_Version_byteCount_3 : ∀ w ∈ u_ws RX1 TX1 4, w ∈ wsX7_byteCount := by decide +kernel
theorem w_Version_byteCount_4 : Cond.fieldLink RX7 46 "PackageRows2$Entry" "bytes" "LPackageRows2$Row;" ∈ wsX7_byteCount := by decide +kernel
set_option maxHeartbeats 4000000 in
set_option maxRecDepth 100000 in
theorem lp_Version_byteCount_4 {l : Launch} {D : va_G} {ca : Nat → ClassId} (M : mw_M) (sz v vc : Nat) (ve : Nat → Option Nat) (E en ek : Nat → Nat) (ef eg : Nat → Nat → Int32) (ev : Nat → Int32) (hv : M v = some (.inr (7, [.ref (v + 1), .int (nI vc)]))) (hva : M (v + 1) = some (.inl (ca 3, 8, .inr (.inr (.inr (.inr ve)))))) (hvc : vc ≤ 8) (he : ∀ i, i < vc → ve i = some (E i)) (hent : ∀ i, i < vc → isEnt ca M (E i) (en i) (ef i) (ek i) (eg i) (ev i)) {p : Program} {e : Env} {s : State} {m : MethodId} {below : List Frame} {meth : Method} {c : Code} (X : mw_X p s m ([.ref v] : List Value).toArray meth c cX7_byteCount 3 yX7_byteCount.cls wsX7_byteCount D vwCl (mt ca)) (hr0 : meth.sig.returnType = (some .int)) (hnm : meth.name = yX7_byteCount.name) (hlt : ∀ (a : Nat) (x : va_E), M a = some x → a < sz) : ∀ (fu : Nat) (i : Nat), i ≤ vc → vc < i + fu → mw_J p l e { frames := 1, cells := 0, slots := 0, locals := 20 } s m ([.ref v] : List Value).toArray below meth c 3 D vwCl (mw_A M sz) (MQ below (mw_Q D vwCl M sz (mq_i (fun v9 M' sz' => M' = M ∧ sz' = sz ∧ v9 = nI (szs ek vc)))) ([.ref v] : List Value).toArray s 0 0 (mw_A M sz)) 4 [(0, .ref v), (1, .int (nI (szs ek i))), (2, .int (nI i))] [] M sz 0 0 := by
  intro fu
  induction fu with
  | zero => intro i h1 h2; omega
  | succ fu ih =>
    intro i hi hfu
    refine mj_iload_n X dX7_byteCount_4 rfl 2 rfl ?_
    refine mj_aload_n X dX7_byteCount_5 rfl 0 rfl ?_
    refine mj_get X (C := RX7) (T := TX7) (N := 2) (ci := 7) w_Version_byteCount_0 rfl 1 (by decide) w_Version_byteCount_1 hv rfl dX7_byteCount_6 ?_
    refine mj_icmp_ge X 33 dX7_byteCount_9 (by decide) (fun c9 => ?_) (fun c9 => ?_)
    · refine mj_iload_n X dX7_byteCount_33 rfl 1 rfl ?_
      refine mj_iret X hr0 (by decide) (by decide) dX7_byteCount_34 ?_
      exact ⟨_, rfl, rfl, rfl, by rw [show i = vc by have h9 := (nI_leI (by omega) (by omega)).mp c9; omega]⟩
    · have hlt9 : i < vc := Nat.not_le.mp (fun h9 => c9 (nI_le h9 (by omega)))
      obtain ⟨hE1, ⟨hE2, hE3, hE4, hE5⟩, ⟨hE6, hE7, hE8, hE9⟩, hE10, hE11⟩ := hent i hlt9
      refine mj_iload_n X dX7_byteCount_12 rfl 1 rfl ?_
      refine mj_aload_n X dX7_byteCount_13 rfl 0 rfl ?_
      refine mj_get X (C := RX7) (T := TX7) (N := 2) (ci := 7) w_Version_byteCount_0 rfl 0 (by decide) w_Version_byteCount_2 hv rfl dX7_byteCount_14 ?_
      refine mj_iload_n X dX7_byteCount_17 rfl 2 rfl ?_
      refine mj_aald X 3 (ve i) rfl hva (vp_in_nI (by omega) (by omega)) (by rw [nI_clamp (by omega)]) dX7_byteCount_18 ?_
      refine mj_top' (.ref (E i)) (by rw [he i hlt9]; rfl) ?_
      refine mj_get X (C := RX1) (T := TX1) (N := 4) (ci := 2) w_Version_byteCount_3 rfl 1 (by decide) w_Version_byteCount_4 hE1 rfl dX7_byteCount_19 ?_
      refine mj_callV X 0 gX7_byteCount_X5_size rfl (by decide +kernel) ⟨by decide, by decide⟩ (c_Row_size l D ca M sz (E i + 3) (ek i) (ek i) (eg i) hE6 hE7 hE8 hE9) rfl hE6 rfl rfl (Nat.le_of_ble_eq_true rfl) dX7_byteCount_22 ⟨by decide, by decide⟩ (mk_ri (fun b2 hb2 => ?_))
      subst hb2
      refine mj_iadd X dX7_byteCount_25 ?_
      refine mj_top (nI (szs ek (i + 1))) (by rw [nI_add]; rfl) ?_
      refine mj_istore_n X [(1, .int (nI (szs ek (i + 1)))), (0, .ref v), (2, .int (nI i))] dX7_byteCount_26 rfl (by decide) rfl ?_
      refine mj_iinc X [(2, .int (nI (i + 1))), (1, .int (nI (szs ek (i + 1)))), (0, .ref v)] dX7_byteCount_27 2 rfl (nI_1 i) (by decide) rfl ?_
      refine mj_goto X 4 dX7_byteCount_30 (by decide) ?_
      refine mj_sub [2, 1, 0] rfl ?_
      exact ih (i + 1) hlt9 (by omega)
set_option maxHeartbeats 4000000 in
set_option maxRecDepth 100000 in
/--  -/
theorem c_Version_byteCount (l : Launch) (D : va_G) (ca : Nat → ClassId) (M : mw_M) (sz v vc : Nat) (ve : Nat → Option Nat) (E en ek : Nat → Nat) (ef eg : Nat → Nat → Int32) (ev : Nat → Int32) (hv : M v = some (.inr (7, [.ref (v + 1), .int (nI vc)]))) (hva : M (v + 1) = some (.inl (ca 3, 8, .inr (.inr (.inr (.inr ve)))))) (hvc : vc ≤ 8) (he : ∀ i, i < vc → ve i = some (E i)) (hent : ∀ i, i < vc → isEnt ca M (E i) (en i) (ef i) (ek i) (eg i) (ev i)) : mw_C wsX7_byteCount l yX7_byteCount { frames := 1, cells := 0, slots := 0, locals := 20 } D vwCl (mt ca) [.ref v] M sz (mq_i (fun v9 M' sz' => M' = M ∧ sz' = sz ∧ v9 = nI (szs ek vc))) := by
  refine mw_enter (cc := cX7_byteCount) (maxL := 3) (ret := (some .int)) rfl (by decide) (Nat.le_of_ble_eq_true rfl) ?_
  intro p e s m below meth c X hr0 hnm hlt
  refine mj_iconst X (v := 0) dX7_byteCount_0 (by decide +kernel) ?_
  refine mj_istore_n X [(1, .int 0), (0, .ref v)] dX7_byteCount_1 rfl (by decide) rfl ?_
  refine mj_iconst X (v := 0) dX7_byteCount_2 (by decide +kernel) ?_
  refine mj_istore_n X [(2, .int 0), (1, .int 0), (0, .ref v)] dX7_byteCount_3 rfl (by decide) rfl ?_
  refine mj_sub [2, 1, 0] rfl ?_
  rw [← nI_0]
  exact lp_Version_byteCount_4 (l := l) (D := D) (ca := ca) M sz v vc ve E en ek ef eg ev hv hva hvc he hent X hr0 hnm hlt (vc + 1) 0 (by omega) (by omega)

theorem w_Version_byteInAll_0 : ∀ w ∈ u_ws RX7 TX7 2, w ∈ wsX7_byteInAll := by decide +kernel
theorem w_Version_byteInAll_1 : Cond.fieldLink RX7 17 "PackageRows2$Version" "count" "I" ∈ wsX7_byteInAll := by decide +kernel
theorem w_Version_byteInAll_2 : Cond.fieldLink RX7 11 "PackageRows2$Version" "entries" "[LPackageRows2$Entry;" ∈ wsX7_byteInAll := by decide +kernel
theorem w_Version_byteInAll_3 : ∀ w ∈ u_ws RX1 TX1 4, w ∈ wsX7_byteInAll := by decide +kernel
theorem w_Version_byteInAll_4 : Cond.fieldLink RX7 46 "PackageRows2$Entry" "bytes" "LPackageRows2$Row;" ∈ wsX7_byteInAll := by decide +kernel
set_option maxHeartbeats 4000000 in
set_option maxRecDepth 100000 in
theorem lp_Version_byteInAll_4 {l : Launch} {D : va_G} {ca : Nat → ClassId} (M : mw_M) (sz v vc : Nat) (ve : Nat → Option Nat) (E en ek : Nat → Nat) (ef eg : Nat → Nat → Int32) (ev : Nat → Int32) (k : Int32) (hv : M v = some (.inr (7, [.ref (v + 1), .int (nI vc)]))) (hva : M (v + 1) = some (.inl (ca 3, 8, .inr (.inr (.inr (.inr ve)))))) (hvc : vc ≤ 8) (he : ∀ i, i < vc → ve i = some (E i)) (hent : ∀ i, i < vc → isEnt ca M (E i) (en i) (ef i) (ek i) (eg i) (ev i)) {p : Program} {e : Env} {s : State} {m : MethodId} {below : List Frame} {meth : Method} {c : Code} (X : mw_X p s m ([.ref v, .int k] : List Value).toArray meth c cX7_byteInAll 5 yX7_byteInAll.cls wsX7_byteInAll D vwCl (mt ca)) (hr0 : meth.sig.returnType = (some .int)) (hnm : meth.name = yX7_byteInAll.name) (hlt : ∀ (a : Nat) (x : va_E), M a = some x → a < sz) : ∀ (fu : Nat) (x : Int32) (i : Nat), i ≤ vc → vc < i + fu → ((x < 0 ∧ x = k ∧ i = 0) ∨ (∃ t, x = nI t ∧ k = nI (szs ek i + t) ∧ szs ek i + t < 2 ^ 31)) → mw_J p l e { frames := 2, cells := 0, slots := 0, locals := 42 } s m ([.ref v, .int k] : List Value).toArray below meth c 5 D vwCl (mw_A M sz) (MQ below (mw_Q D vwCl M sz (mq_i (fun v9 M' sz' => M' = M ∧ sz' = sz ∧ ((∃ i t, i < vc ∧ t < ek i ∧ k = nI (szs ek i + t) ∧ v9 = eg i t) ∨ ((∀ u, u < szs ek vc → k ≠ nI u) ∧ v9 = -1))))) ([.ref v, .int k] : List Value).toArray s 0 0 (mw_A M sz)) 4 [(0, .ref v), (2, .int x), (3, .int (nI i))] [] M sz 0 0 := by
  intro fu
  induction fu with
  | zero => intro x i h1 h2; omega
  | succ fu ih =>
    intro x i hi hfu hx
    refine mj_iload_n X dX7_byteInAll_4 rfl 2 rfl ?_
    refine mj_aload_n X dX7_byteInAll_5 rfl 0 rfl ?_
    refine mj_get X (C := RX7) (T := TX7) (N := 2) (ci := 7) w_Version_byteInAll_0 rfl 1 (by decide) w_Version_byteInAll_1 hv rfl dX7_byteInAll_6 ?_
    refine mj_icmp_ge X 53 dX7_byteInAll_9 (by decide) (fun c9 => ?_) (fun c9 => ?_)
    · refine mj_iconst X (v := -1) dX7_byteInAll_53 (by decide +kernel) ?_
      refine mj_iret X hr0 (by decide) (by decide) dX7_byteInAll_54 ?_
      have e9 : i = vc := by have h9 := (nI_leI (by omega) (by omega)).mp c9; omega
      refine ⟨_, rfl, rfl, rfl, Or.inr ⟨fun u hu e8 => ?_, rfl⟩⟩
      have h320 := szs_le (fun q hq => (hent q hq).2.2.2.2) vc (Nat.le_refl _)
      rcases hx with ⟨h1, h2, -⟩ | ⟨t, h1, h2, h3⟩
      · rw [h2, e8] at h1; exact nI_pos (by omega) h1
      · have h4 := (nI_eq h3 (by omega)).mp (h2.symm.trans e8); rw [e9] at h4; omega
    · have hlt9 : i < vc := Nat.not_le.mp (fun h9 => c9 (nI_le h9 (by omega)))
      obtain ⟨hE1, ⟨hE2, hE3, hE4, hE5⟩, ⟨hE6, hE7, hE8, hE9⟩, hE10, hE11⟩ := hent i hlt9
      refine mj_aload_n X dX7_byteInAll_12 rfl 0 rfl ?_
      refine mj_get X (C := RX7) (T := TX7) (N := 2) (ci := 7) w_Version_byteInAll_0 rfl 0 (by decide) w_Version_byteInAll_2 hv rfl dX7_byteInAll_13 ?_
      refine mj_iload_n X dX7_byteInAll_16 rfl 2 rfl ?_
      refine mj_aald X 3 (ve i) rfl hva (vp_in_nI (by omega) (by omega)) (by rw [nI_clamp (by omega)]) dX7_byteInAll_17 ?_
      refine mj_top' (.ref (E i)) (by rw [he i hlt9]; rfl) ?_
      refine mj_get X (C := RX1) (T := TX1) (N := 4) (ci := 2) w_Version_byteInAll_3 rfl 1 (by decide) w_Version_byteInAll_4 hE1 rfl dX7_byteInAll_18 ?_
      refine mj_astore X [(4, .ref (E i + 3)), (0, .ref v), (2, .int x), (3, .int (nI i))] dX7_byteInAll_21 (by decide) rfl ?_
      refine mj_iload_n X dX7_byteInAll_23 rfl 2 rfl ?_
      refine mj_aload X dX7_byteInAll_24 0 rfl ?_
      refine mj_callV X 0 gX7_byteInAll_X5_size rfl (by decide +kernel) ⟨by decide, by decide⟩ (c_Row_size l D ca M sz (E i + 3) (ek i) (ek i) (eg i) hE6 hE7 hE8 hE9) rfl hE6 rfl rfl (Nat.le_of_ble_eq_true rfl) dX7_byteInAll_26 ⟨by decide, by decide⟩ (mk_ri (fun b2 hb2 => ?_))
      subst hb2
      refine mj_icmp_ge X 39 dX7_byteInAll_29 (by decide) (fun c29 => ?_) (fun c29 => ?_)
      · refine mj_iload_n X dX7_byteInAll_39 rfl 2 rfl ?_
        refine mj_aload X dX7_byteInAll_40 0 rfl ?_
        refine mj_callV X 0 gX7_byteInAll_X5_size rfl (by decide +kernel) ⟨by decide, by decide⟩ (c_Row_size l D ca M sz (E i + 3) (ek i) (ek i) (eg i) hE6 hE7 hE8 hE9) rfl hE6 rfl rfl (Nat.le_of_ble_eq_true rfl) dX7_byteInAll_42 ⟨by decide, by decide⟩ (mk_ri (fun b2 hb2 => ?_))
        subst hb2
        refine mj_isub X dX7_byteInAll_45 ?_
        refine mj_istore_n X [(2, .int (x - (nI (ek i)))), (4, .ref (E i + 3)), (0, .ref v), (3, .int (nI i))] dX7_byteInAll_46 rfl (by decide) rfl ?_
        refine mj_iinc X [(3, .int (nI (i + 1))), (2, .int (x - (nI (ek i)))), (4, .ref (E i + 3)), (0, .ref v)] dX7_byteInAll_47 3 rfl (nI_1 i) (by decide) rfl ?_
        refine mj_goto X 4 dX7_byteInAll_50 (by decide) ?_
        refine mj_sub [3, 1, 0] rfl ?_
        have h320 := szs_le (fun q hq => (hent q hq).2.2.2.2) vc (Nat.le_refl _)
        refine ih _ (i + 1) hlt9 (by omega) ?_
        rcases hx with ⟨h1, h2, h3⟩ | ⟨t, h1, h2, h3⟩
        · exact absurd c29 (i32_neg (by omega) h1)
        · have hti : ek i ≤ t := by rw [h1] at c29; exact (nI_leI (by omega) (by omega)).mp c29
          exact Or.inr ⟨t - ek i, by rw [h1, pk_sub hti], by rw [h2]; simp only [szs]; rw [show szs ek i + ek i + (t - ek i) = szs ek i + t by omega], by simp only [szs]; omega⟩
      · refine mj_aload X dX7_byteInAll_32 0 rfl ?_
        refine mj_iload_n X dX7_byteInAll_34 rfl 2 rfl ?_
        refine mj_callV X 1 gX7_byteInAll_X5_cell rfl (by decide +kernel) ⟨by decide, by decide⟩ (c_Row_cell l D ca M sz (E i + 3) (ek i) (ek i) (eg i) x hE6 hE7 hE8 hE9) rfl hE6 rfl rfl (Nat.le_of_ble_eq_true rfl) dX7_byteInAll_35 ⟨by decide, by decide⟩ (mk_ri (fun b35 hb35 => ?_))
        refine mj_iret X hr0 (by decide) (by decide) dX7_byteInAll_38 ?_
        refine ⟨_, rfl, rfl, rfl, ?_⟩
        have h320 := szs_le (fun q hq => (hent q hq).2.2.2.2) vc (Nat.le_refl _)
        have h321 := szs_mono (z := ek) (show i + 1 ≤ vc by omega)
        simp only [szs] at h321
        rcases hx with ⟨h1, h2, h3⟩ | ⟨t, h1, h2, h3⟩
        · rcases hb35 with ⟨j, g1, g2, -⟩ | ⟨-, g3⟩
          · rw [g2] at h1; exact absurd h1 (nI_pos (by omega))
          · exact Or.inr ⟨fun u hu e8 => by rw [h2, e8] at h1; exact nI_pos (by omega) h1, g3⟩
        · have hti : t < ek i := by rw [h1] at c29; exact Nat.not_le.mp (fun h9 => c29 (nI_le h9 (by omega)))
          rcases hb35 with ⟨j, g1, g2, g3⟩ | ⟨g1, -⟩
          · have e8 : t = j := (nI_eq (by omega) (by omega)).mp (h1.symm.trans g2)
            subst e8; exact Or.inl ⟨i, t, hlt9, hti, h2, g3⟩
          · exact absurd h1 (g1 t hti)
set_option maxHeartbeats 4000000 in
set_option maxRecDepth 100000 in
/--  -/
theorem c_Version_byteInAll (l : Launch) (D : va_G) (ca : Nat → ClassId) (M : mw_M) (sz v vc : Nat) (ve : Nat → Option Nat) (E en ek : Nat → Nat) (ef eg : Nat → Nat → Int32) (ev : Nat → Int32) (k : Int32) (hv : M v = some (.inr (7, [.ref (v + 1), .int (nI vc)]))) (hva : M (v + 1) = some (.inl (ca 3, 8, .inr (.inr (.inr (.inr ve)))))) (hvc : vc ≤ 8) (he : ∀ i, i < vc → ve i = some (E i)) (hent : ∀ i, i < vc → isEnt ca M (E i) (en i) (ef i) (ek i) (eg i) (ev i)) : mw_C wsX7_byteInAll l yX7_byteInAll { frames := 2, cells := 0, slots := 0, locals := 42 } D vwCl (mt ca) [.ref v, .int k] M sz (mq_i (fun v9 M' sz' => M' = M ∧ sz' = sz ∧ ((∃ i t, i < vc ∧ t < ek i ∧ k = nI (szs ek i + t) ∧ v9 = eg i t) ∨ ((∀ u, u < szs ek vc → k ≠ nI u) ∧ v9 = -1)))) := by
  refine mw_enter (cc := cX7_byteInAll) (maxL := 5) (ret := (some .int)) rfl (by decide) (Nat.le_of_ble_eq_true rfl) ?_
  intro p e s m below meth c X hr0 hnm hlt
  refine mj_iload_n X dX7_byteInAll_0 rfl 1 rfl ?_
  refine mj_istore_n X [(2, .int k), (0, .ref v), (1, .int k)] dX7_byteInAll_1 rfl (by decide) rfl ?_
  refine mj_iconst X (v := 0) dX7_byteInAll_2 (by decide +kernel) ?_
  refine mj_istore_n X [(3, .int 0), (2, .int k), (0, .ref v), (1, .int k)] dX7_byteInAll_3 rfl (by decide) rfl ?_
  refine mj_sub [2, 1, 0] rfl ?_
  exact lp_Version_byteInAll_4 (l := l) (D := D) (ca := ca) M sz v vc ve E en ek ef eg ev k hv hva hvc he hent X hr0 hnm hlt (vc + 1) k 0 (by omega) (by omega) (by
    by_cases hk0 : k < 0
    · exact Or.inl ⟨hk0, rfl, rfl⟩
    · obtain ⟨t, ht, e9⟩ := nI_of hk0
      exact Or.inr ⟨t, e9, by rw [e9]; simp [szs], by simp only [szs]; omega⟩)

