/-- file i of a version stands in the other one with alike bytes -/
def alk (wc : Nat) (fn fk : Nat → Nat) (ff fg : Nat → Nat → Int32) (en ek : Nat → Nat) (ef eg : Nat → Nat → Int32) (i : Nat) : Prop :=
  ∃ i2, i2 < wc ∧ same (fn i2) (ff i2) (en i) (ef i) ∧ (∀ j, j < i2 → ¬ same (fn j) (ff j) (en i) (ef i)) ∧ same (fk i2) (fg i2) (ek i) (eg i)
/-- a name stands before another one, as the class's order tells it -/
def lessR (n : Nat) (f : Nat → Int32) (m : Nat) (g : Nat → Int32) : Prop :=
  (∃ k, k < n ∧ k < m ∧ (∀ j, j < k → f j = g j) ∧ f k ≠ g k ∧ f k - g k < 0) ∨ ((∀ j, j < n → j < m → f j = g j) ∧ nI n - nI m < 0)
theorem lessR_of {n m : Nat} {f g : Nat → Int32} {b : Int32} (h : (∃ k, k < n ∧ k < m ∧ (∀ j, j < k → f j = g j) ∧ f k ≠ g k ∧ b = f k - g k) ∨ ((∀ j, j < n → j < m → f j = g j) ∧ b = nI n - nI m)) : b < 0 ↔ lessR n f m g := by
  constructor
  · intro hb
    rcases h with ⟨k, h1, h2, h3, h4, h5⟩ | ⟨h1, h2⟩
    · exact Or.inl ⟨k, h1, h2, h3, h4, by rw [← h5]; exact hb⟩
    · exact Or.inr ⟨h1, by rw [← h2]; exact hb⟩
  · intro hl
    rcases h with ⟨k, h1, h2, h3, h4, h5⟩ | ⟨h1, h2⟩ <;> rcases hl with ⟨k', g1, g2, g3, g4, g5⟩ | ⟨g1, g2⟩
    · have e1 : k = k' := by
        rcases Nat.lt_trichotomy k k' with q | q | q
        · exact absurd (g3 k q) h4
        · exact q
        · exact absurd (h3 k' q) g4
      subst e1; rw [h5]; exact g5
    · exact absurd (g1 k h1 h2) h4
    · exact absurd (h1 k' g1 g2) g4
    · rw [h2]; exact g2
theorem i32_nge {x : Int32} (h : ¬ 0 ≤ x) : x < 0 := Int32.not_le.mp h
theorem i32_ge {x : Int32} (h : 0 ≤ x) : ¬ x < 0 := Int32.not_lt.mpr h
theorem mw_self {M : mw_M} {a : Nat} {x : va_E} (h : M a = some x) : mw_u M a x = M := by
  funext q
  by_cases h1 : q = a
  · subst h1; rw [mw_us, h]
  · rw [mw_un h1]
theorem w_Version_countAlike_0 : ∀ w ∈ u_ws RX7 TX7 2, w ∈ wsX7_countAlike := by decide +kernel
theorem w_Version_countAlike_1 : Cond.fieldLink RX7 17 "PackageRows2$Version" "count" "I" ∈ wsX7_countAlike := by decide +kernel
theorem w_Version_countAlike_2 : Cond.fieldLink RX7 11 "PackageRows2$Version" "entries" "[LPackageRows2$Entry;" ∈ wsX7_countAlike := by decide +kernel
theorem w_Version_countAlike_3 : ∀ w ∈ u_ws RX1 TX1 4, w ∈ wsX7_countAlike := by decide +kernel
theorem w_Version_countAlike_4 : Cond.fieldLink RX7 21 "PackageRows2$Entry" "name" "LPackageRows2$Row;" ∈ wsX7_countAlike := by decide +kernel
theorem w_Version_countAlike_5 : Cond.fieldLink RX7 46 "PackageRows2$Entry" "bytes" "LPackageRows2$Row;" ∈ wsX7_countAlike := by decide +kernel
set_option maxHeartbeats 4000000 in
set_option maxRecDepth 100000 in
theorem lp_Version_countAlike_4 {l : Launch} {D : va_G} {ca : Nat → ClassId} (M : mw_M) (sz v vc : Nat) (ve : Nat → Option Nat) (E en ek : Nat → Nat) (ef eg : Nat → Nat → Int32) (ev : Nat → Int32) (w wc : Nat) (we : Nat → Option Nat) (F fn fk : Nat → Nat) (ff fg : Nat → Nat → Int32) (fv : Nat → Int32) (hv : M v = some (.inr (7, [.ref (v + 1), .int (nI vc)]))) (hva : M (v + 1) = some (.inl (ca 3, 8, .inr (.inr (.inr (.inr ve)))))) (hvc : vc ≤ 8) (he : ∀ i, i < vc → ve i = some (E i)) (hent : ∀ i, i < vc → isEnt ca M (E i) (en i) (ef i) (ek i) (eg i) (ev i)) (hw : M w = some (.inr (7, [.ref (w + 1), .int (nI wc)]))) (hwa : M (w + 1) = some (.inl (ca 3, 8, .inr (.inr (.inr (.inr we)))))) (hwc : wc ≤ 8) (hwe : ∀ i, i < wc → we i = some (F i)) (hwent : ∀ i, i < wc → isEnt ca M (F i) (fn i) (ff i) (fk i) (fg i) (fv i)) {p : Program} {e : Env} {s : State} {m : MethodId} {below : List Frame} {meth : Method} {c : Code} (X : mw_X p s m ([.ref v, .ref w] : List Value).toArray meth c cX7_countAlike 5 yX7_countAlike.cls wsX7_countAlike D vwCl (mt ca)) (hr0 : meth.sig.returnType = (some .int)) (hnm : meth.name = yX7_countAlike.name) (hlt : ∀ (a : Nat) (x : va_E), M a = some x → a < sz) : ∀ (fu : Nat) (i : Nat), i ≤ vc → vc < i + fu → mw_J p l e { frames := 4, cells := 0, slots := 0, locals := 86 } s m ([.ref v, .ref w] : List Value).toArray below meth c 5 D vwCl (mw_A M sz) (MQ below (mw_Q D vwCl M sz (mq_i (fun v9 M' sz' => M' = M ∧ sz' = sz ∧ v9 = nI (cntP (alk wc fn fk ff fg en ek ef eg) vc)))) ([.ref v, .ref w] : List Value).toArray s 0 0 (mw_A M sz)) 4 [(0, .ref v), (1, .ref w), (2, .int (nI (cntP (alk wc fn fk ff fg en ek ef eg) i))), (3, .int (nI i))] [] M sz 0 0 := by
  intro fu
  induction fu with
  | zero => intro i h1 h2; omega
  | succ fu ih =>
    intro i hi hfu
    refine mj_iload_n X dX7_countAlike_4 rfl 3 rfl ?_
    refine mj_aload_n X dX7_countAlike_5 rfl 0 rfl ?_
    refine mj_get X (C := RX7) (T := TX7) (N := 2) (ci := 7) w_Version_countAlike_0 rfl 1 (by decide) w_Version_countAlike_1 hv rfl dX7_countAlike_6 ?_
    refine mj_icmp_ge X 61 dX7_countAlike_9 (by decide) (fun c9 => ?_) (fun c9 => ?_)
    · refine mj_iload_n X dX7_countAlike_61 rfl 2 rfl ?_
      refine mj_iret X hr0 (by decide) (by decide) dX7_countAlike_62 ?_
      exact ⟨_, rfl, rfl, rfl, by rw [show i = vc by have h9 := (nI_leI (by omega) (by omega)).mp c9; omega]⟩
    · have hlt9 : i < vc := Nat.not_le.mp (fun h9 => c9 (nI_le h9 (by omega)))
      obtain ⟨hE1, ⟨hE2, hE3, hE4, hE5⟩, ⟨hE6, hE7, hE8, hE9⟩, hE10, hE11⟩ := hent i hlt9
      refine mj_aload_n X dX7_countAlike_12 rfl 1 rfl ?_
      refine mj_aload_n X dX7_countAlike_13 rfl 0 rfl ?_
      refine mj_get X (C := RX7) (T := TX7) (N := 2) (ci := 7) w_Version_countAlike_0 rfl 0 (by decide) w_Version_countAlike_2 hv rfl dX7_countAlike_14 ?_
      refine mj_iload_n X dX7_countAlike_17 rfl 3 rfl ?_
      refine mj_aald X 3 (ve i) rfl hva (vp_in_nI (by omega) (by omega)) (by rw [nI_clamp (by omega)]) dX7_countAlike_18 ?_
      refine mj_top' (.ref (E i)) (by rw [he i hlt9]; rfl) ?_
      refine mj_get X (C := RX1) (T := TX1) (N := 4) (ci := 2) w_Version_countAlike_3 rfl 0 (by decide) w_Version_countAlike_4 hE1 rfl dX7_countAlike_19 ?_
      refine mj_callV X 1 gX7_countAlike_X7_entryOfPath rfl (by decide +kernel) ⟨by decide, by decide⟩ (c_Version_entryOfPath l D ca M sz w wc we F fn fk ff fg fv (E i + 1) (en i) (en i) (ef i) hw hwa hwc hwe hwent hE2 hE3 hE4 hE5) rfl hw rfl rfl (Nat.le_of_ble_eq_true rfl) dX7_countAlike_22 ⟨by decide, by decide⟩ (mk_rq (fun o6 ho6 => ?_))
      rcases ho6 with ⟨i2, g1, g2, g3, g4⟩ | ⟨g1, g4⟩
      · subst g4
        refine mj_top' (.ref (F i2)) rfl ?_
        obtain ⟨hF1, ⟨hF2, hF3, hF4, hF5⟩, ⟨hF6, hF7, hF8, hF9⟩, hF10, hF11⟩ := hwent i2 g1
        refine mj_astore X [(4, .ref (F i2)), (0, .ref v), (1, .ref w), (2, .int (nI (cntP (alk wc fn fk ff fg en ek ef eg) i))), (3, .int (nI i))] dX7_countAlike_25 (by decide) rfl ?_
        refine mj_aload X dX7_countAlike_27 0 rfl ?_
        refine mj_ifnullR X dX7_countAlike_29 ?_
        refine mj_aload X dX7_countAlike_32 0 rfl ?_
        refine mj_get X (C := RX1) (T := TX1) (N := 4) (ci := 2) w_Version_countAlike_3 rfl 1 (by decide) w_Version_countAlike_5 hF1 rfl dX7_countAlike_34 ?_
        refine mj_aload_n X dX7_countAlike_37 rfl 1 rfl ?_
        refine mj_get X (C := RX7) (T := TX7) (N := 2) (ci := 7) w_Version_countAlike_0 rfl 0 (by decide) w_Version_countAlike_2 hv rfl dX7_countAlike_38 ?_
        refine mj_iload_n X dX7_countAlike_41 rfl 4 rfl ?_
        refine mj_aald X 3 (ve i) rfl hva (vp_in_nI (by omega) (by omega)) (by rw [nI_clamp (by omega)]) dX7_countAlike_42 ?_
        refine mj_top' (.ref (E i)) (by rw [he i hlt9]; rfl) ?_
        refine mj_get X (C := RX1) (T := TX1) (N := 4) (ci := 2) w_Version_countAlike_3 rfl 1 (by decide) w_Version_countAlike_5 hE1 rfl dX7_countAlike_43 ?_
        refine mj_callV X 1 gX7_countAlike_X5_alike rfl (by decide +kernel) ⟨by decide, by decide⟩ (c_Row_alike l D ca M sz (F i2 + 3) (fk i2) (fk i2) (fg i2) (E i + 3) (ek i) (ek i) (eg i) hF6 hF7 hF8 hF9 hE6 hE7 hE8 hE9) rfl hF6 rfl rfl (Nat.le_of_ble_eq_true rfl) dX7_countAlike_46 ⟨by decide, by decide⟩ (mk_ri (fun b2 hb2 => ?_))
        refine mj_if_eq X 55 dX7_countAlike_49 (by decide) (fun c49 => ?_) (fun c49 => ?_)
        · refine mj_iinc X [(3, .int (nI (i + 1))), (4, .ref (F i2)), (0, .ref v), (1, .ref w), (2, .int (nI (cntP (alk wc fn fk ff fg en ek ef eg) i)))] dX7_countAlike_55 4 rfl (nI_1 i) (by decide) rfl ?_
          refine mj_goto X 4 dX7_countAlike_58 (by decide) ?_
          refine mj_sub [2, 3, 4, 0] rfl ?_
          have hno : ¬ alk wc fn fk ff fg en ek ef eg i := by
            rintro ⟨i3, h1, h2, h3, h4⟩
            have e9 : i2 = i3 := by
              rcases Nat.lt_trichotomy i2 i3 with q9 | q9 | q9
              · exact absurd g2 (h3 i2 q9)
              · exact q9
              · exact absurd h2 (g3 i3 q9)
            subst e9
            rcases hb2 with ⟨h5, -⟩ | ⟨-, h5⟩
            · rw [h5] at c49; exact absurd c49 (by decide)
            · exact h5 h4
          rw [← cntP_f hno]
          exact ih (i + 1) hlt9 (by omega)
        · refine mj_iinc X [(2, .int (nI ((cntP (alk wc fn fk ff fg en ek ef eg) i) + 1))), (4, .ref (F i2)), (0, .ref v), (1, .ref w), (3, .int (nI i))] dX7_countAlike_52 3 rfl (nI_1 (cntP (alk wc fn fk ff fg en ek ef eg) i)) (by decide) rfl ?_
          refine mj_iinc X [(3, .int (nI (i + 1))), (2, .int (nI ((cntP (alk wc fn fk ff fg en ek ef eg) i) + 1))), (4, .ref (F i2)), (0, .ref v), (1, .ref w)] dX7_countAlike_55 4 rfl (nI_1 i) (by decide) rfl ?_
          refine mj_goto X 4 dX7_countAlike_58 (by decide) ?_
          refine mj_sub [3, 4, 1, 0] rfl ?_
          have hyes : alk wc fn fk ff fg en ek ef eg i := by
            rcases hb2 with ⟨-, h5⟩ | ⟨h5, -⟩
            · exact ⟨i2, g1, g2, g3, h5⟩
            · exact absurd h5 c49
          rw [← cntP_t hyes]
          exact ih (i + 1) hlt9 (by omega)
      · subst g4
        refine mj_top' .null rfl ?_
        refine mj_astoreN X [(4, .null), (0, .ref v), (1, .ref w), (2, .int (nI (cntP (alk wc fn fk ff fg en ek ef eg) i))), (3, .int (nI i))] dX7_countAlike_25 (by decide) rfl ?_
        refine mj_aloadN X dX7_countAlike_27 0 rfl ?_
        refine mj_ifnullN X 55 dX7_countAlike_29 (by decide) ?_
        refine mj_iinc X [(3, .int (nI (i + 1))), (4, .null), (0, .ref v), (1, .ref w), (2, .int (nI (cntP (alk wc fn fk ff fg en ek ef eg) i)))] dX7_countAlike_55 4 rfl (nI_1 i) (by decide) rfl ?_
        refine mj_goto X 4 dX7_countAlike_58 (by decide) ?_
        refine mj_sub [2, 3, 4, 0] rfl ?_
        have hno : ¬ alk wc fn fk ff fg en ek ef eg i := fun ⟨i2, h1, h2, _⟩ => g1 i2 h1 h2
        rw [← cntP_f hno]
        exact ih (i + 1) hlt9 (by omega)
set_option maxHeartbeats 4000000 in
set_option maxRecDepth 100000 in
/--  -/
theorem c_Version_countAlike (l : Launch) (D : va_G) (ca : Nat → ClassId) (M : mw_M) (sz v vc : Nat) (ve : Nat → Option Nat) (E en ek : Nat → Nat) (ef eg : Nat → Nat → Int32) (ev : Nat → Int32) (w wc : Nat) (we : Nat → Option Nat) (F fn fk : Nat → Nat) (ff fg : Nat → Nat → Int32) (fv : Nat → Int32) (hv : M v = some (.inr (7, [.ref (v + 1), .int (nI vc)]))) (hva : M (v + 1) = some (.inl (ca 3, 8, .inr (.inr (.inr (.inr ve)))))) (hvc : vc ≤ 8) (he : ∀ i, i < vc → ve i = some (E i)) (hent : ∀ i, i < vc → isEnt ca M (E i) (en i) (ef i) (ek i) (eg i) (ev i)) (hw : M w = some (.inr (7, [.ref (w + 1), .int (nI wc)]))) (hwa : M (w + 1) = some (.inl (ca 3, 8, .inr (.inr (.inr (.inr we)))))) (hwc : wc ≤ 8) (hwe : ∀ i, i < wc → we i = some (F i)) (hwent : ∀ i, i < wc → isEnt ca M (F i) (fn i) (ff i) (fk i) (fg i) (fv i)) : mw_C wsX7_countAlike l yX7_countAlike { frames := 4, cells := 0, slots := 0, locals := 86 } D vwCl (mt ca) [.ref v, .ref w] M sz (mq_i (fun v9 M' sz' => M' = M ∧ sz' = sz ∧ v9 = nI (cntP (alk wc fn fk ff fg en ek ef eg) vc))) := by
  refine mw_enter (cc := cX7_countAlike) (maxL := 5) (ret := (some .int)) rfl (by decide) (Nat.le_of_ble_eq_true rfl) ?_
  intro p e s m below meth c X hr0 hnm hlt
  refine mj_iconst X (v := 0) dX7_countAlike_0 (by decide +kernel) ?_
  refine mj_istore_n X [(2, .int 0), (0, .ref v), (1, .ref w)] dX7_countAlike_1 rfl (by decide) rfl ?_
  refine mj_iconst X (v := 0) dX7_countAlike_2 (by decide +kernel) ?_
  refine mj_istore_n X [(3, .int 0), (2, .int 0), (0, .ref v), (1, .ref w)] dX7_countAlike_3 rfl (by decide) rfl ?_
  refine mj_sub [2, 3, 1, 0] rfl ?_
  rw [← nI_0]
  exact lp_Version_countAlike_4 (l := l) (D := D) (ca := ca) M sz v vc ve E en ek ef eg ev w wc we F fn fk ff fg fv hv hva hvc he hent hw hwa hwc hwe hwent X hr0 hnm hlt (vc + 1) 0 (by omega) (by omega)

theorem w_Version_insert_0 : ∀ w ∈ u_ws RX7 TX7 2, w ∈ wsX7_insert := by decide +kernel
theorem w_Version_insert_1 : Cond.fieldLink RX7 11 "PackageRows2$Version" "entries" "[LPackageRows2$Entry;" ∈ wsX7_insert := by decide +kernel
theorem w_Version_insert_2 : Cond.fieldLink RX7 17 "PackageRows2$Version" "count" "I" ∈ wsX7_insert := by decide +kernel
theorem w_Version_insert_3 : ∀ w ∈ u_ws RX1 TX1 4, w ∈ wsX7_insert := by decide +kernel
theorem w_Version_insert_4 : Cond.fieldLink RX7 21 "PackageRows2$Entry" "name" "LPackageRows2$Row;" ∈ wsX7_insert := by decide +kernel
set_option maxHeartbeats 4000000 in
set_option maxRecDepth 100000 in
theorem lp_Version_insert_18 {l : Launch} {D : va_G} {ca : Nat → ClassId} (M : mw_M) (sz v vc : Nat) (ve : Nat → Option Nat) (E en ek : Nat → Nat) (ef eg : Nat → Nat → Int32) (ev : Nat → Int32) (q qn qk : Nat) (qf qg : Nat → Int32) (qv : Int32) (hv : M v = some (.inr (7, [.ref (v + 1), .int (nI vc)]))) (hva : M (v + 1) = some (.inl (ca 3, 8, .inr (.inr (.inr (.inr ve)))))) (hvc : vc ≤ 8) (he : ∀ i, i < vc → ve i = some (E i)) (hent : ∀ i, i < vc → isEnt ca M (E i) (en i) (ef i) (ek i) (eg i) (ev i)) (hq : isEnt ca M q qn qf qk qg qv) {p : Program} {e : Env} {s : State} {m : MethodId} {below : List Frame} {meth : Method} {c : Code} (X : mw_X p s m ([.ref v, .ref q] : List Value).toArray meth c cX7_insert 3 yX7_insert.cls wsX7_insert D vwCl (mt ca)) (hr0 : meth.sig.returnType = none) (hnm : meth.name = yX7_insert.name) (hlt : ∀ (a : Nat) (x : va_E), M a = some x → a < sz) : ∀ (fu : Nat) (i : Nat) (g1 : Nat → Option Nat), vc < 8 → i ≤ vc → i < fu → (∀ j, j < i → g1 j = ve j) → (∀ j, i ≤ j → j < vc → g1 (j + 1) = ve j) → (∀ j, i ≤ j → j < vc → lessR qn qf (en j) (ef j)) → mw_J p l e { frames := 1, cells := 0, slots := 0, locals := 22 } s m ([.ref v, .ref q] : List Value).toArray below meth c 3 D vwCl (mw_A M sz) (MQ below (mw_Q D vwCl M sz (mq_v (fun M' sz' => ((8 ≤ vc ∧ M' = M) ∨ (vc < 8 ∧ ∃ (pl : Nat) (ve' : Nat → Option Nat), pl ≤ vc ∧ (∀ j, j < pl → ve' j = ve j) ∧ ve' pl = some q ∧ (∀ j, pl ≤ j → j < vc → ve' (j + 1) = ve j) ∧ (∀ j, pl ≤ j → j < vc → lessR qn qf (en j) (ef j)) ∧ (∀ j, j + 1 = pl → ¬ lessR qn qf (en j) (ef j)) ∧ M' = mw_u (mw_u M (v + 1) (.inl (ca 3, 8, .inr (.inr (.inr (.inr ve')))))) v (.inr (7, [.ref (v + 1), .int (nI (vc + 1))])))) ∧ sz' = sz))) ([.ref v, .ref q] : List Value).toArray s 0 0 (mw_A M sz)) 18 [(0, .ref v), (1, .ref q), (2, .int (nI i))] [] (mw_u M (v + 1) (.inl (ca 3, 8, .inr (.inr (.inr (.inr g1)))))) sz 0 0 := by
  intro fu
  induction fu with
  | zero => intro i g1 h1 h2 h3; omega
  | succ fu ih =>
    intro i g1 hv8 hi hfu hlo hhi hle
    obtain ⟨hQ1, ⟨hQ2, hQ3, hQ4, hQ5⟩, ⟨hQ6, hQ7, hQ8, hQ9⟩, hQ10, hQ11⟩ := hq
    refine mj_iload_n X dX7_insert_18 rfl 2 rfl ?_
    refine mj_if_le X 63 dX7_insert_19 (by decide) (fun c19 => ?_) (fun c19 => ?_)
    · refine mj_aload_n X dX7_insert_63 rfl 0 rfl ?_
      have f1_ := (mw_un (M := M) (e := (.inl (ca 3, 8, .inr (.inr (.inr (.inr g1)))))) (show v ≠ v + 1 by omega)).trans hv
      refine mj_get X (C := RX7) (T := TX7) (N := 2) (ci := 7) w_Version_insert_0 rfl 0 (by decide) w_Version_insert_1 f1_ rfl dX7_insert_64 ?_
      refine mj_iload_n X dX7_insert_67 rfl 2 rfl ?_
      refine mj_aload_n X dX7_insert_68 rfl 1 rfl ?_
      have f2_ := mw_us (M := M) (a := (v + 1)) (e := (.inl (ca 3, 8, .inr (.inr (.inr (.inr g1))))))
      have f3_ := (mw_un (M := M) (e := (.inl (ca 3, 8, .inr (.inr (.inr (.inr g1)))))) (mw_ne hQ1 hva (by simp))).trans hQ1
      refine mj_aast X 3 i rfl f2_ f3_ rfl (vp_in_nI (by omega) (by omega)) (nI_clamp (by omega)) dX7_insert_69 ?_
      refine mj_aload_n X dX7_insert_70 rfl 0 rfl ?_
      refine mj_dup X dX7_insert_71 rfl ?_
      have f4_ := (mw_un (M := (mw_u M (v + 1) (.inl (ca 3, 8, .inr (.inr (.inr (.inr g1))))))) (e := (.inl (ca 3, 8, .inr (.inr (.inr (.inr (va_up g1 i (some q)))))))) (show v ≠ v + 1 by omega)).trans f1_
      refine mj_get X (C := RX7) (T := TX7) (N := 2) (ci := 7) w_Version_insert_0 rfl 1 (by decide) w_Version_insert_2 f4_ rfl dX7_insert_72 ?_
      refine mj_iconst X (v := 1) dX7_insert_75 (by decide +kernel) ?_
      refine mj_iadd X dX7_insert_76 ?_
      refine mj_top (nI (vc + 1)) (nI_1 vc) ?_
      refine mj_put X (C := RX7) (T := TX7) (N := 2) (ci := 7) (v := .int (nI (vc + 1))) tyX7 w_Version_insert_0 tyX7_ok nmX7 rfl 1 (by decide) w_Version_insert_2 rfl f4_ [.ref (v + 1), .int (nI (vc + 1))] (Nat.le_of_ble_eq_true rfl) rfl rfl rfl rfl dX7_insert_77 ?_
      refine mj_vret X hr0 (by decide) (by decide) dX7_insert_80 ?_
      have i0 : i = 0 := by have h9 := (nI_leI (a := i) (b := 0) (by omega) (by omega)).mp (by rw [nI_0]; exact c19); omega
      refine ⟨rfl, Or.inr ⟨hv8, i, va_up g1 i (some q), by omega, fun j hj => ?_, va_up_self _ _ _, fun j h1 h2 => ?_, fun j h1 h2 => hle j h1 h2, ?_, ?_⟩, rfl⟩
      · rw [va_up_ne _ _ (by omega)]; exact hlo j hj
      · rw [va_up_ne _ _ (by omega)]; exact hhi j h1 h2
      · intro j hj; omega
      · rw [mw_uu]
    · obtain ⟨t, rfl⟩ : ∃ t, i = t + 1 := by
        cases i with
        | zero => exact absurd (by rw [nI_0]; decide) c19
        | succ t => exact ⟨t, rfl⟩
      obtain ⟨hE1, ⟨hE2, hE3, hE4, hE5⟩, ⟨hE6, hE7, hE8, hE9⟩, hE10, hE11⟩ := hent t (by omega)
      refine mj_aload_n X dX7_insert_22 rfl 1 rfl ?_
      have f5_ := (mw_un (M := M) (e := (.inl (ca 3, 8, .inr (.inr (.inr (.inr g1)))))) (mw_ne hQ1 hva (by simp))).trans hQ1
      refine mj_get X (C := RX1) (T := TX1) (N := 4) (ci := 2) w_Version_insert_3 rfl 0 (by decide) w_Version_insert_4 f5_ rfl dX7_insert_23 ?_
      refine mj_aload_n X dX7_insert_26 rfl 0 rfl ?_
      have f6_ := (mw_un (M := M) (e := (.inl (ca 3, 8, .inr (.inr (.inr (.inr g1)))))) (show v ≠ v + 1 by omega)).trans hv
      refine mj_get X (C := RX7) (T := TX7) (N := 2) (ci := 7) w_Version_insert_0 rfl 0 (by decide) w_Version_insert_1 f6_ rfl dX7_insert_27 ?_
      refine mj_iload_n X dX7_insert_30 rfl 2 rfl ?_
      refine mj_iconst X (v := 1) dX7_insert_31 (by decide +kernel) ?_
      refine mj_isub X dX7_insert_32 ?_
      refine mj_top (nI t) (nI_pred t) ?_
      have f7_ := mw_us (M := M) (a := (v + 1)) (e := (.inl (ca 3, 8, .inr (.inr (.inr (.inr g1))))))
      refine mj_aald X 3 (g1 t) rfl f7_ (vp_in_nI (by omega) (by omega)) (by rw [nI_clamp (by omega)]) dX7_insert_33 ?_
      refine mj_top' (.ref (E t)) (by rw [hlo t (by omega), he t (by omega)]; rfl) ?_
      have f8_ := (mw_un (M := M) (e := (.inl (ca 3, 8, .inr (.inr (.inr (.inr g1)))))) (mw_ne hE1 hva (by simp))).trans hE1
      refine mj_get X (C := RX1) (T := TX1) (N := 4) (ci := 2) w_Version_insert_3 rfl 0 (by decide) w_Version_insert_4 f8_ rfl dX7_insert_34 ?_
      have f9_ := (mw_un (M := M) (e := (.inl (ca 3, 8, .inr (.inr (.inr (.inr g1)))))) (mw_ne hQ2 hva (by simp))).trans hQ2
      have f10_ := (mw_un (M := M) (e := (.inl (ca 3, 8, .inr (.inr (.inr (.inr g1)))))) (mw_ne hQ3 hva (by simp))).trans hQ3
      have f11_ := (mw_un (M := M) (e := (.inl (ca 3, 8, .inr (.inr (.inr (.inr g1)))))) (mw_ne hE2 hva (by simp))).trans hE2
      have f12_ := (mw_un (M := M) (e := (.inl (ca 3, 8, .inr (.inr (.inr (.inr g1)))))) (mw_ne hE3 hva (by simp))).trans hE3
      refine mj_callV X 1 gX7_insert_X5_order rfl (by decide +kernel) ⟨by decide, by decide⟩ (c_Row_order l D ca _ sz (q + 1) qn qn qf (E t + 1) (en t) (en t) (ef t) f9_ f10_ hQ4 hQ5 f11_ f12_ hE4 hE5) rfl f9_ rfl rfl (Nat.le_of_ble_eq_true rfl) dX7_insert_37 ⟨by decide, by decide⟩ (mk_ri (fun b2 hb2 => ?_))
      refine mj_if_ge X 63 dX7_insert_40 (by decide) (fun c40 => ?_) (fun c40 => ?_)
      · refine mj_aload_n X dX7_insert_63 rfl 0 rfl ?_
        refine mj_get X (C := RX7) (T := TX7) (N := 2) (ci := 7) w_Version_insert_0 rfl 0 (by decide) w_Version_insert_1 f6_ rfl dX7_insert_64 ?_
        refine mj_iload_n X dX7_insert_67 rfl 2 rfl ?_
        refine mj_aload_n X dX7_insert_68 rfl 1 rfl ?_
        refine mj_aast X 3 (t + 1) rfl f7_ f5_ rfl (vp_in_nI (by omega) (by omega)) (nI_clamp (by omega)) dX7_insert_69 ?_
        refine mj_aload_n X dX7_insert_70 rfl 0 rfl ?_
        refine mj_dup X dX7_insert_71 rfl ?_
        have f13_ := (mw_un (M := (mw_u M (v + 1) (.inl (ca 3, 8, .inr (.inr (.inr (.inr g1))))))) (e := (.inl (ca 3, 8, .inr (.inr (.inr (.inr (va_up g1 (t + 1) (some q)))))))) (show v ≠ v + 1 by omega)).trans f6_
        refine mj_get X (C := RX7) (T := TX7) (N := 2) (ci := 7) w_Version_insert_0 rfl 1 (by decide) w_Version_insert_2 f13_ rfl dX7_insert_72 ?_
        refine mj_iconst X (v := 1) dX7_insert_75 (by decide +kernel) ?_
        refine mj_iadd X dX7_insert_76 ?_
        refine mj_top (nI (vc + 1)) (nI_1 vc) ?_
        refine mj_put X (C := RX7) (T := TX7) (N := 2) (ci := 7) (v := .int (nI (vc + 1))) tyX7 w_Version_insert_0 tyX7_ok nmX7 rfl 1 (by decide) w_Version_insert_2 rfl f13_ [.ref (v + 1), .int (nI (vc + 1))] (Nat.le_of_ble_eq_true rfl) rfl rfl rfl rfl dX7_insert_77 ?_
        refine mj_vret X hr0 (by decide) (by decide) dX7_insert_80 ?_
        refine ⟨rfl, Or.inr ⟨hv8, (t + 1), va_up g1 (t + 1) (some q), by omega, fun j hj => ?_, va_up_self _ _ _, fun j h1 h2 => ?_, fun j h1 h2 => hle j h1 h2, ?_, ?_⟩, rfl⟩
        · rw [va_up_ne _ _ (by omega)]; exact hlo j hj
        · rw [va_up_ne _ _ (by omega)]; exact hhi j h1 h2
        · intro j hj; have e9 : j = t := by omega
          subst e9; exact fun h9 => i32_ge c40 ((lessR_of hb2).mpr h9)
        · rw [mw_uu]
      · refine mj_aload_n X dX7_insert_43 rfl 0 rfl ?_
        refine mj_get X (C := RX7) (T := TX7) (N := 2) (ci := 7) w_Version_insert_0 rfl 0 (by decide) w_Version_insert_1 f6_ rfl dX7_insert_44 ?_
        refine mj_iload_n X dX7_insert_47 rfl 2 rfl ?_
        refine mj_aload_n X dX7_insert_48 rfl 0 rfl ?_
        refine mj_get X (C := RX7) (T := TX7) (N := 2) (ci := 7) w_Version_insert_0 rfl 0 (by decide) w_Version_insert_1 f6_ rfl dX7_insert_49 ?_
        refine mj_iload_n X dX7_insert_52 rfl 2 rfl ?_
        refine mj_iconst X (v := 1) dX7_insert_53 (by decide +kernel) ?_
        refine mj_isub X dX7_insert_54 ?_
        refine mj_top (nI t) (nI_pred t) ?_
        refine mj_aald X 3 (g1 t) rfl f7_ (vp_in_nI (by omega) (by omega)) (by rw [nI_clamp (by omega)]) dX7_insert_55 ?_
        refine mj_top' (.ref (E t)) (by rw [hlo t (by omega), he t (by omega)]; rfl) ?_
        refine mj_aast X 3 (t + 1) rfl f7_ f8_ rfl (vp_in_nI (by omega) (by omega)) (nI_clamp (by omega)) dX7_insert_56 ?_
        refine mj_iinc X [(2, .int (nI t)), (0, .ref v), (1, .ref q)] dX7_insert_57 2 rfl (pk_m1 t) (by decide) rfl ?_
        refine mj_goto X 18 dX7_insert_60 (by decide) ?_
        refine mj_sub [1, 2, 0] rfl ?_
        refine mj_to rfl rfl mw_uu rfl ?_
        refine ih t _ hv8 (by omega) (by omega) (fun j hj => ?_) (fun j h1 h2 => ?_) (fun j h1 h2 => ?_)
        · rw [va_up_ne _ _ (by omega)]; exact hlo j (by omega)
        · rcases Nat.lt_or_ge t j with q9 | q9
          · rw [va_up_ne _ _ (by omega)]; exact hhi j (by omega) h2
          · rw [show j = t by omega, va_up_self, he t (by omega)]
        · rcases Nat.lt_or_ge t j with q9 | q9
          · exact hle j (by omega) h2
          · rw [show j = t by omega]; exact (lessR_of hb2).mp (i32_nge c40)
set_option maxHeartbeats 4000000 in
set_option maxRecDepth 100000 in
/--  -/
theorem c_Version_insert (l : Launch) (D : va_G) (ca : Nat → ClassId) (M : mw_M) (sz v vc : Nat) (ve : Nat → Option Nat) (E en ek : Nat → Nat) (ef eg : Nat → Nat → Int32) (ev : Nat → Int32) (q qn qk : Nat) (qf qg : Nat → Int32) (qv : Int32) (hv : M v = some (.inr (7, [.ref (v + 1), .int (nI vc)]))) (hva : M (v + 1) = some (.inl (ca 3, 8, .inr (.inr (.inr (.inr ve)))))) (hvc : vc ≤ 8) (he : ∀ i, i < vc → ve i = some (E i)) (hent : ∀ i, i < vc → isEnt ca M (E i) (en i) (ef i) (ek i) (eg i) (ev i)) (hq : isEnt ca M q qn qf qk qg qv) : mw_C wsX7_insert l yX7_insert { frames := 1, cells := 0, slots := 0, locals := 22 } D vwCl (mt ca) [.ref v, .ref q] M sz (mq_v (fun M' sz' => ((8 ≤ vc ∧ M' = M) ∨ (vc < 8 ∧ ∃ (pl : Nat) (ve' : Nat → Option Nat), pl ≤ vc ∧ (∀ j, j < pl → ve' j = ve j) ∧ ve' pl = some q ∧ (∀ j, pl ≤ j → j < vc → ve' (j + 1) = ve j) ∧ (∀ j, pl ≤ j → j < vc → lessR qn qf (en j) (ef j)) ∧ (∀ j, j + 1 = pl → ¬ lessR qn qf (en j) (ef j)) ∧ M' = mw_u (mw_u M (v + 1) (.inl (ca 3, 8, .inr (.inr (.inr (.inr ve')))))) v (.inr (7, [.ref (v + 1), .int (nI (vc + 1))])))) ∧ sz' = sz)) := by
  refine mw_enter (cc := cX7_insert) (maxL := 3) (ret := none) rfl (by decide) (Nat.le_of_ble_eq_true rfl) ?_
  intro p e s m below meth c X hr0 hnm hlt
  obtain ⟨hQ1, ⟨hQ2, hQ3, hQ4, hQ5⟩, ⟨hQ6, hQ7, hQ8, hQ9⟩, hQ10, hQ11⟩ := hq
  refine mj_aload_n X dX7_insert_0 rfl 0 rfl ?_
  refine mj_get X (C := RX7) (T := TX7) (N := 2) (ci := 7) w_Version_insert_0 rfl 1 (by decide) w_Version_insert_2 hv rfl dX7_insert_1 ?_
  refine mj_aload_n X dX7_insert_4 rfl 0 rfl ?_
  refine mj_get X (C := RX7) (T := TX7) (N := 2) (ci := 7) w_Version_insert_0 rfl 0 (by decide) w_Version_insert_1 hv rfl dX7_insert_5 ?_
  refine mj_alen X 3 (v := nI 8) rfl hva rfl dX7_insert_8 ?_
  refine mj_icmp_lt X 13 dX7_insert_9 (by decide) (fun c9 => ?_) (fun c9 => ?_)
  · have hv8 : vc < 8 := (nI_ltI (by omega) (by omega)).mp c9
    refine mj_aload_n X dX7_insert_13 rfl 0 rfl ?_
    refine mj_get X (C := RX7) (T := TX7) (N := 2) (ci := 7) w_Version_insert_0 rfl 1 (by decide) w_Version_insert_2 hv rfl dX7_insert_14 ?_
    refine mj_istore_n X [(2, .int (nI vc)), (0, .ref v), (1, .ref q)] dX7_insert_17 rfl (by decide) rfl ?_
    refine mj_sub [1, 2, 0] rfl ?_
    refine mj_to rfl rfl (mw_self hva).symm rfl ?_
    exact lp_Version_insert_18 (l := l) (D := D) (ca := ca) M sz v vc ve E en ek ef eg ev q qn qk qf qg qv hv hva hvc he hent ⟨hQ1, ⟨hQ2, hQ3, hQ4, hQ5⟩, ⟨hQ6, hQ7, hQ8, hQ9⟩, hQ10, hQ11⟩ X hr0 hnm hlt (vc + 1) vc ve hv8 (Nat.le_refl _) (by omega) (fun j _ => rfl) (fun j h1 h2 => by omega) (fun j h1 h2 => by omega)
  · refine mj_vret X hr0 (by decide) (by decide) dX7_insert_12 ?_
    exact ⟨rfl, Or.inl ⟨Nat.not_lt.mp (fun h9 => c9 (nI_lt h9 (by omega))), rfl⟩, rfl⟩

