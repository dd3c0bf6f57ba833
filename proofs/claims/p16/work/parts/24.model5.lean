/-- how many are 0 from t on, of c; the first of them -/
def cz (h : Nat → Int32) : Nat → Nat → Nat
  | _, 0 => 0
  | t, c + 1 => (if h t = 0 then 1 else 0) + cz h (t + 1) c
def fz (h : Nat → Int32) : Nat → Nat → Int32
  | _, 0 => -1
  | t, c + 1 => if h t = 0 then nI t else fz h (t + 1) c
theorem cz_le (h : Nat → Int32) : ∀ c t, cz h t c ≤ c
  | 0, _ => Nat.le_refl 0
  | c + 1, t => by have := cz_le h c (t + 1); simp only [cz]; split <;> omega
theorem w_M_lacking_0 : ∀ w ∈ u_ws RX9 TX9 25, w ∈ wsX9_lacking := by decide +kernel
theorem w_M_lacking_1 : Cond.fieldLink RX9 47 "PackageRows2Model" "here" "[Z" ∈ wsX9_lacking := by decide +kernel
theorem w_M_lacking_2 : Cond.fieldLink RX9 142 "PackageRows2Model" "pieces" "I" ∈ wsX9_lacking := by decide +kernel
set_option maxHeartbeats 4000000 in
set_option maxRecDepth 100000 in
theorem lp_M_lacking_12 {l : Launch} {D : va_G} {ca : Nat → ClassId} (M : mw_M) (sz o : Nat) (pi : Nat) (th sg oc cm li ve fa tr to pz : Int32) (hr : Nat → Int32) (u : Int32) (ho : M o = some (.inr (9, mdF o th sg oc cm li ve fa tr to pz (nI pi)))) (h_hr : M (o + 13) = some (.inl (ca 1, 320, .inl hr))) (hpi : pi ≤ 320) {p : Program} {e : Env} {s : State} {m : MethodId} {below : List Frame} {meth : Method} {c : Code} (X : mw_X p s m ([.ref o, .int u] : List Value).toArray meth c cX9_lacking 5 yX9_lacking.cls wsX9_lacking D vwCl (mt ca)) (hr0 : meth.sig.returnType = (some .int)) (hnm : meth.name = yX9_lacking.name) (hlt : ∀ (a : Nat) (x : va_E), M a = some x → a < sz) : ∀ (fu : Nat) (t : Nat), t ≤ pi → t < fu → mw_J p l e { frames := 0, cells := 0, slots := 0, locals := 0 } s m ([.ref o, .int u] : List Value).toArray below meth c 5 D vwCl (mw_A M sz) (MQ below (mw_Q D vwCl M sz (mq_i (fun v9 M' sz' => M' = M ∧ sz' = sz ∧ v9 = if u = 0 then fz hr 0 pi else nI (cz hr 0 pi)))) ([.ref o, .int u] : List Value).toArray s 0 0 (mw_A M sz)) 12 [(0, .ref o), (1, .int u), (2, .int (nI (cz hr t (pi - t)))), (3, .int (fz hr t (pi - t))), (4, .int (nI t - 1))] [] M sz 0 0 := by
  intro fu
  induction fu with
  | zero => intro t h1 h2; omega
  | succ fu ih =>
    intro t hi hfu
    refine mj_iload X dX9_lacking_12 4 rfl ?_
    refine mj_if_lt X 58 dX9_lacking_14 (by decide) (fun c14 => ?_) (fun c14 => ?_)
    · refine mj_iload_n X dX9_lacking_58 rfl 1 rfl ?_
      refine mj_if_eq X 66 dX9_lacking_59 (by decide) (fun c59 => ?_) (fun c59 => ?_)
      · refine mj_iload_n X dX9_lacking_66 rfl 3 rfl ?_
        refine mj_iret X hr0 (by decide) (by decide) dX9_lacking_67 ?_
        have t0 : t = 0 := by
          rcases Nat.eq_zero_or_pos t with q | q
          · exact q
          · obtain ⟨t1, rfl⟩ : ∃ t1, t = t1 + 1 := ⟨t - 1, by omega⟩
            rw [nI_pred] at c14; exact absurd c14 (nI_pos (by omega))
        subst t0
        exact ⟨_, rfl, rfl, rfl, by rw [if_pos c59, Nat.sub_zero]⟩
      · refine mj_iload_n X dX9_lacking_62 rfl 2 rfl ?_
        refine mj_goto X 67 dX9_lacking_63 (by decide) ?_
        refine mj_iret X hr0 (by decide) (by decide) dX9_lacking_67 ?_
        have t0 : t = 0 := by
          rcases Nat.eq_zero_or_pos t with q | q
          · exact q
          · obtain ⟨t1, rfl⟩ : ∃ t1, t = t1 + 1 := ⟨t - 1, by omega⟩
            rw [nI_pred] at c14; exact absurd c14 (nI_pos (by omega))
        subst t0
        exact ⟨_, rfl, rfl, rfl, by rw [if_neg c59, Nat.sub_zero]⟩
    · obtain ⟨t, rfl⟩ : ∃ t0, t = t0 + 1 := by
        cases t with
        | zero => exact absurd (by rw [nI_0]; decide) c14
        | succ t => exact ⟨t, rfl⟩
      rw [nI_pred]
      refine mj_iload_n X dX9_lacking_17 rfl 2 rfl ?_
      refine mj_aload_n X dX9_lacking_18 rfl 0 rfl ?_
      refine mj_get X (C := RX9) (T := TX9) (N := 25) (ci := 9) w_M_lacking_0 rfl 23 (by decide) w_M_lacking_1 ho rfl dX9_lacking_19 ?_
      refine mj_iload X dX9_lacking_22 4 rfl ?_
      refine mj_zald X 1 (hr t) rfl h_hr (vp_in_nI (by omega) (by omega)) (by rw [nI_clamp (by omega)]) dX9_lacking_24 ?_
      refine mj_if_eq X 32 dX9_lacking_25 (by decide) (fun c25 => ?_) (fun c25 => ?_)
      · refine mj_iconst X (v := 1) dX9_lacking_32 (by decide +kernel) ?_
        refine mj_iadd X dX9_lacking_33 ?_
        refine mj_istore_n X [(2, .int ((nI (cz hr (t + 1) (pi - (t + 1)))) + 1)), (0, .ref o), (1, .int u), (3, .int (fz hr (t + 1) (pi - (t + 1)))), (4, .int (nI t))] dX9_lacking_34 rfl (by decide) rfl ?_
        refine mj_aload_n X dX9_lacking_35 rfl 1 rfl ?_
        refine mj_get X (C := RX9) (T := TX9) (N := 25) (ci := 9) w_M_lacking_0 rfl 23 (by decide) w_M_lacking_1 ho rfl dX9_lacking_36 ?_
        refine mj_iload X dX9_lacking_39 4 rfl ?_
        refine mj_zald X 1 (hr t) rfl h_hr (vp_in_nI (by omega) (by omega)) (by rw [nI_clamp (by omega)]) dX9_lacking_41 ?_
        refine mj_if_eq X 49 dX9_lacking_42 (by decide) (fun c42 => ?_) (fun c42 => ?_)
        · refine mj_iload X dX9_lacking_49 4 rfl ?_
          refine mj_istore_n X [(3, .int (nI t)), (2, .int ((nI (cz hr (t + 1) (pi - (t + 1)))) + 1)), (0, .ref o), (1, .int u), (4, .int (nI t))] dX9_lacking_51 rfl (by decide) rfl ?_
          refine mj_iinc X [(4, .int (nI t - 1)), (3, .int (nI t)), (2, .int ((nI (cz hr (t + 1) (pi - (t + 1)))) + 1)), (0, .ref o), (1, .int u)] dX9_lacking_52 4 rfl (by rw [Int32.sub_eq_add_neg]; rfl) (by decide) rfl ?_
          refine mj_goto X 12 dX9_lacking_55 (by decide) ?_
          refine mj_sub [3, 4, 2, 1, 0] rfl ?_
          have hc1 : pi - t = (pi - (t + 1)) + 1 := by omega
          have hp : nI (cz hr (t + 1) (pi - (t + 1))) + 1 = nI (cz hr t (pi - t)) := by rw [hc1, cz, if_pos c25, nI_1, Nat.add_comm]
          have hq : nI t = fz hr t (pi - t) := by rw [hc1, fz, if_pos c25]
          refine mj_to (lo' := [(0, .ref o), (1, .int u), (2, .int (nI (cz hr t (pi - t)))), (3, .int (fz hr t (pi - t))), (4, .int (nI t - 1))]) (by rw [← hp, ← hq]; rfl) rfl rfl rfl ?_
          exact ih t (by omega) (by omega)
        · exact absurd c25 c42
      · refine mj_iconst X (v := 0) dX9_lacking_28 (by decide +kernel) ?_
        refine mj_goto X 33 dX9_lacking_29 (by decide) ?_
        refine mj_iadd X dX9_lacking_33 ?_
        refine mj_istore_n X [(2, .int ((nI (cz hr (t + 1) (pi - (t + 1)))) + 0)), (0, .ref o), (1, .int u), (3, .int (fz hr (t + 1) (pi - (t + 1)))), (4, .int (nI t))] dX9_lacking_34 rfl (by decide) rfl ?_
        refine mj_aload_n X dX9_lacking_35 rfl 1 rfl ?_
        refine mj_get X (C := RX9) (T := TX9) (N := 25) (ci := 9) w_M_lacking_0 rfl 23 (by decide) w_M_lacking_1 ho rfl dX9_lacking_36 ?_
        refine mj_iload X dX9_lacking_39 4 rfl ?_
        refine mj_zald X 1 (hr t) rfl h_hr (vp_in_nI (by omega) (by omega)) (by rw [nI_clamp (by omega)]) dX9_lacking_41 ?_
        refine mj_if_eq X 49 dX9_lacking_42 (by decide) (fun c42 => ?_) (fun c42 => ?_)
        · exact absurd c42 c25
        · refine mj_iload_n X dX9_lacking_45 rfl 3 rfl ?_
          refine mj_goto X 51 dX9_lacking_46 (by decide) ?_
          refine mj_istore_n X [(3, .int (fz hr (t + 1) (pi - (t + 1)))), (2, .int ((nI (cz hr (t + 1) (pi - (t + 1)))) + 0)), (0, .ref o), (1, .int u), (4, .int (nI t))] dX9_lacking_51 rfl (by decide) rfl ?_
          refine mj_iinc X [(4, .int (nI t - 1)), (3, .int (fz hr (t + 1) (pi - (t + 1)))), (2, .int ((nI (cz hr (t + 1) (pi - (t + 1)))) + 0)), (0, .ref o), (1, .int u)] dX9_lacking_52 4 rfl (by rw [Int32.sub_eq_add_neg]; rfl) (by decide) rfl ?_
          refine mj_goto X 12 dX9_lacking_55 (by decide) ?_
          refine mj_sub [3, 4, 2, 1, 0] rfl ?_
          have hc1 : pi - t = (pi - (t + 1)) + 1 := by omega
          have hp : nI (cz hr (t + 1) (pi - (t + 1))) + 0 = nI (cz hr t (pi - t)) := by rw [hc1, cz, if_neg c25, Nat.zero_add]; exact Int32.add_zero _
          have hq : fz hr (t + 1) (pi - (t + 1)) = fz hr t (pi - t) := by rw [hc1, fz, if_neg c25]
          refine mj_to (lo' := [(0, .ref o), (1, .int u), (2, .int (nI (cz hr t (pi - t)))), (3, .int (fz hr t (pi - t))), (4, .int (nI t - 1))]) (by rw [← hp, ← hq]; rfl) rfl rfl rfl ?_
          exact ih t (by omega) (by omega)
set_option maxHeartbeats 4000000 in
set_option maxRecDepth 100000 in
/--  -/
theorem c_M_lacking (l : Launch) (D : va_G) (ca : Nat → ClassId) (M : mw_M) (sz o : Nat) (pi : Nat) (th sg oc cm li ve fa tr to pz : Int32) (hr : Nat → Int32) (u : Int32) (ho : M o = some (.inr (9, mdF o th sg oc cm li ve fa tr to pz (nI pi)))) (h_hr : M (o + 13) = some (.inl (ca 1, 320, .inl hr))) (hpi : pi ≤ 320) : mw_C wsX9_lacking l yX9_lacking { frames := 0, cells := 0, slots := 0, locals := 0 } D vwCl (mt ca) [.ref o, .int u] M sz (mq_i (fun v9 M' sz' => M' = M ∧ sz' = sz ∧ v9 = if u = 0 then fz hr 0 pi else nI (cz hr 0 pi))) := by
  refine mw_enter (cc := cX9_lacking) (maxL := 5) (ret := (some .int)) rfl (by decide) (Nat.le_of_ble_eq_true rfl) ?_
  intro p e s m below meth c X hr0 hnm hlt
  refine mj_iconst X (v := 0) dX9_lacking_0 (by decide +kernel) ?_
  refine mj_istore_n X [(2, .int 0), (0, .ref o), (1, .int u)] dX9_lacking_1 rfl (by decide) rfl ?_
  refine mj_iconst X (v := -1) dX9_lacking_2 (by decide +kernel) ?_
  refine mj_istore_n X [(3, .int (-1)), (2, .int 0), (0, .ref o), (1, .int u)] dX9_lacking_3 rfl (by decide) rfl ?_
  refine mj_aload_n X dX9_lacking_4 rfl 2 rfl ?_
  refine mj_get X (C := RX9) (T := TX9) (N := 25) (ci := 9) w_M_lacking_0 rfl 22 (by decide) w_M_lacking_2 ho rfl dX9_lacking_5 ?_
  refine mj_iconst X (v := 1) dX9_lacking_8 (by decide +kernel) ?_
  refine mj_isub X dX9_lacking_9 ?_
  refine mj_istore X [(4, .int ((nI pi) - 1)), (3, .int (-1)), (2, .int 0), (0, .ref o), (1, .int u)] dX9_lacking_10 (by decide) rfl ?_
  refine mj_sub [3, 4, 2, 1, 0] rfl ?_
  refine mj_to (lo' := [(0, .ref o), (1, .int u), (2, .int (nI (cz hr pi (pi - pi)))), (3, .int (fz hr pi (pi - pi))), (4, .int (nI pi - 1))]) (by rw [Nat.sub_self]; rfl) rfl rfl rfl ?_
  exact lp_M_lacking_12 (l := l) (D := D) (ca := ca) M sz o pi th sg oc cm li ve fa tr to pz hr u ho h_hr hpi X hr0 hnm hlt (pi + 1) pi (Nat.le_refl _) (by omega)

theorem w_M_missing_0 : ∀ w ∈ u_ws RX9 TX9 25, w ∈ wsX9_missing := by decide +kernel
theorem w_M_missing_1 : Cond.fieldLink RX9 54 "PackageRows2Model" "thrown" "I" ∈ wsX9_missing := by decide +kernel
theorem w_M_missing_2 : Cond.fieldLink RX9 132 "PackageRows2Model" "transfer" "Z" ∈ wsX9_missing := by decide +kernel
set_option maxHeartbeats 4000000 in
set_option maxRecDepth 100000 in
/--  -/
theorem c_M_missing (l : Launch) (D : va_G) (ca : Nat → ClassId) (M : mw_M) (sz o : Nat) (pi : Nat) (th sg oc cm li ve fa tr to pz : Int32) (hr : Nat → Int32) (ho : M o = some (.inr (9, mdF o th sg oc cm li ve fa tr to pz (nI pi)))) (h_hr : M (o + 13) = some (.inl (ca 1, 320, .inl hr))) (hpi : pi ≤ 320) : mw_C wsX9_missing l yX9_missing { frames := 1, cells := 0, slots := 0, locals := 24 } D vwCl (mt ca) [.ref o] M sz (mq_i (fun v9 M' sz' => v9 = (if tr = 0 then -1 else fz hr 0 pi) ∧ M' = mw_u M o (.inr (9, mdF o 0 sg oc cm li ve fa tr to pz (nI pi))) ∧ sz' = sz)) := by
  refine mw_enter (cc := cX9_missing) (maxL := 1) (ret := (some .int)) rfl (by decide) (Nat.le_of_ble_eq_true rfl) ?_
  intro p e s m below meth c X hr0 hnm hlt
  refine mj_aload_n X dX9_missing_0 rfl 0 rfl ?_
  refine mj_iconst X (v := 0) dX9_missing_1 (by decide +kernel) ?_
  refine mj_put X (C := RX9) (T := TX9) (N := 25) (ci := 9) (v := .int 0) tyX9 w_M_missing_0 tyX9_ok nmX9 rfl 0 (by decide) w_M_missing_1 rfl ho (mdF o 0 sg oc cm li ve fa tr to pz (nI pi)) (Nat.le_of_ble_eq_true rfl) rfl rfl rfl rfl dX9_missing_2 ?_
  refine mj_aload_n X dX9_missing_5 rfl 0 rfl ?_
  have f1_ := mw_us (M := M) (a := o) (e := (.inr (9, mdF o 0 sg oc cm li ve fa tr to pz (nI pi))))
  refine mj_get X (C := RX9) (T := TX9) (N := 25) (ci := 9) w_M_missing_0 rfl 19 (by decide) w_M_missing_2 f1_ rfl dX9_missing_6 ?_
  refine mj_if_eq X 20 dX9_missing_9 (by decide) (fun c9 => ?_) (fun c9 => ?_)
  · refine mj_iconst X (v := -1) dX9_missing_20 (by decide +kernel) ?_
    refine mj_iret X hr0 (by decide) (by decide) dX9_missing_21 ?_
    exact ⟨_, rfl, by rw [if_pos c9], rfl, rfl⟩
  · refine mj_aload_n X dX9_missing_12 rfl 0 rfl ?_
    refine mj_iconst X (v := 0) dX9_missing_13 (by decide +kernel) ?_
    have f2_ := (mw_un (M := M) (e := (.inr (9, mdF o 0 sg oc cm li ve fa tr to pz (nI pi)))) (show o + 13 ≠ o by omega)).trans h_hr
    refine mj_callV X 1 gX9_missing_X9_lacking rfl (by decide +kernel) ⟨by decide, by decide⟩ (c_M_lacking l D ca _ sz o pi 0 sg oc cm li ve fa tr to pz hr 0 f1_ f2_ hpi) rfl f1_ rfl rfl (Nat.le_of_ble_eq_true rfl) dX9_missing_14 ⟨by decide, by decide⟩ (mk_ri (fun b14 hb14 => ?_))
    refine mj_goto X 21 dX9_missing_17 (by decide) ?_
    refine mj_iret X hr0 (by decide) (by decide) dX9_missing_21 ?_
    exact ⟨_, rfl, by rw [hb14, if_neg c9]; rfl, rfl, rfl⟩

theorem w_M_joined_0 : ∀ w ∈ u_ws RX9 TX9 25, w ∈ wsX9_joined := by decide +kernel
theorem w_M_joined_1 : Cond.fieldLink RX9 54 "PackageRows2Model" "thrown" "I" ∈ wsX9_joined := by decide +kernel
theorem w_M_joined_2 : Cond.fieldLink RX9 132 "PackageRows2Model" "transfer" "Z" ∈ wsX9_joined := by decide +kernel
theorem w_M_joined_3 : Cond.fieldLink RX9 139 "PackageRows2Model" "total" "I" ∈ wsX9_joined := by decide +kernel
theorem w_M_joined_4 : Cond.fieldLink RX9 51 "PackageRows2Model" "joined" "[B" ∈ wsX9_joined := by decide +kernel
set_option maxHeartbeats 4000000 in
set_option maxRecDepth 100000 in
/--  -/
theorem c_M_joined (l : Launch) (D : va_G) (ca : Nat → ClassId) (M : mw_M) (sz o : Nat) (to pi : Nat) (th sg oc cm li ve fa tr pz : Int32) (hr : Nat → Int32) (jo : Nat → Int32) (k : Int32) (ho : M o = some (.inr (9, mdF o th sg oc cm li ve fa tr (nI to) pz (nI pi)))) (h_hr : M (o + 13) = some (.inl (ca 1, 320, .inl hr))) (h_jo : M (o + 14) = some (.inl (ca 2, 320, .inl jo))) (hpi : pi ≤ 320) (hto : to ≤ 320) : mw_C wsX9_joined l yX9_joined { frames := 1, cells := 0, slots := 0, locals := 24 } D vwCl (mt ca) [.ref o, .int k] M sz (mq_i (fun v9 M' sz' => (((tr = 0 ∨ 0 < cz hr 0 pi) ∧ v9 = -3) ∨ (tr ≠ 0 ∧ cz hr 0 pi = 0 ∧ ((∃ j, j < to ∧ k = nI j ∧ v9 = jo j &&& 255) ∨ ((∀ j, j < to → k ≠ nI j) ∧ v9 = -1)))) ∧ M' = mw_u M o (.inr (9, mdF o 0 sg oc cm li ve fa tr (nI to) pz (nI pi))) ∧ sz' = sz)) := by
  refine mw_enter (cc := cX9_joined) (maxL := 2) (ret := (some .int)) rfl (by decide) (Nat.le_of_ble_eq_true rfl) ?_
  intro p e s m below meth c X hr0 hnm hlt
  refine mj_aload_n X dX9_joined_0 rfl 0 rfl ?_
  refine mj_iconst X (v := 0) dX9_joined_1 (by decide +kernel) ?_
  refine mj_put X (C := RX9) (T := TX9) (N := 25) (ci := 9) (v := .int 0) tyX9 w_M_joined_0 tyX9_ok nmX9 rfl 0 (by decide) w_M_joined_1 rfl ho (mdF o 0 sg oc cm li ve fa tr (nI to) pz (nI pi)) (Nat.le_of_ble_eq_true rfl) rfl rfl rfl rfl dX9_joined_2 ?_
  refine mj_aload_n X dX9_joined_5 rfl 0 rfl ?_
  have f1_ := mw_us (M := M) (a := o) (e := (.inr (9, mdF o 0 sg oc cm li ve fa tr (nI to) pz (nI pi))))
  refine mj_get X (C := RX9) (T := TX9) (N := 25) (ci := 9) w_M_joined_0 rfl 19 (by decide) w_M_joined_2 f1_ rfl dX9_joined_6 ?_
  refine mj_if_eq X 20 dX9_joined_9 (by decide) (fun c9 => ?_) (fun c9 => ?_)
  · refine mj_bipush X (v := -3) dX9_joined_20 (by decide +kernel) ?_
    refine mj_iret X hr0 (by decide) (by decide) dX9_joined_22 ?_
    exact ⟨_, rfl, Or.inl ⟨Or.inl c9, rfl⟩, rfl, rfl⟩
  · refine mj_aload_n X dX9_joined_12 rfl 0 rfl ?_
    refine mj_iconst X (v := 1) dX9_joined_13 (by decide +kernel) ?_
    have f2_ := (mw_un (M := M) (e := (.inr (9, mdF o 0 sg oc cm li ve fa tr (nI to) pz (nI pi)))) (show o + 13 ≠ o by omega)).trans h_hr
    refine mj_callV X 1 gX9_joined_X9_lacking rfl (by decide +kernel) ⟨by decide, by decide⟩ (c_M_lacking l D ca _ sz o pi 0 sg oc cm li ve fa tr (nI to) pz hr 1 f1_ f2_ hpi) rfl f1_ rfl rfl (Nat.le_of_ble_eq_true rfl) dX9_joined_14 ⟨by decide, by decide⟩ (mk_ri (fun b14 hb14 => ?_))
    refine mj_if_le X 23 dX9_joined_17 (by decide) (fun c17 => ?_) (fun c17 => ?_)
    · refine mj_iload_n X dX9_joined_23 rfl 1 rfl ?_
      refine mj_iconst X (v := 0) dX9_joined_24 (by decide +kernel) ?_
      refine mj_aload_n X dX9_joined_25 rfl 0 rfl ?_
      refine mj_get X (C := RX9) (T := TX9) (N := 25) (ci := 9) w_M_joined_0 rfl 20 (by decide) w_M_joined_3 f1_ rfl dX9_joined_26 ?_
      refine mj_iconst X (v := 1) dX9_joined_29 (by decide +kernel) ?_
      refine mj_isub X dX9_joined_30 ?_
      refine mj_callS X 3 gX9_joined_X9_in rfl (by decide +kernel) ⟨by decide, by decide⟩ (c_M_in l D ca _ _ k 0 (nI to - 1)) rfl rfl (Nat.le_of_ble_eq_true rfl) dX9_joined_31 ⟨by decide, by decide⟩ (mk_ri (fun b31 hb31 => ?_))
      subst hb31
      refine mj_if_eq X 50 dX9_joined_34 (by decide) (fun c34 => ?_) (fun c34 => ?_)
      · refine mj_iconst X (v := -1) dX9_joined_50 (by decide +kernel) ?_
        refine mj_iret X hr0 (by decide) (by decide) dX9_joined_51 ?_
        have hcz := cz_le hr pi 0
        have hz : cz hr 0 pi = 0 := Nat.eq_zero_of_not_pos (fun h9 => nI_nle h9 (by omega) (by rw [hb14, if_neg (by decide)] at c17; exact c17))
        exact ⟨_, rfl, Or.inr ⟨c9, hz, Or.inr ⟨(inB_f (by omega)).mp (b2i_eq c34), rfl⟩⟩, rfl, rfl⟩
      · obtain ⟨j, hj, ej⟩ := (inB_n (by omega)).mp (b2i_ne c34)
        refine mj_aload_n X dX9_joined_37 rfl 0 rfl ?_
        refine mj_get X (C := RX9) (T := TX9) (N := 25) (ci := 9) w_M_joined_0 rfl 24 (by decide) w_M_joined_4 f1_ rfl dX9_joined_38 ?_
        refine mj_iload_n X dX9_joined_41 rfl 1 rfl ?_
        have f3_ := (mw_un (M := M) (e := (.inr (9, mdF o 0 sg oc cm li ve fa tr (nI to) pz (nI pi)))) (show o + 14 ≠ o by omega)).trans h_jo
        refine mj_bald X 2 (jo j) rfl f3_ (by rw [ej]; exact vp_in_nI (by omega) (by omega)) (by rw [ej, nI_clamp (by omega)]) dX9_joined_42 ?_
        refine mj_sipush X (v := 255) dX9_joined_43 (by decide +kernel) ?_
        refine mj_iand X dX9_joined_46 ?_
        refine mj_goto X 51 dX9_joined_47 (by decide) ?_
        refine mj_iret X hr0 (by decide) (by decide) dX9_joined_51 ?_
        have hcz := cz_le hr pi 0
        have hz : cz hr 0 pi = 0 := Nat.eq_zero_of_not_pos (fun h9 => nI_nle h9 (by omega) (by rw [hb14, if_neg (by decide)] at c17; exact c17))
        exact ⟨_, rfl, Or.inr ⟨c9, hz, Or.inl ⟨j, hj, ej, rfl⟩⟩, rfl, rfl⟩
    · refine mj_bipush X (v := -3) dX9_joined_20 (by decide +kernel) ?_
      refine mj_iret X hr0 (by decide) (by decide) dX9_joined_22 ?_
      have hcz := cz_le hr pi 0
      exact ⟨_, rfl, Or.inl ⟨Or.inr (Nat.pos_of_ne_zero (fun h9 => c17 (by rw [hb14, if_neg (by decide), h9, nI_0]; decide))), rfl⟩, rfl, rfl⟩

theorem w_M_piece_0 : ∀ w ∈ u_ws RX9 TX9 25, w ∈ wsX9_piece := by decide +kernel
theorem w_M_piece_1 : Cond.fieldLink RX9 54 "PackageRows2Model" "thrown" "I" ∈ wsX9_piece := by decide +kernel
theorem w_M_piece_2 : Cond.fieldLink RX9 132 "PackageRows2Model" "transfer" "Z" ∈ wsX9_piece := by decide +kernel
theorem w_M_piece_3 : Cond.fieldLink RX9 142 "PackageRows2Model" "pieces" "I" ∈ wsX9_piece := by decide +kernel
theorem w_M_piece_4 : Cond.fieldLink RX9 47 "PackageRows2Model" "here" "[Z" ∈ wsX9_piece := by decide +kernel
set_option maxHeartbeats 4000000 in
set_option maxRecDepth 100000 in
/--  -/
theorem c_M_piece (l : Launch) (D : va_G) (ca : Nat → ClassId) (M : mw_M) (sz o : Nat) (pi : Nat) (th sg oc cm li ve fa tr to pz : Int32) (hr : Nat → Int32) (k u : Int32) (ho : M o = some (.inr (9, mdF o th sg oc cm li ve fa tr to pz (nI pi)))) (h_hr : M (o + 13) = some (.inl (ca 1, 320, .inl hr))) (hpi : pi ≤ 320) : mw_C wsX9_piece l yX9_piece { frames := 1, cells := 0, slots := 0, locals := 24 } D vwCl (mt ca) [.ref o, .int k, .int u] M sz (mq_i (fun v9 M' sz' => (((tr = 0 ∨ ∀ j, j < pi → k ≠ nI j) ∧ v9 = -2 ∧ M' = mw_u M o (.inr (9, mdF o 0 sg oc cm li ve fa tr to pz (nI pi)))) ∨ (tr ≠ 0 ∧ ∃ j, j < pi ∧ k = nI j ∧ v9 = nI (cz (upd hr j (if hr j = 0 ∧ u = 0 then 0 else 1)) 0 pi) ∧ M' = mw_u (mw_u M o (.inr (9, mdF o 0 sg oc cm li ve fa tr to pz (nI pi)))) (o + 13) (.inl (ca 1, 320, .inl (upd hr j (if hr j = 0 ∧ u = 0 then 0 else 1)))))) ∧ sz' = sz)) := by
  refine mw_enter (cc := cX9_piece) (maxL := 3) (ret := (some .int)) rfl (by decide) (Nat.le_of_ble_eq_true rfl) ?_
  intro p e s m below meth c X hr0 hnm hlt
  refine mj_aload_n X dX9_piece_0 rfl 0 rfl ?_
  refine mj_iconst X (v := 0) dX9_piece_1 (by decide +kernel) ?_
  refine mj_put X (C := RX9) (T := TX9) (N := 25) (ci := 9) (v := .int 0) tyX9 w_M_piece_0 tyX9_ok nmX9 rfl 0 (by decide) w_M_piece_1 rfl ho (mdF o 0 sg oc cm li ve fa tr to pz (nI pi)) (Nat.le_of_ble_eq_true rfl) rfl rfl rfl rfl dX9_piece_2 ?_
  refine mj_aload_n X dX9_piece_5 rfl 0 rfl ?_
  have f1_ := mw_us (M := M) (a := o) (e := (.inr (9, mdF o 0 sg oc cm li ve fa tr to pz (nI pi))))
  refine mj_get X (C := RX9) (T := TX9) (N := 25) (ci := 9) w_M_piece_0 rfl 19 (by decide) w_M_piece_2 f1_ rfl dX9_piece_6 ?_
  refine mj_if_eq X 26 dX9_piece_9 (by decide) (fun c9 => ?_) (fun c9 => ?_)
  · refine mj_bipush X (v := -2) dX9_piece_26 (by decide +kernel) ?_
    refine mj_iret X hr0 (by decide) (by decide) dX9_piece_28 ?_
    exact ⟨_, rfl, Or.inl ⟨Or.inl c9, rfl, rfl⟩, rfl⟩
  · refine mj_iload_n X dX9_piece_12 rfl 1 rfl ?_
    refine mj_iconst X (v := 0) dX9_piece_13 (by decide +kernel) ?_
    refine mj_aload_n X dX9_piece_14 rfl 0 rfl ?_
    refine mj_get X (C := RX9) (T := TX9) (N := 25) (ci := 9) w_M_piece_0 rfl 22 (by decide) w_M_piece_3 f1_ rfl dX9_piece_15 ?_
    refine mj_iconst X (v := 1) dX9_piece_18 (by decide +kernel) ?_
    refine mj_isub X dX9_piece_19 ?_
    refine mj_callS X 3 gX9_piece_X9_in rfl (by decide +kernel) ⟨by decide, by decide⟩ (c_M_in l D ca _ _ k 0 (nI pi - 1)) rfl rfl (Nat.le_of_ble_eq_true rfl) dX9_piece_20 ⟨by decide, by decide⟩ (mk_ri (fun b20 hb20 => ?_))
    subst hb20
    refine mj_if_ne X 29 dX9_piece_23 (by decide) (fun c23 => ?_) (fun c23 => ?_)
    · obtain ⟨j, hj, ej⟩ := (inB_n (by omega)).mp (b2i_ne c23)
      refine mj_aload_n X dX9_piece_29 rfl 0 rfl ?_
      refine mj_get X (C := RX9) (T := TX9) (N := 25) (ci := 9) w_M_piece_0 rfl 23 (by decide) w_M_piece_4 f1_ rfl dX9_piece_30 ?_
      refine mj_iload_n X dX9_piece_33 rfl 1 rfl ?_
      refine mj_aload_n X dX9_piece_34 rfl 0 rfl ?_
      refine mj_get X (C := RX9) (T := TX9) (N := 25) (ci := 9) w_M_piece_0 rfl 23 (by decide) w_M_piece_4 f1_ rfl dX9_piece_35 ?_
      refine mj_iload_n X dX9_piece_38 rfl 1 rfl ?_
      have f2_ := (mw_un (M := M) (e := (.inr (9, mdF o 0 sg oc cm li ve fa tr to pz (nI pi)))) (show o + 13 ≠ o by omega)).trans h_hr
      refine mj_zald X 1 (hr j) rfl f2_ (by rw [ej]; exact vp_in_nI (by omega) (by omega)) (by rw [ej, nI_clamp (by omega)]) dX9_piece_39 ?_
      refine mj_if_ne X 47 dX9_piece_40 (by decide) (fun c40 => ?_) (fun c40 => ?_)
      · refine mj_iconst X (v := 1) dX9_piece_47 (by decide +kernel) ?_
        refine mj_goto X 52 dX9_piece_48 (by decide) ?_
        refine mj_zast X 1 j rfl f2_ (by rw [ej]; exact vp_in_nI (by omega) (by omega)) (by rw [ej, nI_clamp (by omega)]) dX9_piece_52 ?_
        refine mj_aload_n X dX9_piece_53 rfl 0 rfl ?_
        refine mj_iconst X (v := 1) dX9_piece_54 (by decide +kernel) ?_
        have f3_ := (mw_un (M := (mw_u M o (.inr (9, mdF o 0 sg oc cm li ve fa tr to pz (nI pi))))) (e := (.inl (ca 1, 320, .inl (upd hr j (vp_nar .boolean 1))))) (show o ≠ o + 13 by omega)).trans f1_
        have f4_ := mw_us (M := (mw_u M o (.inr (9, mdF o 0 sg oc cm li ve fa tr to pz (nI pi))))) (a := (o + 13)) (e := (.inl (ca 1, 320, .inl (upd hr j (vp_nar .boolean 1)))))
        refine mj_callV X 1 gX9_piece_X9_lacking rfl (by decide +kernel) ⟨by decide, by decide⟩ (c_M_lacking l D ca _ sz o pi 0 sg oc cm li ve fa tr to pz (upd hr j (vp_nar .boolean 1)) 1 f3_ f4_ hpi) rfl f3_ rfl rfl (Nat.le_of_ble_eq_true rfl) dX9_piece_55 ⟨by decide, by decide⟩ (mk_ri (fun b55 hb55 => ?_))
        refine mj_iret X hr0 (by decide) (by decide) dX9_piece_58 ?_
        have hv : (1 : Int32) = (if hr j = 0 ∧ u = 0 then 0 else 1) := by rw [if_neg (fun h9 => c40 h9.1)]
        have hn : vp_nar .boolean 1 = (if hr j = 0 ∧ u = 0 then 0 else 1) := (show vp_nar .boolean 1 = 1 by decide).trans hv
        rw [hn] at hb55
        refine ⟨_, rfl, Or.inr ⟨c9, j, hj, ej, hb55.trans (if_neg (by decide)), ?_⟩, rfl⟩
        rw [hn]
      · refine mj_iload_n X dX9_piece_43 rfl 2 rfl ?_
        refine mj_if_eq X 51 dX9_piece_44 (by decide) (fun c44 => ?_) (fun c44 => ?_)
        · refine mj_iconst X (v := 0) dX9_piece_51 (by decide +kernel) ?_
          refine mj_zast X 1 j rfl f2_ (by rw [ej]; exact vp_in_nI (by omega) (by omega)) (by rw [ej, nI_clamp (by omega)]) dX9_piece_52 ?_
          refine mj_aload_n X dX9_piece_53 rfl 0 rfl ?_
          refine mj_iconst X (v := 1) dX9_piece_54 (by decide +kernel) ?_
          have f5_ := (mw_un (M := (mw_u M o (.inr (9, mdF o 0 sg oc cm li ve fa tr to pz (nI pi))))) (e := (.inl (ca 1, 320, .inl (upd hr j (vp_nar .boolean 0))))) (show o ≠ o + 13 by omega)).trans f1_
          have f6_ := mw_us (M := (mw_u M o (.inr (9, mdF o 0 sg oc cm li ve fa tr to pz (nI pi))))) (a := (o + 13)) (e := (.inl (ca 1, 320, .inl (upd hr j (vp_nar .boolean 0)))))
          refine mj_callV X 1 gX9_piece_X9_lacking rfl (by decide +kernel) ⟨by decide, by decide⟩ (c_M_lacking l D ca _ sz o pi 0 sg oc cm li ve fa tr to pz (upd hr j (vp_nar .boolean 0)) 1 f5_ f6_ hpi) rfl f5_ rfl rfl (Nat.le_of_ble_eq_true rfl) dX9_piece_55 ⟨by decide, by decide⟩ (mk_ri (fun b55 hb55 => ?_))
          refine mj_iret X hr0 (by decide) (by decide) dX9_piece_58 ?_
          have hv : (0 : Int32) = (if hr j = 0 ∧ u = 0 then 0 else 1) := by rw [if_pos ⟨c40, c44⟩]
          have hn : vp_nar .boolean 0 = (if hr j = 0 ∧ u = 0 then 0 else 1) := (show vp_nar .boolean 0 = 0 by decide).trans hv
          rw [hn] at hb55
          refine ⟨_, rfl, Or.inr ⟨c9, j, hj, ej, hb55.trans (if_neg (by decide)), ?_⟩, rfl⟩
          rw [hn]
        · refine mj_iconst X (v := 1) dX9_piece_47 (by decide +kernel) ?_
          refine mj_goto X 52 dX9_piece_48 (by decide) ?_
          refine mj_zast X 1 j rfl f2_ (by rw [ej]; exact vp_in_nI (by omega) (by omega)) (by rw [ej, nI_clamp (by omega)]) dX9_piece_52 ?_
          refine mj_aload_n X dX9_piece_53 rfl 0 rfl ?_
          refine mj_iconst X (v := 1) dX9_piece_54 (by decide +kernel) ?_
          have f7_ := (mw_un (M := (mw_u M o (.inr (9, mdF o 0 sg oc cm li ve fa tr to pz (nI pi))))) (e := (.inl (ca 1, 320, .inl (upd hr j (vp_nar .boolean 1))))) (show o ≠ o + 13 by omega)).trans f1_
          have f8_ := mw_us (M := (mw_u M o (.inr (9, mdF o 0 sg oc cm li ve fa tr to pz (nI pi))))) (a := (o + 13)) (e := (.inl (ca 1, 320, .inl (upd hr j (vp_nar .boolean 1)))))
          refine mj_callV X 1 gX9_piece_X9_lacking rfl (by decide +kernel) ⟨by decide, by decide⟩ (c_M_lacking l D ca _ sz o pi 0 sg oc cm li ve fa tr to pz (upd hr j (vp_nar .boolean 1)) 1 f7_ f8_ hpi) rfl f7_ rfl rfl (Nat.le_of_ble_eq_true rfl) dX9_piece_55 ⟨by decide, by decide⟩ (mk_ri (fun b55 hb55 => ?_))
          refine mj_iret X hr0 (by decide) (by decide) dX9_piece_58 ?_
          have hv : (1 : Int32) = (if hr j = 0 ∧ u = 0 then 0 else 1) := by rw [if_neg (fun h9 => c44 h9.2)]
          have hn : vp_nar .boolean 1 = (if hr j = 0 ∧ u = 0 then 0 else 1) := (show vp_nar .boolean 1 = 1 by decide).trans hv
          rw [hn] at hb55
          refine ⟨_, rfl, Or.inr ⟨c9, j, hj, ej, hb55.trans (if_neg (by decide)), ?_⟩, rfl⟩
          rw [hn]
    · refine mj_bipush X (v := -2) dX9_piece_26 (by decide +kernel) ?_
      refine mj_iret X hr0 (by decide) (by decide) dX9_piece_28 ?_
      exact ⟨_, rfl, Or.inl ⟨Or.inr ((inB_f (by omega)).mp (b2i_eq c23)), rfl, rfl⟩, rfl⟩

theorem w_M_about_0 : ∀ w ∈ u_ws RX9 TX9 25, w ∈ wsX9_about := by decide +kernel
theorem w_M_about_1 : Cond.fieldLink RX9 54 "PackageRows2Model" "thrown" "I" ∈ wsX9_about := by decide +kernel
theorem w_M_about_2 : Cond.fieldLink RX9 23 "PackageRows2Model" "size" "[I" ∈ wsX9_about := by decide +kernel
theorem w_M_about_3 : Cond.fieldLink RX9 16 "PackageRows2Model" "pathSize" "[I" ∈ wsX9_about := by decide +kernel
theorem w_M_about_4 : Cond.fieldLink RX9 38 "PackageRows2Model" "shared" "[I" ∈ wsX9_about := by decide +kernel
set_option maxHeartbeats 4000000 in
set_option maxRecDepth 100000 in
/--  -/
theorem c_M_about (l : Launch) (D : va_G) (ca : Nat → ClassId) (M : mw_M) (sz o : Nat) (ve : Nat) (th sg oc cm li fa tr to pz pi : Int32) (mn : Nat → Int32) (ps : Nat → Int32) (si : Nat → Int32) (co : Nat → Int32) (sh : Nat → Int32) (vcn : Nat → Nat) (vn vk : Nat → Nat → Nat) (k i0 y : Int32) (ho : M o = some (.inr (9, mdF o th sg oc cm li (nI ve) fa tr to pz pi))) (h_mn : M (o + 9) = some (.inl (ca 0, 12, .inl mn))) (h_ps : M (o + 3) = some (.inl (ca 0, 120, .inl ps))) (h_si : M (o + 5) = some (.inl (ca 0, 120, .inl si))) (h_co : M (o + 6) = some (.inl (ca 2, 4800, .inl co))) (h_sh : M (o + 10) = some (.inl (ca 0, 120, .inl sh))) (hve : ve ≤ 12) (hmn : ∀ j, j < ve → mn j = nI (vcn j)) (hvcn : ∀ j, j < ve → vcn j ≤ 8) (hps : ∀ j t, j < ve → t < vcn j → ps (24 + 8 * j + t) = nI (vn j t) ∧ vn j t ≤ 24) (hsi : ∀ j t, j < ve → t < vcn j → si (24 + 8 * j + t) = nI (vk j t) ∧ vk j t ≤ 40) : mw_C wsX9_about l yX9_about { frames := 3, cells := 0, slots := 0, locals := 66 } D vwCl (mt ca) [.ref o, .int k, .int i0, .int y] M sz (mq_i (fun v9 M' sz' => ((∃ j t, atE ve vcn k i0 j t ∧ v9 = (if y = 0 then nI (vk j t) else if y = 1 then sumB (fun q => co (40 * (24 + 8 * j + t) + q)) (vk j t) else if y = 2 then nI (vn j t) else if y = 3 then sh (24 + 8 * j + t) else -1)) ∨ ((∀ j t, ¬ atE ve vcn k i0 j t) ∧ v9 = -1)) ∧ M' = mw_u M o (.inr (9, mdF o 0 sg oc cm li (nI ve) fa tr to pz pi)) ∧ sz' = sz)) := by
  refine mw_enter (cc := cX9_about) (maxL := 5) (ret := (some .int)) rfl (by decide) (Nat.le_of_ble_eq_true rfl) ?_
  intro p e s m below meth c X hr0 hnm hlt
  refine mj_aload_n X dX9_about_0 rfl 0 rfl ?_
  refine mj_iconst X (v := 0) dX9_about_1 (by decide +kernel) ?_
  refine mj_put X (C := RX9) (T := TX9) (N := 25) (ci := 9) (v := .int 0) tyX9 w_M_about_0 tyX9_ok nmX9 rfl 0 (by decide) w_M_about_1 rfl ho (mdF o 0 sg oc cm li (nI ve) fa tr to pz pi) (Nat.le_of_ble_eq_true rfl) rfl rfl rfl rfl dX9_about_2 ?_
  refine mj_aload_n X dX9_about_5 rfl 0 rfl ?_
  refine mj_iload_n X dX9_about_6 rfl 1 rfl ?_
  refine mj_iload_n X dX9_about_7 rfl 2 rfl ?_
  have f1_ := mw_us (M := M) (a := o) (e := (.inr (9, mdF o 0 sg oc cm li (nI ve) fa tr to pz pi)))
  have f2_ := (mw_un (M := M) (e := (.inr (9, mdF o 0 sg oc cm li (nI ve) fa tr to pz pi))) (show o + 9 ≠ o by omega)).trans h_mn
  refine mj_callV X 2 gX9_about_X9_isFile rfl (by decide +kernel) ⟨by decide, by decide⟩ (c_M_isFile l D ca _ sz o ve 0 sg oc cm li fa tr to pz pi mn vcn k i0 f1_ f2_ hve hmn hvcn) rfl f1_ rfl rfl (Nat.le_of_ble_eq_true rfl) dX9_about_8 ⟨by decide, by decide⟩ (mk_ri (fun b8 hb8 => ?_))
  refine mj_if_ne X 16 dX9_about_11 (by decide) (fun c11 => ?_) (fun c11 => ?_)
  · obtain ⟨j, t, hjt⟩ : ∃ j t, atE ve vcn k i0 j t := by
      rcases hb8 with ⟨j, t, h1, -⟩ | ⟨-, h1⟩
      · exact ⟨j, t, h1⟩
      · exact absurd h1 c11
    obtain ⟨hj, ht, rfl, rfl⟩ := hjt
    have h8 := hvcn j hj
    refine mj_bipush X (v := 24) dX9_about_16 (by decide +kernel) ?_
    refine mj_bipush X (v := 8) dX9_about_18 (by decide +kernel) ?_
    refine mj_iload_n X dX9_about_20 rfl 1 rfl ?_
    refine mj_imul X dX9_about_21 ?_
    refine mj_top (nI (8 * j)) (show nI 8 * nI j = _ from pk_mul 8 j) ?_
    refine mj_iadd X dX9_about_22 ?_
    refine mj_top (nI (24 + 8 * j)) (show nI 24 + nI (8 * j) = _ from nI_add _ _) ?_
    refine mj_iload_n X dX9_about_23 rfl 2 rfl ?_
    refine mj_iadd X dX9_about_24 ?_
    refine mj_top (nI (24 + 8 * j + t)) (nI_add _ _) ?_
    refine mj_istore X [(4, .int (nI (24 + 8 * j + t))), (0, .ref o), (1, .int (nI j)), (2, .int (nI t)), (3, .int y)] dX9_about_25 (by decide) rfl ?_
    refine mj_iload_n X dX9_about_27 rfl 4 rfl ?_
    by_cases hy0 : y = 0
    · refine mj_tableIn X 60 dX9_about_28 (by rw [hy0]; decide) (by rw [hy0]; decide) (off := 32) (by rw [hy0]; decide) (by decide) ?_
      refine mj_aload_n X dX9_about_60 rfl 1 rfl ?_
      refine mj_get X (C := RX9) (T := TX9) (N := 25) (ci := 9) w_M_about_0 rfl 9 (by decide) w_M_about_2 f1_ rfl dX9_about_61 ?_
      refine mj_iload X dX9_about_64 0 rfl ?_
      have f3_ := (mw_un (M := M) (e := (.inr (9, mdF o 0 sg oc cm li (nI ve) fa tr to pz pi))) (show o + 5 ≠ o by omega)).trans h_si
      refine mj_iald X 0 (nI (vk j t)) rfl f3_ (vp_in_nI (by omega) (by omega)) (by rw [nI_clamp (by omega)]; exact (hsi j t hj ht).1) dX9_about_66 ?_
      refine mj_iret X hr0 (by decide) (by decide) dX9_about_67 ?_
      exact ⟨_, rfl, Or.inl ⟨j, t, ⟨hj, ht, rfl, rfl⟩, by rw [if_pos hy0]⟩, rfl, rfl⟩
    by_cases hy1 : y = 1
    · refine mj_tableIn X 68 dX9_about_28 (by rw [hy1]; decide) (by rw [hy1]; decide) (off := 40) (by rw [hy1]; decide) (by decide) ?_
      refine mj_aload_n X dX9_about_68 rfl 1 rfl ?_
      refine mj_iload X dX9_about_69 0 rfl ?_
      have f4_ := (mw_un (M := M) (e := (.inr (9, mdF o 0 sg oc cm li (nI ve) fa tr to pz pi))) (show o + 5 ≠ o by omega)).trans h_si
      have f5_ := (mw_un (M := M) (e := (.inr (9, mdF o 0 sg oc cm li (nI ve) fa tr to pz pi))) (show o + 6 ≠ o by omega)).trans h_co
      refine mj_callV X 1 gX9_about_X9_sumOf rfl (by decide +kernel) ⟨by decide, by decide⟩ (c_M_sumOf l D ca _ sz o 0 sg oc cm li (nI ve) fa tr to pz pi si co (24 + 8 * j + t) (vk j t) f1_ f4_ f5_ (by omega) (hsi j t hj ht).1 (hsi j t hj ht).2) rfl f1_ rfl rfl (Nat.le_of_ble_eq_true rfl) dX9_about_71 ⟨by decide, by decide⟩ (mk_ri (fun b71 hb71 => ?_))
      subst hb71
      refine mj_iret X hr0 (by decide) (by decide) dX9_about_74 ?_
      exact ⟨_, rfl, Or.inl ⟨j, t, ⟨hj, ht, rfl, rfl⟩, by rw [if_neg hy0, if_pos hy1]⟩, rfl, rfl⟩
    by_cases hy2 : y = 2
    · refine mj_tableIn X 75 dX9_about_28 (by rw [hy2]; decide) (by rw [hy2]; decide) (off := 47) (by rw [hy2]; decide) (by decide) ?_
      refine mj_aload_n X dX9_about_75 rfl 1 rfl ?_
      refine mj_get X (C := RX9) (T := TX9) (N := 25) (ci := 9) w_M_about_0 rfl 7 (by decide) w_M_about_3 f1_ rfl dX9_about_76 ?_
      refine mj_iload X dX9_about_79 0 rfl ?_
      have f6_ := (mw_un (M := M) (e := (.inr (9, mdF o 0 sg oc cm li (nI ve) fa tr to pz pi))) (show o + 3 ≠ o by omega)).trans h_ps
      refine mj_iald X 0 (nI (vn j t)) rfl f6_ (vp_in_nI (by omega) (by omega)) (by rw [nI_clamp (by omega)]; exact (hps j t hj ht).1) dX9_about_81 ?_
      refine mj_iret X hr0 (by decide) (by decide) dX9_about_82 ?_
      exact ⟨_, rfl, Or.inl ⟨j, t, ⟨hj, ht, rfl, rfl⟩, by rw [if_neg hy0, if_neg hy1, if_pos hy2]⟩, rfl, rfl⟩
    by_cases hy3 : y = 3
    · refine mj_tableIn X 83 dX9_about_28 (by rw [hy3]; decide) (by rw [hy3]; decide) (off := 55) (by rw [hy3]; decide) (by decide) ?_
      refine mj_aload_n X dX9_about_83 rfl 1 rfl ?_
      refine mj_get X (C := RX9) (T := TX9) (N := 25) (ci := 9) w_M_about_0 rfl 15 (by decide) w_M_about_4 f1_ rfl dX9_about_84 ?_
      refine mj_iload X dX9_about_87 0 rfl ?_
      have f7_ := (mw_un (M := M) (e := (.inr (9, mdF o 0 sg oc cm li (nI ve) fa tr to pz pi))) (show o + 10 ≠ o by omega)).trans h_sh
      refine mj_iald X 0 (sh (24 + 8 * j + t)) rfl f7_ (vp_in_nI (by omega) (by omega)) (by rw [nI_clamp (by omega)]) dX9_about_89 ?_
      refine mj_iret X hr0 (by decide) (by decide) dX9_about_90 ?_
      exact ⟨_, rfl, Or.inl ⟨j, t, ⟨hj, ht, rfl, rfl⟩, by rw [if_neg hy0, if_neg hy1, if_neg hy2, if_pos hy3]⟩, rfl, rfl⟩
    refine mj_tableOut X 91 dX9_about_28 (i32_out4 hy0 hy1 hy2 hy3) (by decide) ?_
    refine mj_iconst X (v := -1) dX9_about_91 (by decide +kernel) ?_
    refine mj_iret X hr0 (by decide) (by decide) dX9_about_92 ?_
    exact ⟨_, rfl, Or.inl ⟨j, t, ⟨hj, ht, rfl, rfl⟩, by rw [if_neg hy0, if_neg hy1, if_neg hy2, if_neg hy3]⟩, rfl, rfl⟩
  · refine mj_iconst X (v := -1) dX9_about_14 (by decide +kernel) ?_
    refine mj_iret X hr0 (by decide) (by decide) dX9_about_15 ?_
    exact ⟨_, rfl, Or.inr ⟨(by rcases hb8 with ⟨j, t, h1, h2⟩ | ⟨h1, -⟩; exact absurd (h2.symm.trans c11) (by decide); exact h1), rfl⟩, rfl, rfl⟩

theorem w_M_sign_0 : ∀ w ∈ u_ws RX9 TX9 25, w ∈ wsX9_sign := by decide +kernel
theorem w_M_sign_1 : Cond.fieldLink RX9 54 "PackageRows2Model" "thrown" "I" ∈ wsX9_sign := by decide +kernel
theorem w_M_sign_2 : Cond.fieldLink RX9 16 "PackageRows2Model" "pathSize" "[I" ∈ wsX9_sign := by decide +kernel
theorem w_M_sign_3 : Cond.fieldLink RX9 20 "PackageRows2Model" "paths" "[B" ∈ wsX9_sign := by decide +kernel
set_option maxHeartbeats 4000000 in
set_option maxRecDepth 100000 in
/--  -/
theorem c_M_sign (l : Launch) (D : va_G) (ca : Nat → ClassId) (M : mw_M) (sz o : Nat) (ve : Nat) (th sg oc cm li fa tr to pz pi : Int32) (mn : Nat → Int32) (ps : Nat → Int32) (pp : Nat → Int32) (vcn : Nat → Nat) (vn : Nat → Nat → Nat) (k i0 y : Int32) (ho : M o = some (.inr (9, mdF o th sg oc cm li (nI ve) fa tr to pz pi))) (h_mn : M (o + 9) = some (.inl (ca 0, 12, .inl mn))) (h_ps : M (o + 3) = some (.inl (ca 0, 120, .inl ps))) (h_pp : M (o + 4) = some (.inl (ca 2, 2880, .inl pp))) (hve : ve ≤ 12) (hmn : ∀ j, j < ve → mn j = nI (vcn j)) (hvcn : ∀ j, j < ve → vcn j ≤ 8) (hps : ∀ j t, j < ve → t < vcn j → ps (24 + 8 * j + t) = nI (vn j t) ∧ vn j t ≤ 24) : mw_C wsX9_sign l yX9_sign { frames := 3, cells := 0, slots := 0, locals := 66 } D vwCl (mt ca) [.ref o, .int k, .int i0, .int y] M sz (mq_i (fun v9 M' sz' => ((∃ j t, atE ve vcn k i0 j t ∧ ((∃ u, u < vn j t ∧ y = nI u ∧ v9 = pp (24 * (24 + 8 * j + t) + u)) ∨ ((∀ u, u < vn j t → y ≠ nI u) ∧ v9 = -1))) ∨ ((∀ j t, ¬ atE ve vcn k i0 j t) ∧ v9 = -1)) ∧ M' = mw_u M o (.inr (9, mdF o 0 sg oc cm li (nI ve) fa tr to pz pi)) ∧ sz' = sz)) := by
  refine mw_enter (cc := cX9_sign) (maxL := 5) (ret := (some .int)) rfl (by decide) (Nat.le_of_ble_eq_true rfl) ?_
  intro p e s m below meth c X hr0 hnm hlt
  refine mj_aload_n X dX9_sign_0 rfl 0 rfl ?_
  refine mj_iconst X (v := 0) dX9_sign_1 (by decide +kernel) ?_
  refine mj_put X (C := RX9) (T := TX9) (N := 25) (ci := 9) (v := .int 0) tyX9 w_M_sign_0 tyX9_ok nmX9 rfl 0 (by decide) w_M_sign_1 rfl ho (mdF o 0 sg oc cm li (nI ve) fa tr to pz pi) (Nat.le_of_ble_eq_true rfl) rfl rfl rfl rfl dX9_sign_2 ?_
  refine mj_aload_n X dX9_sign_5 rfl 0 rfl ?_
  refine mj_iload_n X dX9_sign_6 rfl 1 rfl ?_
  refine mj_iload_n X dX9_sign_7 rfl 2 rfl ?_
  have f1_ := mw_us (M := M) (a := o) (e := (.inr (9, mdF o 0 sg oc cm li (nI ve) fa tr to pz pi)))
  have f2_ := (mw_un (M := M) (e := (.inr (9, mdF o 0 sg oc cm li (nI ve) fa tr to pz pi))) (show o + 9 ≠ o by omega)).trans h_mn
  refine mj_callV X 2 gX9_sign_X9_isFile rfl (by decide +kernel) ⟨by decide, by decide⟩ (c_M_isFile l D ca _ sz o ve 0 sg oc cm li fa tr to pz pi mn vcn k i0 f1_ f2_ hve hmn hvcn) rfl f1_ rfl rfl (Nat.le_of_ble_eq_true rfl) dX9_sign_8 ⟨by decide, by decide⟩ (mk_ri (fun b8 hb8 => ?_))
  refine mj_if_ne X 16 dX9_sign_11 (by decide) (fun c11 => ?_) (fun c11 => ?_)
  · obtain ⟨j, t, hjt⟩ : ∃ j t, atE ve vcn k i0 j t := by
      rcases hb8 with ⟨j, t, h1, -⟩ | ⟨-, h1⟩
      · exact ⟨j, t, h1⟩
      · exact absurd h1 c11
    obtain ⟨hj, ht, rfl, rfl⟩ := hjt
    have h8 := hvcn j hj
    refine mj_bipush X (v := 24) dX9_sign_16 (by decide +kernel) ?_
    refine mj_bipush X (v := 8) dX9_sign_18 (by decide +kernel) ?_
    refine mj_iload_n X dX9_sign_20 rfl 1 rfl ?_
    refine mj_imul X dX9_sign_21 ?_
    refine mj_top (nI (8 * j)) (show nI 8 * nI j = _ from pk_mul 8 j) ?_
    refine mj_iadd X dX9_sign_22 ?_
    refine mj_top (nI (24 + 8 * j)) (show nI 24 + nI (8 * j) = _ from nI_add _ _) ?_
    refine mj_iload_n X dX9_sign_23 rfl 2 rfl ?_
    refine mj_iadd X dX9_sign_24 ?_
    refine mj_top (nI (24 + 8 * j + t)) (nI_add _ _) ?_
    refine mj_istore X [(4, .int (nI (24 + 8 * j + t))), (0, .ref o), (1, .int (nI j)), (2, .int (nI t)), (3, .int y)] dX9_sign_25 (by decide) rfl ?_
    refine mj_iload_n X dX9_sign_27 rfl 4 rfl ?_
    refine mj_iconst X (v := 0) dX9_sign_28 (by decide +kernel) ?_
    refine mj_aload_n X dX9_sign_29 rfl 1 rfl ?_
    refine mj_get X (C := RX9) (T := TX9) (N := 25) (ci := 9) w_M_sign_0 rfl 7 (by decide) w_M_sign_2 f1_ rfl dX9_sign_30 ?_
    refine mj_iload X dX9_sign_33 0 rfl ?_
    have f3_ := (mw_un (M := M) (e := (.inr (9, mdF o 0 sg oc cm li (nI ve) fa tr to pz pi))) (show o + 3 ≠ o by omega)).trans h_ps
    refine mj_iald X 0 (nI (vn j t)) rfl f3_ (vp_in_nI (by omega) (by omega)) (by rw [nI_clamp (by omega)]; exact (hps j t hj ht).1) dX9_sign_35 ?_
    refine mj_iconst X (v := 1) dX9_sign_36 (by decide +kernel) ?_
    refine mj_isub X dX9_sign_37 ?_
    refine mj_callS X 3 gX9_sign_X9_in rfl (by decide +kernel) ⟨by decide, by decide⟩ (c_M_in l D ca _ _ y 0 (nI (vn j t) - 1)) rfl rfl (Nat.le_of_ble_eq_true rfl) dX9_sign_38 ⟨by decide, by decide⟩ (mk_ri (fun b38 hb38 => ?_))
    subst hb38
    refine mj_if_eq X 59 dX9_sign_41 (by decide) (fun c41 => ?_) (fun c41 => ?_)
    · refine mj_iconst X (v := -1) dX9_sign_59 (by decide +kernel) ?_
      refine mj_iret X hr0 (by decide) (by decide) dX9_sign_60 ?_
      have hvn := (hps j t hj ht).2
      exact ⟨_, rfl, Or.inl ⟨j, t, ⟨hj, ht, rfl, rfl⟩, Or.inr ⟨(inB_f (n := vn j t) (by omega)).mp (b2i_eq c41), rfl⟩⟩, rfl, rfl⟩
    · have hvn := (hps j t hj ht).2
      obtain ⟨u, hu, rfl⟩ := (inB_n (n := vn j t) (by omega)).mp (b2i_ne c41)
      refine mj_aload_n X dX9_sign_44 rfl 1 rfl ?_
      refine mj_get X (C := RX9) (T := TX9) (N := 25) (ci := 9) w_M_sign_0 rfl 8 (by decide) w_M_sign_3 f1_ rfl dX9_sign_45 ?_
      refine mj_bipush X (v := 24) dX9_sign_48 (by decide +kernel) ?_
      refine mj_iload X dX9_sign_50 0 rfl ?_
      refine mj_imul X dX9_sign_52 ?_
      refine mj_top (nI (24 * (24 + 8 * j + t))) (show nI 24 * nI (24 + 8 * j + t) = _ from pk_mul 24 (24 + 8 * j + t)) ?_
      refine mj_iload_n X dX9_sign_53 rfl 4 rfl ?_
      refine mj_iadd X dX9_sign_54 ?_
      refine mj_top (nI (24 * (24 + 8 * j + t) + u)) (nI_add _ _) ?_
      have f4_ := (mw_un (M := M) (e := (.inr (9, mdF o 0 sg oc cm li (nI ve) fa tr to pz pi))) (show o + 4 ≠ o by omega)).trans h_pp
      refine mj_bald X 2 (pp (24 * (24 + 8 * j + t) + u)) rfl f4_ (vp_in_nI (by omega) (by omega)) (by rw [nI_clamp (by omega)]) dX9_sign_55 ?_
      refine mj_goto X 60 dX9_sign_56 (by decide) ?_
      refine mj_iret X hr0 (by decide) (by decide) dX9_sign_60 ?_
      exact ⟨_, rfl, Or.inl ⟨j, t, ⟨hj, ht, rfl, rfl⟩, Or.inl ⟨u, hu, rfl, rfl⟩⟩, rfl, rfl⟩
  · refine mj_iconst X (v := -1) dX9_sign_14 (by decide +kernel) ?_
    refine mj_iret X hr0 (by decide) (by decide) dX9_sign_15 ?_
    exact ⟨_, rfl, Or.inr ⟨(by rcases hb8 with ⟨j, t, h1, h2⟩ | ⟨h1, -⟩; exact absurd (h2.symm.trans c11) (by decide); exact h1), rfl⟩, rfl, rfl⟩

