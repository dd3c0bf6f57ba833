theorem cpy_0 {α : Type} (f g : Nat → α) (d : Nat) : va_cpy f g 0 d 0 = g := by funext k; simp [va_cpy]; intro h1 h2; omega
theorem cpy_s (f g : Nat → Int32) (d i : Nat) : upd (va_cpy f g 0 d i) (d + i) (f i) = va_cpy f g 0 d (i + 1) := by
  funext k
  by_cases h : k = d + i
  · subst h; simp [upd, va_cpy]
  · by_cases h1 : d ≤ k ∧ k < d + i
    · have h2 : d ≤ k ∧ k < d + (i + 1) := by omega
      simp [upd, va_cpy, h, h1, h2]
    · have h2 : ¬ (d ≤ k ∧ k < d + (i + 1)) := by omega
      simp only [upd, va_cpy, h, if_false, if_neg h1, if_neg h2]
/-- all are points -/
def allp (f : Nat → Int32) (st : Nat) : Nat → Bool
  | 0 => true
  | k + 1 => allp f st k && decide (f (st + k) = 46)
theorem part_pts {f : Nat → Int32} {st k : Nat} (h : st ≤ k) : (!(decide (k - st < 3) && allp f st (k - st))) = part f st k := by
  obtain ⟨d, rfl⟩ : ∃ d, k = st + d := ⟨k - st, by omega⟩
  rw [show st + d - st = d by omega]
  unfold part
  rw [show st + d - st = d by omega]
  match d with
  | 0 => simp [allp]
  | 1 => simp [allp]
  | 2 => simp [allp]
  | d + 3 => simp
theorem byt_46 {b : Int32} (h : b.toInt8.toInt32 = b) : b = 46 ↔ b &&& 255 = 46 := by
  have h1 := sc_eq h (n := 46) (by omega)
  rw [show (nI 46).toInt8.toInt32 = 46 by decide] at h1
  exact h1
theorem byt_47 {b : Int32} (h : b.toInt8.toInt32 = b) : b = 47 ↔ b &&& 255 = 47 := by
  have h1 := sc_eq h (n := 47) (by omega)
  rw [show (nI 47).toInt8.toInt32 = 47 by decide] at h1
  exact h1
theorem inB_124 {n : Nat} (h : n < 2 ^ 31) : inB (nI n) 1 24 = (decide (1 ≤ n) && decide (n ≤ 24)) := by
  have h1 : (nI n < 1) ↔ ¬ 1 ≤ n := by
    rw [show (1 : Int32) = nI 1 from rfl, nI_ltI h (by omega)]; omega
  have h2 : (24 < nI n) ↔ ¬ n ≤ 24 := by
    rw [show (24 : Int32) = nI 24 from rfl, nI_ltI (by omega) h]; omega
  simp only [inB, h1, h2]
  by_cases a : 1 ≤ n <;> by_cases b : n ≤ 24 <;> simp [a, b]
theorem w_M_blame_0 : ∀ w ∈ u_ws RX9 TX9 25, w ∈ wsX9_blame := by decide +kernel
theorem w_M_blame_1 : Cond.fieldLink RX9 41 "PackageRows2Model" "fault" "[I" ∈ wsX9_blame := by decide +kernel
theorem w_M_blame_2 : Cond.fieldLink RX9 99 "PackageRows2Model" "faults" "I" ∈ wsX9_blame := by decide +kernel
theorem w_M_blame_3 : Cond.fieldLink RX9 44 "PackageRows2Model" "faultOf" "[I" ∈ wsX9_blame := by decide +kernel
set_option maxHeartbeats 4000000 in
set_option maxRecDepth 100000 in
/--  -/
theorem c_M_blame (l : Launch) (D : va_G) (ca : Nat → ClassId) (M : mw_M) (sz o : Nat) (fa : Nat) (th sg oc cm li ve tr to pz pi : Int32) (fk : Nat → Int32) (fo : Nat → Int32) (x y : Int32) (ho : M o = some (.inr (9, mdF o th sg oc cm li ve (nI fa) tr to pz pi))) (h_fk : M (o + 11) = some (.inl (ca 0, 24, .inl fk))) (h_fo : M (o + 12) = some (.inl (ca 0, 24, .inl fo))) (hfa : fa < 24) : mw_C wsX9_blame l yX9_blame { frames := 0, cells := 0, slots := 0, locals := 0 } D vwCl (mt ca) [.ref o, .int x, .int y] M sz (mq_v (fun M' sz' => ((x = 0 ∧ M' = M) ∨ (x ≠ 0 ∧ M' = mw_u (mw_u (mw_u M (o + 11) (.inl (ca 0, 24, .inl (upd fk fa x)))) (o + 12) (.inl (ca 0, 24, .inl (upd fo fa y)))) o (.inr (9, mdF o th sg oc cm li ve (nI (fa + 1)) tr to pz pi)))) ∧ sz' = sz)) := by
  refine mw_enter (cc := cX9_blame) (maxL := 3) (ret := none) rfl (by decide) (Nat.le_of_ble_eq_true rfl) ?_
  intro p e s m below meth c X hr0 hnm hlt
  refine mj_iload_n X dX9_blame_0 rfl 1 rfl ?_
  refine mj_if_ne X 5 dX9_blame_1 (by decide) (fun c1 => ?_) (fun c1 => ?_)
  · refine mj_aload_n X dX9_blame_5 rfl 0 rfl ?_
    refine mj_get X (C := RX9) (T := TX9) (N := 25) (ci := 9) w_M_blame_0 rfl 17 (by decide) w_M_blame_1 ho rfl dX9_blame_6 ?_
    refine mj_aload_n X dX9_blame_9 rfl 0 rfl ?_
    refine mj_get X (C := RX9) (T := TX9) (N := 25) (ci := 9) w_M_blame_0 rfl 16 (by decide) w_M_blame_2 ho rfl dX9_blame_10 ?_
    refine mj_iload_n X dX9_blame_13 rfl 1 rfl ?_
    refine mj_iast X 0 fa rfl h_fk (vp_in_nI (by omega) (by omega)) (nI_clamp (by omega)) dX9_blame_14 ?_
    refine mj_aload_n X dX9_blame_15 rfl 0 rfl ?_
    have f1_ := (mw_un (M := M) (e := (.inl (ca 0, 24, .inl (upd fk fa x)))) (show o ≠ o + 11 by omega)).trans ho
    refine mj_get X (C := RX9) (T := TX9) (N := 25) (ci := 9) w_M_blame_0 rfl 18 (by decide) w_M_blame_3 f1_ rfl dX9_blame_16 ?_
    refine mj_aload_n X dX9_blame_19 rfl 0 rfl ?_
    refine mj_get X (C := RX9) (T := TX9) (N := 25) (ci := 9) w_M_blame_0 rfl 16 (by decide) w_M_blame_2 f1_ rfl dX9_blame_20 ?_
    refine mj_iload_n X dX9_blame_23 rfl 2 rfl ?_
    have f2_ := (mw_un (M := M) (e := (.inl (ca 0, 24, .inl (upd fk fa x)))) (show o + 12 ≠ o + 11 by omega)).trans h_fo
    refine mj_iast X 0 fa rfl f2_ (vp_in_nI (by omega) (by omega)) (nI_clamp (by omega)) dX9_blame_24 ?_
    refine mj_aload_n X dX9_blame_25 rfl 0 rfl ?_
    refine mj_dup X dX9_blame_26 rfl ?_
    have f3_ := (mw_un (M := (mw_u M (o + 11) (.inl (ca 0, 24, .inl (upd fk fa x))))) (e := (.inl (ca 0, 24, .inl (upd fo fa y)))) (show o ≠ o + 12 by omega)).trans f1_
    refine mj_get X (C := RX9) (T := TX9) (N := 25) (ci := 9) w_M_blame_0 rfl 16 (by decide) w_M_blame_2 f3_ rfl dX9_blame_27 ?_
    refine mj_iconst X (v := 1) dX9_blame_30 (by decide +kernel) ?_
    refine mj_iadd X dX9_blame_31 ?_
    refine mj_top (nI (fa + 1)) (nI_1 fa) ?_
    refine mj_put X (C := RX9) (T := TX9) (N := 25) (ci := 9) (v := .int (nI (fa + 1))) tyX9 w_M_blame_0 tyX9_ok nmX9 rfl 16 (by decide) w_M_blame_2 rfl f3_ (mdF o th sg oc cm li ve (nI (fa + 1)) tr to pz pi) (Nat.le_of_ble_eq_true rfl) rfl rfl rfl rfl dX9_blame_32 ?_
    refine mj_vret X hr0 (by decide) (by decide) dX9_blame_35 ?_
    exact ⟨rfl, Or.inr ⟨c1, rfl⟩, rfl⟩
  · refine mj_vret X hr0 (by decide) (by decide) dX9_blame_4 ?_
    exact ⟨rfl, Or.inl ⟨c1, rfl⟩, rfl⟩

theorem w_M_check_0 : ∀ w ∈ u_ws RX9 TX9 25, w ∈ wsX9_check := by decide +kernel
theorem w_M_check_1 : Cond.fieldLink RX9 76 "PackageRows2Model" "came" "I" ∈ wsX9_check := by decide +kernel
theorem w_M_check_2 : Cond.fieldLink RX9 99 "PackageRows2Model" "faults" "I" ∈ wsX9_check := by decide +kernel
theorem w_M_check_3 : Cond.fieldLink RX9 83 "PackageRows2Model" "lines" "I" ∈ wsX9_check := by decide +kernel
theorem w_M_check_4 : Cond.fieldLink RX9 54 "PackageRows2Model" "thrown" "I" ∈ wsX9_check := by decide +kernel
set_option maxHeartbeats 4000000 in
set_option maxRecDepth 100000 in
theorem lp_M_check_38 {l : Launch} {D : va_G} {ca : Nat → ClassId} (M : mw_M) (sz o : Nat) (cm li : Nat) (th sg oc ve fa tr to pz pi : Int32) (ps : Nat → Int32) (pp : Nat → Int32) (si : Nat → Int32) (co : Nat → Int32) (ls1 : Nat → Int32) (ls2 : Nat → Int32) (fk : Nat → Int32) (fo : Nat → Int32) (psn sn : Nat → Nat) (K H : Nat → Int32) (ho : M o = some (.inr (9, mdF o th sg oc (nI cm) (nI li) ve fa tr to pz pi))) (h_ps : M (o + 3) = some (.inl (ca 0, 120, .inl ps))) (h_pp : M (o + 4) = some (.inl (ca 2, 2880, .inl pp))) (h_si : M (o + 5) = some (.inl (ca 0, 120, .inl si))) (h_co : M (o + 6) = some (.inl (ca 2, 4800, .inl co))) (h_ls1 : M (o + 7) = some (.inl (ca 0, 12, .inl ls1))) (h_ls2 : M (o + 8) = some (.inl (ca 0, 12, .inl ls2))) (h_fk : M (o + 11) = some (.inl (ca 0, 24, .inl fk))) (h_fo : M (o + 12) = some (.inl (ca 0, 24, .inl fo))) (hcm : cm ≤ 12) (hli : li ≤ 12) (hsE : ∀ k, k < cm → slN ps pp psn k) (hsL : ∀ k, k < li → slN ps pp psn (12 + k)) (hsz : ∀ k, k < cm → si k = nI (sn k) ∧ sn k ≤ 40) (hK : ∀ i, i < li → lfR cm psn sn (fun p j => pp (24 * p + j)) (fun p k => co (40 * p + k) &&& 255) (fun t => psn (12 + t)) (fun t j => pp (24 * (12 + t) + j)) ls1 ls2 i (K i)) (hH : ∀ i, i < cm → ffR psn (fun p j => pp (24 * p + j)) li (fun t => psn (12 + t)) (fun t j => pp (24 * (12 + t) + j)) i (H i)) {p : Program} {e : Env} {s : State} {m : MethodId} {below : List Frame} {meth : Method} {c : Code} (X : mw_X p s m ([.ref o] : List Value).toArray meth c cX9_check 2 yX9_check.cls wsX9_check D vwCl (mt ca)) (hr0 : meth.sig.returnType = (some .int)) (hnm : meth.name = yX9_check.name) (hlt : ∀ (a : Nat) (x : va_E), M a = some x → a < sz) : ∀ (fu : Nat) (i : Nat) (f1 g1 : Nat → Int32), i ≤ cm → cm < i + fu → (∀ j, j < li → K j ≠ 0 → f1 (nz K j) = K j ∧ g1 (nz K j) = nI j) → (∀ j, j < i → H j ≠ 0 → f1 (nz K li + nz H j) = H j ∧ g1 (nz K li + nz H j) = nI j) → mw_J p l e { frames := 3, cells := 0, slots := 0, locals := 71 } s m ([.ref o] : List Value).toArray below meth c 2 D vwCl (mw_A M sz) (MQ below (mw_Q D vwCl M sz (mq_i (fun v9 M' sz' => v9 = nI (nz K li + nz H cm) ∧ sz' = sz ∧ ∃ f' g' : Nat → Int32, M' = (mw_u (mw_u (mw_u M (o + 11) (.inl (ca 0, 24, .inl f'))) (o + 12) (.inl (ca 0, 24, .inl g'))) o (.inr (9, mdF o 0 sg oc (nI cm) (nI li) ve (nI (nz K li + nz H cm)) tr to pz pi))) ∧ (∀ j, j < li → K j ≠ 0 → f' (nz K j) = K j ∧ g' (nz K j) = nI j) ∧ (∀ j, j < cm → H j ≠ 0 → f' (nz K li + nz H j) = H j ∧ g' (nz K li + nz H j) = nI j)))) ([.ref o] : List Value).toArray s 0 0 (mw_A M sz)) 38 [(0, .ref o), (1, .int (nI i))] [] (mw_u (mw_u (mw_u M (o + 11) (.inl (ca 0, 24, .inl f1))) (o + 12) (.inl (ca 0, 24, .inl g1))) o (.inr (9, mdF o 0 sg oc (nI cm) (nI li) ve (nI (nz K li + nz H i)) tr to pz pi))) sz 0 0 := by
  intro fu
  induction fu with
  | zero => intro i f1 g1 h1 h2; omega
  | succ fu ih =>
    intro i f1 g1 hi hfu hin0 hin1
    have hb0 := nz_le K li
    have hb1 := nz_le H i
    refine mj_iload_n X dX9_check_38 rfl 1 rfl ?_
    refine mj_aload_n X dX9_check_39 rfl 0 rfl ?_
    have f1_ := (mw_un (M := M) (e := (.inl (ca 0, 24, .inl f1))) (show o ≠ o + 11 by omega)).trans ho
    have f2_ := (mw_un (M := (mw_u M (o + 11) (.inl (ca 0, 24, .inl f1)))) (e := (.inl (ca 0, 24, .inl g1))) (show o ≠ o + 12 by omega)).trans f1_
    have f3_ := mw_us (M := (mw_u (mw_u M (o + 11) (.inl (ca 0, 24, .inl f1))) (o + 12) (.inl (ca 0, 24, .inl g1)))) (a := o) (e := (.inr (9, mdF o 0 sg oc (nI cm) (nI li) ve (nI (nz K li + nz H i)) tr to pz pi)))
    refine mj_get X (C := RX9) (T := TX9) (N := 25) (ci := 9) w_M_check_0 rfl 5 (by decide) w_M_check_1 f3_ rfl dX9_check_40 ?_
    refine mj_icmp_ge X 62 dX9_check_43 (by decide) (fun c43 => ?_) (fun c43 => ?_)
    · refine mj_aload_n X dX9_check_62 rfl 0 rfl ?_
      refine mj_get X (C := RX9) (T := TX9) (N := 25) (ci := 9) w_M_check_0 rfl 16 (by decide) w_M_check_2 f3_ rfl dX9_check_63 ?_
      refine mj_iret X hr0 (by decide) (by decide) dX9_check_66 ?_
      have e9 : i = cm := by have h9 := (nI_leI (by omega) (by omega)).mp c43; omega
      subst e9
      exact ⟨_, rfl, rfl, rfl, f1, g1, rfl, hin0, hin1⟩
    · have hlti : i < cm := Nat.not_le.mp (fun h9 => c43 (nI_le h9 (by omega)))
      refine mj_aload_n X dX9_check_46 rfl 0 rfl ?_
      refine mj_aload_n X dX9_check_47 rfl 0 rfl ?_
      refine mj_iload_n X dX9_check_48 rfl 1 rfl ?_
      have f4_ := (mw_un (M := M) (e := (.inl (ca 0, 24, .inl f1))) (show o + 3 ≠ o + 11 by omega)).trans h_ps
      have f5_ := (mw_un (M := (mw_u M (o + 11) (.inl (ca 0, 24, .inl f1)))) (e := (.inl (ca 0, 24, .inl g1))) (show o + 3 ≠ o + 12 by omega)).trans f4_
      have f6_ := (mw_un (M := (mw_u (mw_u M (o + 11) (.inl (ca 0, 24, .inl f1))) (o + 12) (.inl (ca 0, 24, .inl g1)))) (e := (.inr (9, mdF o 0 sg oc (nI cm) (nI li) ve (nI (nz K li + nz H i)) tr to pz pi))) (show o + 3 ≠ o by omega)).trans f5_
      have f7_ := (mw_un (M := M) (e := (.inl (ca 0, 24, .inl f1))) (show o + 4 ≠ o + 11 by omega)).trans h_pp
      have f8_ := (mw_un (M := (mw_u M (o + 11) (.inl (ca 0, 24, .inl f1)))) (e := (.inl (ca 0, 24, .inl g1))) (show o + 4 ≠ o + 12 by omega)).trans f7_
      have f9_ := (mw_un (M := (mw_u (mw_u M (o + 11) (.inl (ca 0, 24, .inl f1))) (o + 12) (.inl (ca 0, 24, .inl g1)))) (e := (.inr (9, mdF o 0 sg oc (nI cm) (nI li) ve (nI (nz K li + nz H i)) tr to pz pi))) (show o + 4 ≠ o by omega)).trans f8_
      refine mj_callV X 1 gX9_check_X9_fileFault rfl (by decide +kernel) ⟨by decide, by decide⟩ (c_M_fileFault l D ca _ sz o cm li 0 sg oc ve (nI (nz K li + nz H i)) tr to pz pi ps pp psn i f3_ f6_ f9_ hcm hli hsE hsL hlti) rfl f3_ rfl rfl (Nat.le_of_ble_eq_true rfl) dX9_check_49 ⟨by decide, by decide⟩ (mk_ri (fun b2 hb2 => ?_))
      have eb : b2 = H i := ffR_uniq hb2 (hH i hlti)
      subst eb
      refine mj_iload_n X dX9_check_52 rfl 1 rfl ?_
      have f10_ := mw_us (M := M) (a := (o + 11)) (e := (.inl (ca 0, 24, .inl f1)))
      have f11_ := (mw_un (M := (mw_u M (o + 11) (.inl (ca 0, 24, .inl f1)))) (e := (.inl (ca 0, 24, .inl g1))) (show o + 11 ≠ o + 12 by omega)).trans f10_
      have f12_ := (mw_un (M := (mw_u (mw_u M (o + 11) (.inl (ca 0, 24, .inl f1))) (o + 12) (.inl (ca 0, 24, .inl g1)))) (e := (.inr (9, mdF o 0 sg oc (nI cm) (nI li) ve (nI (nz K li + nz H i)) tr to pz pi))) (show o + 11 ≠ o by omega)).trans f11_
      have f13_ := (mw_un (M := M) (e := (.inl (ca 0, 24, .inl f1))) (show o + 12 ≠ o + 11 by omega)).trans h_fo
      have f14_ := mw_us (M := (mw_u M (o + 11) (.inl (ca 0, 24, .inl f1)))) (a := (o + 12)) (e := (.inl (ca 0, 24, .inl g1)))
      have f15_ := (mw_un (M := (mw_u (mw_u M (o + 11) (.inl (ca 0, 24, .inl f1))) (o + 12) (.inl (ca 0, 24, .inl g1)))) (e := (.inr (9, mdF o 0 sg oc (nI cm) (nI li) ve (nI (nz K li + nz H i)) tr to pz pi))) (show o + 12 ≠ o by omega)).trans f14_
      refine mj_callV X 2 gX9_check_X9_blame rfl (by decide +kernel) ⟨by decide, by decide⟩ (c_M_blame l D ca _ sz o (nz K li + nz H i) 0 sg oc (nI cm) (nI li) ve tr to pz pi f1 g1 (H i) (nI i) f3_ f12_ f15_ (by omega)) rfl f3_ rfl rfl (Nat.le_of_ble_eq_true rfl) dX9_check_53 ⟨by decide, by decide⟩ (mk_v (fun M9 sz9 h9 => ?_))
      obtain ⟨h9, e9⟩ := h9
      obtain ⟨f2, g2, hM9, hf2⟩ : ∃ f2 g2 : Nat → Int32, M9 = (mw_u (mw_u (mw_u M (o + 11) (.inl (ca 0, 24, .inl f2))) (o + 12) (.inl (ca 0, 24, .inl g2))) o (.inr (9, mdF o 0 sg oc (nI cm) (nI li) ve (nI (nz K li + nz H (i + 1))) tr to pz pi))) ∧ ((∀ j, j < (nz K li + nz H i) → f2 j = f1 j ∧ g2 j = g1 j) ∧ (H i ≠ 0 → f2 (nz K li + nz H i) = H i ∧ g2 (nz K li + nz H i) = nI i)) := by
        rcases h9 with ⟨hk0, h2⟩ | ⟨h1, h3⟩
        · exact ⟨f1, g1, by rw [h2]; simp only [nz, hk0, if_true, Nat.add_zero], fun j _ => ⟨rfl, rfl⟩, fun h => absurd hk0 h⟩
        · refine ⟨_, _, h3.trans (by rw [mw_6 (by omega) (by omega) (by omega)]; simp only [nz, h1, if_false]; try rfl), fun j hj => ⟨pk_un (by omega), pk_un (by omega)⟩, fun _ => ⟨pk_us, pk_us⟩⟩
      refine mj_to rfl rfl hM9 e9 ?_
      refine mj_iinc X [(1, .int (nI (i + 1))), (0, .ref o)] dX9_check_56 1 rfl (nI_1 i) (by decide) rfl ?_
      refine mj_goto X 38 dX9_check_59 (by decide) ?_
      refine mj_sub [1, 0] rfl ?_
      refine ih (i + 1) f2 g2 hlti (by omega) (fun j hj hj0 => ?_) (fun j hj hj0 => ?_)
      · have a1 := hin0 j hj hj0
        have a2 : nz K j < nz K li := by have a3 := nz_mono K (show j + 1 ≤ li by omega); simp only [nz, hj0, if_false] at a3; omega
        exact ⟨(hf2.1 _ (by omega)).1.trans a1.1, (hf2.1 _ (by omega)).2.trans a1.2⟩
      · rcases Nat.lt_or_ge j i with q9 | q9
        · have a1 := hin1 j q9 hj0
          have a2 : nz H j < nz H i := by have a3 := nz_mono H (show j + 1 ≤ i by omega); simp only [nz, hj0, if_false] at a3; omega
          exact ⟨(hf2.1 _ (by omega)).1.trans a1.1, (hf2.1 _ (by omega)).2.trans a1.2⟩
        · have e1 : j = i := by omega
          subst e1; exact hf2.2 hj0
set_option maxHeartbeats 4000000 in
set_option maxRecDepth 100000 in
theorem lp_M_check_12 {l : Launch} {D : va_G} {ca : Nat → ClassId} (M : mw_M) (sz o : Nat) (cm li : Nat) (th sg oc ve fa tr to pz pi : Int32) (ps : Nat → Int32) (pp : Nat → Int32) (si : Nat → Int32) (co : Nat → Int32) (ls1 : Nat → Int32) (ls2 : Nat → Int32) (fk : Nat → Int32) (fo : Nat → Int32) (psn sn : Nat → Nat) (K H : Nat → Int32) (ho : M o = some (.inr (9, mdF o th sg oc (nI cm) (nI li) ve fa tr to pz pi))) (h_ps : M (o + 3) = some (.inl (ca 0, 120, .inl ps))) (h_pp : M (o + 4) = some (.inl (ca 2, 2880, .inl pp))) (h_si : M (o + 5) = some (.inl (ca 0, 120, .inl si))) (h_co : M (o + 6) = some (.inl (ca 2, 4800, .inl co))) (h_ls1 : M (o + 7) = some (.inl (ca 0, 12, .inl ls1))) (h_ls2 : M (o + 8) = some (.inl (ca 0, 12, .inl ls2))) (h_fk : M (o + 11) = some (.inl (ca 0, 24, .inl fk))) (h_fo : M (o + 12) = some (.inl (ca 0, 24, .inl fo))) (hcm : cm ≤ 12) (hli : li ≤ 12) (hsE : ∀ k, k < cm → slN ps pp psn k) (hsL : ∀ k, k < li → slN ps pp psn (12 + k)) (hsz : ∀ k, k < cm → si k = nI (sn k) ∧ sn k ≤ 40) (hK : ∀ i, i < li → lfR cm psn sn (fun p j => pp (24 * p + j)) (fun p k => co (40 * p + k) &&& 255) (fun t => psn (12 + t)) (fun t j => pp (24 * (12 + t) + j)) ls1 ls2 i (K i)) (hH : ∀ i, i < cm → ffR psn (fun p j => pp (24 * p + j)) li (fun t => psn (12 + t)) (fun t j => pp (24 * (12 + t) + j)) i (H i)) {p : Program} {e : Env} {s : State} {m : MethodId} {below : List Frame} {meth : Method} {c : Code} (X : mw_X p s m ([.ref o] : List Value).toArray meth c cX9_check 2 yX9_check.cls wsX9_check D vwCl (mt ca)) (hr0 : meth.sig.returnType = (some .int)) (hnm : meth.name = yX9_check.name) (hlt : ∀ (a : Nat) (x : va_E), M a = some x → a < sz) : ∀ (fu : Nat) (i : Nat) (f1 g1 : Nat → Int32), i ≤ li → li < i + fu → (∀ j, j < i → K j ≠ 0 → f1 (nz K j) = K j ∧ g1 (nz K j) = nI j) → mw_J p l e { frames := 3, cells := 0, slots := 0, locals := 71 } s m ([.ref o] : List Value).toArray below meth c 2 D vwCl (mw_A M sz) (MQ below (mw_Q D vwCl M sz (mq_i (fun v9 M' sz' => v9 = nI (nz K li + nz H cm) ∧ sz' = sz ∧ ∃ f' g' : Nat → Int32, M' = (mw_u (mw_u (mw_u M (o + 11) (.inl (ca 0, 24, .inl f'))) (o + 12) (.inl (ca 0, 24, .inl g'))) o (.inr (9, mdF o 0 sg oc (nI cm) (nI li) ve (nI (nz K li + nz H cm)) tr to pz pi))) ∧ (∀ j, j < li → K j ≠ 0 → f' (nz K j) = K j ∧ g' (nz K j) = nI j) ∧ (∀ j, j < cm → H j ≠ 0 → f' (nz K li + nz H j) = H j ∧ g' (nz K li + nz H j) = nI j)))) ([.ref o] : List Value).toArray s 0 0 (mw_A M sz)) 12 [(0, .ref o), (1, .int (nI i))] [] (mw_u (mw_u (mw_u M (o + 11) (.inl (ca 0, 24, .inl f1))) (o + 12) (.inl (ca 0, 24, .inl g1))) o (.inr (9, mdF o 0 sg oc (nI cm) (nI li) ve (nI (nz K i)) tr to pz pi))) sz 0 0 := by
  intro fu
  induction fu with
  | zero => intro i f1 g1 h1 h2; omega
  | succ fu ih =>
    intro i f1 g1 hi hfu hin1
    have hb0 := nz_le K i
    refine mj_iload_n X dX9_check_12 rfl 1 rfl ?_
    refine mj_aload_n X dX9_check_13 rfl 0 rfl ?_
    have f16_ := (mw_un (M := M) (e := (.inl (ca 0, 24, .inl f1))) (show o ≠ o + 11 by omega)).trans ho
    have f17_ := (mw_un (M := (mw_u M (o + 11) (.inl (ca 0, 24, .inl f1)))) (e := (.inl (ca 0, 24, .inl g1))) (show o ≠ o + 12 by omega)).trans f16_
    have f18_ := mw_us (M := (mw_u (mw_u M (o + 11) (.inl (ca 0, 24, .inl f1))) (o + 12) (.inl (ca 0, 24, .inl g1)))) (a := o) (e := (.inr (9, mdF o 0 sg oc (nI cm) (nI li) ve (nI (nz K i)) tr to pz pi)))
    refine mj_get X (C := RX9) (T := TX9) (N := 25) (ci := 9) w_M_check_0 rfl 6 (by decide) w_M_check_3 f18_ rfl dX9_check_14 ?_
    refine mj_icmp_ge X 36 dX9_check_17 (by decide) (fun c17 => ?_) (fun c17 => ?_)
    · refine mj_iconst X (v := 0) dX9_check_36 (by decide +kernel) ?_
      refine mj_istore_n X [(1, .int 0), (0, .ref o)] dX9_check_37 rfl (by decide) rfl ?_
      refine mj_sub [1, 0] rfl ?_
      have e9 : i = li := by have h9 := (nI_leI (by omega) (by omega)).mp c17; omega
      subst e9
      refine mj_to rfl rfl (show _ = (mw_u (mw_u (mw_u M (o + 11) (.inl (ca 0, 24, .inl f1))) (o + 12) (.inl (ca 0, 24, .inl g1))) o (.inr (9, mdF o 0 sg oc (nI cm) (nI i) ve (nI (nz K i + nz H 0)) tr to pz pi))) from rfl) rfl ?_
      rw [← nI_0]
      exact lp_M_check_38 (l := l) (D := D) (ca := ca) M sz o cm i th sg oc ve fa tr to pz pi ps pp si co ls1 ls2 fk fo psn sn K H ho h_ps h_pp h_si h_co h_ls1 h_ls2 h_fk h_fo hcm hli hsE hsL hsz hK hH X hr0 hnm hlt (cm + 1) 0 f1 g1 (by omega) (by omega) hin1 (fun j hj => absurd hj (by omega))
    · have hlti : i < li := Nat.not_le.mp (fun h9 => c17 (nI_le h9 (by omega)))
      refine mj_aload_n X dX9_check_20 rfl 0 rfl ?_
      refine mj_aload_n X dX9_check_21 rfl 0 rfl ?_
      refine mj_iload_n X dX9_check_22 rfl 1 rfl ?_
      have f19_ := (mw_un (M := M) (e := (.inl (ca 0, 24, .inl f1))) (show o + 3 ≠ o + 11 by omega)).trans h_ps
      have f20_ := (mw_un (M := (mw_u M (o + 11) (.inl (ca 0, 24, .inl f1)))) (e := (.inl (ca 0, 24, .inl g1))) (show o + 3 ≠ o + 12 by omega)).trans f19_
      have f21_ := (mw_un (M := (mw_u (mw_u M (o + 11) (.inl (ca 0, 24, .inl f1))) (o + 12) (.inl (ca 0, 24, .inl g1)))) (e := (.inr (9, mdF o 0 sg oc (nI cm) (nI li) ve (nI (nz K i)) tr to pz pi))) (show o + 3 ≠ o by omega)).trans f20_
      have f22_ := (mw_un (M := M) (e := (.inl (ca 0, 24, .inl f1))) (show o + 4 ≠ o + 11 by omega)).trans h_pp
      have f23_ := (mw_un (M := (mw_u M (o + 11) (.inl (ca 0, 24, .inl f1)))) (e := (.inl (ca 0, 24, .inl g1))) (show o + 4 ≠ o + 12 by omega)).trans f22_
      have f24_ := (mw_un (M := (mw_u (mw_u M (o + 11) (.inl (ca 0, 24, .inl f1))) (o + 12) (.inl (ca 0, 24, .inl g1)))) (e := (.inr (9, mdF o 0 sg oc (nI cm) (nI li) ve (nI (nz K i)) tr to pz pi))) (show o + 4 ≠ o by omega)).trans f23_
      have f25_ := (mw_un (M := M) (e := (.inl (ca 0, 24, .inl f1))) (show o + 5 ≠ o + 11 by omega)).trans h_si
      have f26_ := (mw_un (M := (mw_u M (o + 11) (.inl (ca 0, 24, .inl f1)))) (e := (.inl (ca 0, 24, .inl g1))) (show o + 5 ≠ o + 12 by omega)).trans f25_
      have f27_ := (mw_un (M := (mw_u (mw_u M (o + 11) (.inl (ca 0, 24, .inl f1))) (o + 12) (.inl (ca 0, 24, .inl g1)))) (e := (.inr (9, mdF o 0 sg oc (nI cm) (nI li) ve (nI (nz K i)) tr to pz pi))) (show o + 5 ≠ o by omega)).trans f26_
      have f28_ := (mw_un (M := M) (e := (.inl (ca 0, 24, .inl f1))) (show o + 6 ≠ o + 11 by omega)).trans h_co
      have f29_ := (mw_un (M := (mw_u M (o + 11) (.inl (ca 0, 24, .inl f1)))) (e := (.inl (ca 0, 24, .inl g1))) (show o + 6 ≠ o + 12 by omega)).trans f28_
      have f30_ := (mw_un (M := (mw_u (mw_u M (o + 11) (.inl (ca 0, 24, .inl f1))) (o + 12) (.inl (ca 0, 24, .inl g1)))) (e := (.inr (9, mdF o 0 sg oc (nI cm) (nI li) ve (nI (nz K i)) tr to pz pi))) (show o + 6 ≠ o by omega)).trans f29_
      have f31_ := (mw_un (M := M) (e := (.inl (ca 0, 24, .inl f1))) (show o + 7 ≠ o + 11 by omega)).trans h_ls1
      have f32_ := (mw_un (M := (mw_u M (o + 11) (.inl (ca 0, 24, .inl f1)))) (e := (.inl (ca 0, 24, .inl g1))) (show o + 7 ≠ o + 12 by omega)).trans f31_
      have f33_ := (mw_un (M := (mw_u (mw_u M (o + 11) (.inl (ca 0, 24, .inl f1))) (o + 12) (.inl (ca 0, 24, .inl g1)))) (e := (.inr (9, mdF o 0 sg oc (nI cm) (nI li) ve (nI (nz K i)) tr to pz pi))) (show o + 7 ≠ o by omega)).trans f32_
      have f34_ := (mw_un (M := M) (e := (.inl (ca 0, 24, .inl f1))) (show o + 8 ≠ o + 11 by omega)).trans h_ls2
      have f35_ := (mw_un (M := (mw_u M (o + 11) (.inl (ca 0, 24, .inl f1)))) (e := (.inl (ca 0, 24, .inl g1))) (show o + 8 ≠ o + 12 by omega)).trans f34_
      have f36_ := (mw_un (M := (mw_u (mw_u M (o + 11) (.inl (ca 0, 24, .inl f1))) (o + 12) (.inl (ca 0, 24, .inl g1)))) (e := (.inr (9, mdF o 0 sg oc (nI cm) (nI li) ve (nI (nz K i)) tr to pz pi))) (show o + 8 ≠ o by omega)).trans f35_
      refine mj_callV X 1 gX9_check_X9_lineFault rfl (by decide +kernel) ⟨by decide, by decide⟩ (c_M_lineFault l D ca _ sz o cm li 0 sg oc ve (nI (nz K i)) tr to pz pi ps pp si co ls1 ls2 psn sn i f18_ f21_ f24_ f27_ f30_ f33_ f36_ hcm hli hsE hsL hsz hlti) rfl f18_ rfl rfl (Nat.le_of_ble_eq_true rfl) dX9_check_23 ⟨by decide, by decide⟩ (mk_ri (fun b2 hb2 => ?_))
      have eb : b2 = K i := lfR_uniq hb2 (hK i hlti)
      subst eb
      refine mj_iload_n X dX9_check_26 rfl 1 rfl ?_
      have f37_ := mw_us (M := M) (a := (o + 11)) (e := (.inl (ca 0, 24, .inl f1)))
      have f38_ := (mw_un (M := (mw_u M (o + 11) (.inl (ca 0, 24, .inl f1)))) (e := (.inl (ca 0, 24, .inl g1))) (show o + 11 ≠ o + 12 by omega)).trans f37_
      have f39_ := (mw_un (M := (mw_u (mw_u M (o + 11) (.inl (ca 0, 24, .inl f1))) (o + 12) (.inl (ca 0, 24, .inl g1)))) (e := (.inr (9, mdF o 0 sg oc (nI cm) (nI li) ve (nI (nz K i)) tr to pz pi))) (show o + 11 ≠ o by omega)).trans f38_
      have f40_ := (mw_un (M := M) (e := (.inl (ca 0, 24, .inl f1))) (show o + 12 ≠ o + 11 by omega)).trans h_fo
      have f41_ := mw_us (M := (mw_u M (o + 11) (.inl (ca 0, 24, .inl f1)))) (a := (o + 12)) (e := (.inl (ca 0, 24, .inl g1)))
      have f42_ := (mw_un (M := (mw_u (mw_u M (o + 11) (.inl (ca 0, 24, .inl f1))) (o + 12) (.inl (ca 0, 24, .inl g1)))) (e := (.inr (9, mdF o 0 sg oc (nI cm) (nI li) ve (nI (nz K i)) tr to pz pi))) (show o + 12 ≠ o by omega)).trans f41_
      refine mj_callV X 2 gX9_check_X9_blame rfl (by decide +kernel) ⟨by decide, by decide⟩ (c_M_blame l D ca _ sz o (nz K i) 0 sg oc (nI cm) (nI li) ve tr to pz pi f1 g1 (K i) (nI i) f18_ f39_ f42_ (by omega)) rfl f18_ rfl rfl (Nat.le_of_ble_eq_true rfl) dX9_check_27 ⟨by decide, by decide⟩ (mk_v (fun M9 sz9 h9 => ?_))
      obtain ⟨h9, e9⟩ := h9
      obtain ⟨f2, g2, hM9, hf2⟩ : ∃ f2 g2 : Nat → Int32, M9 = (mw_u (mw_u (mw_u M (o + 11) (.inl (ca 0, 24, .inl f2))) (o + 12) (.inl (ca 0, 24, .inl g2))) o (.inr (9, mdF o 0 sg oc (nI cm) (nI li) ve (nI (nz K (i + 1))) tr to pz pi))) ∧ ((∀ j, j < (nz K i) → f2 j = f1 j ∧ g2 j = g1 j) ∧ (K i ≠ 0 → f2 (nz K i) = K i ∧ g2 (nz K i) = nI i)) := by
        rcases h9 with ⟨hk0, h2⟩ | ⟨h1, h3⟩
        · exact ⟨f1, g1, by rw [h2]; simp only [nz, hk0, if_true, Nat.add_zero], fun j _ => ⟨rfl, rfl⟩, fun h => absurd hk0 h⟩
        · refine ⟨_, _, h3.trans (by rw [mw_6 (by omega) (by omega) (by omega)]; simp only [nz, h1, if_false]; try rfl), fun j hj => ⟨pk_un (by omega), pk_un (by omega)⟩, fun _ => ⟨pk_us, pk_us⟩⟩
      refine mj_to rfl rfl hM9 e9 ?_
      refine mj_iinc X [(1, .int (nI (i + 1))), (0, .ref o)] dX9_check_30 1 rfl (nI_1 i) (by decide) rfl ?_
      refine mj_goto X 12 dX9_check_33 (by decide) ?_
      refine mj_sub [1, 0] rfl ?_
      refine ih (i + 1) f2 g2 hlti (by omega) (fun j hj hj0 => ?_)
      rcases Nat.lt_or_ge j i with q9 | q9
      · have a1 := hin1 j q9 hj0
        have a2 : nz K j < nz K i := by have a3 := nz_mono K (show j + 1 ≤ i by omega); simp only [nz, hj0, if_false] at a3; omega
        exact ⟨(hf2.1 _ a2).1.trans a1.1, (hf2.1 _ a2).2.trans a1.2⟩
      · have e1 : j = i := by omega
        subst e1; exact hf2.2 hj0
set_option maxHeartbeats 4000000 in
set_option maxRecDepth 100000 in
/--  -/
theorem c_M_check (l : Launch) (D : va_G) (ca : Nat → ClassId) (M : mw_M) (sz o : Nat) (cm li : Nat) (th sg oc ve fa tr to pz pi : Int32) (ps : Nat → Int32) (pp : Nat → Int32) (si : Nat → Int32) (co : Nat → Int32) (ls1 : Nat → Int32) (ls2 : Nat → Int32) (fk : Nat → Int32) (fo : Nat → Int32) (psn sn : Nat → Nat) (K H : Nat → Int32) (ho : M o = some (.inr (9, mdF o th sg oc (nI cm) (nI li) ve fa tr to pz pi))) (h_ps : M (o + 3) = some (.inl (ca 0, 120, .inl ps))) (h_pp : M (o + 4) = some (.inl (ca 2, 2880, .inl pp))) (h_si : M (o + 5) = some (.inl (ca 0, 120, .inl si))) (h_co : M (o + 6) = some (.inl (ca 2, 4800, .inl co))) (h_ls1 : M (o + 7) = some (.inl (ca 0, 12, .inl ls1))) (h_ls2 : M (o + 8) = some (.inl (ca 0, 12, .inl ls2))) (h_fk : M (o + 11) = some (.inl (ca 0, 24, .inl fk))) (h_fo : M (o + 12) = some (.inl (ca 0, 24, .inl fo))) (hcm : cm ≤ 12) (hli : li ≤ 12) (hsE : ∀ k, k < cm → slN ps pp psn k) (hsL : ∀ k, k < li → slN ps pp psn (12 + k)) (hsz : ∀ k, k < cm → si k = nI (sn k) ∧ sn k ≤ 40) (hK : ∀ i, i < li → lfR cm psn sn (fun p j => pp (24 * p + j)) (fun p k => co (40 * p + k) &&& 255) (fun t => psn (12 + t)) (fun t j => pp (24 * (12 + t) + j)) ls1 ls2 i (K i)) (hH : ∀ i, i < cm → ffR psn (fun p j => pp (24 * p + j)) li (fun t => psn (12 + t)) (fun t j => pp (24 * (12 + t) + j)) i (H i)) : mw_C wsX9_check l yX9_check { frames := 3, cells := 0, slots := 0, locals := 71 } D vwCl (mt ca) [.ref o] M sz (mq_i (fun v9 M' sz' => v9 = nI (nz K li + nz H cm) ∧ sz' = sz ∧ ∃ f' g' : Nat → Int32, M' = (mw_u (mw_u (mw_u M (o + 11) (.inl (ca 0, 24, .inl f'))) (o + 12) (.inl (ca 0, 24, .inl g'))) o (.inr (9, mdF o 0 sg oc (nI cm) (nI li) ve (nI (nz K li + nz H cm)) tr to pz pi))) ∧ (∀ j, j < li → K j ≠ 0 → f' (nz K j) = K j ∧ g' (nz K j) = nI j) ∧ (∀ j, j < cm → H j ≠ 0 → f' (nz K li + nz H j) = H j ∧ g' (nz K li + nz H j) = nI j))) := by
  refine mw_enter (cc := cX9_check) (maxL := 2) (ret := (some .int)) rfl (by decide) (Nat.le_of_ble_eq_true rfl) ?_
  intro p e s m below meth c X hr0 hnm hlt
  refine mj_aload_n X dX9_check_0 rfl 0 rfl ?_
  refine mj_iconst X (v := 0) dX9_check_1 (by decide +kernel) ?_
  refine mj_put X (C := RX9) (T := TX9) (N := 25) (ci := 9) (v := .int 0) tyX9 w_M_check_0 tyX9_ok nmX9 rfl 0 (by decide) w_M_check_4 rfl ho (mdF o 0 sg oc (nI cm) (nI li) ve fa tr to pz pi) (Nat.le_of_ble_eq_true rfl) rfl rfl rfl rfl dX9_check_2 ?_
  refine mj_aload_n X dX9_check_5 rfl 0 rfl ?_
  refine mj_iconst X (v := 0) dX9_check_6 (by decide +kernel) ?_
  have f43_ := mw_us (M := M) (a := o) (e := (.inr (9, mdF o 0 sg oc (nI cm) (nI li) ve fa tr to pz pi)))
  refine mj_put X (C := RX9) (T := TX9) (N := 25) (ci := 9) (v := .int 0) tyX9 w_M_check_0 tyX9_ok nmX9 rfl 16 (by decide) w_M_check_2 rfl f43_ (mdF o 0 sg oc (nI cm) (nI li) ve 0 tr to pz pi) (Nat.le_of_ble_eq_true rfl) rfl rfl rfl rfl dX9_check_7 ?_
  refine mj_iconst X (v := 0) dX9_check_10 (by decide +kernel) ?_
  refine mj_istore_n X [(1, .int 0), (0, .ref o)] dX9_check_11 rfl (by decide) rfl ?_
  refine mj_sub [1, 0] rfl ?_
  refine mj_to (M' := (mw_u (mw_u (mw_u M (o + 11) (.inl (ca 0, 24, .inl fk))) (o + 12) (.inl (ca 0, 24, .inl fo))) o (.inr (9, mdF o 0 sg oc (nI cm) (nI li) ve (nI (nz K 0)) tr to pz pi)))) rfl rfl (by simp only [mw_uu]; rw [← nI_0, mw_self h_fk, mw_self h_fo]; rfl) rfl ?_
  rw [← nI_0]
  exact lp_M_check_12 (l := l) (D := D) (ca := ca) M sz o cm li th sg oc ve fa tr to pz pi ps pp si co ls1 ls2 fk fo psn sn K H ho h_ps h_pp h_si h_co h_ls1 h_ls2 h_fk h_fo hcm hli hsE hsL hsz hK hH X hr0 hnm hlt (li + 1) 0 fk fo (by omega) (by omega) (fun j hj => absurd hj (by omega))

theorem w_M_lay_0 : ∀ w ∈ u_ws RX9 TX9 25, w ∈ wsX9_lay := by decide +kernel
theorem w_M_lay_1 : Cond.fieldLink RX9 58 "PackageRows2Model" "signs" "I" ∈ wsX9_lay := by decide +kernel
theorem w_M_lay_2 : Cond.fieldLink RX9 20 "PackageRows2Model" "paths" "[B" ∈ wsX9_lay := by decide +kernel
theorem w_M_lay_3 : Cond.fieldLink RX9 7 "PackageRows2Model" "path" "[B" ∈ wsX9_lay := by decide +kernel
theorem w_M_lay_4 : Cond.fieldLink RX9 16 "PackageRows2Model" "pathSize" "[I" ∈ wsX9_lay := by decide +kernel
set_option maxHeartbeats 4000000 in
set_option maxRecDepth 100000 in
theorem lp_M_lay_12 {l : Launch} {D : va_G} {ca : Nat → ClassId} (M : mw_M) (sz o : Nat) (sg : Nat) (th oc cm li ve fa tr to pz pi : Int32) (pa : Nat → Int32) (ps : Nat → Int32) (pp : Nat → Int32) (a : Nat) (ho : M o = some (.inr (9, mdF o th (nI sg) oc cm li ve fa tr to pz pi))) (h_pa : M (o + 1) = some (.inl (ca 2, 30, .inl pa))) (h_ps : M (o + 3) = some (.inl (ca 0, 120, .inl ps))) (h_pp : M (o + 4) = some (.inl (ca 2, 2880, .inl pp))) (hsg : sg ≤ 24) (ha : a < 120) (hpb : ∀ k, k < sg → (pa k).toInt8.toInt32 = pa k) {p : Program} {e : Env} {s : State} {m : MethodId} {below : List Frame} {meth : Method} {c : Code} (X : mw_X p s m ([.ref o, .int (nI a)] : List Value).toArray meth c cX9_lay 3 yX9_lay.cls wsX9_lay D vwCl (mt ca)) (hr0 : meth.sig.returnType = none) (hnm : meth.name = yX9_lay.name) (hlt : ∀ (a : Nat) (x : va_E), M a = some x → a < sz) : ∀ (fu : Nat) (i : Nat), i ≤ sg → sg < i + fu → mw_J p l e { frames := 0, cells := 0, slots := 0, locals := 0 } s m ([.ref o, .int (nI a)] : List Value).toArray below meth c 3 D vwCl (mw_A M sz) (MQ below (mw_Q D vwCl M sz (mq_v (fun M' sz' => M' = mw_u (mw_u M (o + 3) (.inl (ca 0, 120, .inl (upd ps a (nI sg))))) (o + 4) (.inl (ca 2, 2880, .inl (va_cpy pa pp 0 (24 * a) sg))) ∧ sz' = sz))) ([.ref o, .int (nI a)] : List Value).toArray s 0 0 (mw_A M sz)) 12 [(0, .ref o), (1, .int (nI a)), (2, .int (nI i))] [] (mw_u (mw_u M (o + 3) (.inl (ca 0, 120, .inl (upd ps a (nI sg))))) (o + 4) (.inl (ca 2, 2880, .inl (va_cpy pa pp 0 (24 * a) i)))) sz 0 0 := by
  intro fu
  induction fu with
  | zero => intro i h1 h2; omega
  | succ fu ih =>
    intro i hi hfu
    refine mj_iload_n X dX9_lay_12 rfl 2 rfl ?_
    refine mj_aload_n X dX9_lay_13 rfl 0 rfl ?_
    have f1_ := (mw_un (M := M) (e := (.inl (ca 0, 120, .inl (upd ps a (nI sg))))) (show o ≠ o + 3 by omega)).trans ho
    have f2_ := (mw_un (M := (mw_u M (o + 3) (.inl (ca 0, 120, .inl (upd ps a (nI sg)))))) (e := (.inl (ca 2, 2880, .inl (va_cpy pa pp 0 (24 * a) i)))) (show o ≠ o + 4 by omega)).trans f1_
    refine mj_get X (C := RX9) (T := TX9) (N := 25) (ci := 9) w_M_lay_0 rfl 1 (by decide) w_M_lay_1 f2_ rfl dX9_lay_14 ?_
    refine mj_icmp_ge X 43 dX9_lay_17 (by decide) (fun c17 => ?_) (fun c17 => ?_)
    · refine mj_vret X hr0 (by decide) (by decide) dX9_lay_43 ?_
      exact ⟨rfl, by rw [show i = sg by have h9 := (nI_leI (by omega) (by omega)).mp c17; omega], rfl⟩
    · have hlt17 : i < sg := Nat.not_le.mp (fun h9 => c17 (nI_le h9 (by omega)))
      refine mj_aload_n X dX9_lay_20 rfl 0 rfl ?_
      refine mj_get X (C := RX9) (T := TX9) (N := 25) (ci := 9) w_M_lay_0 rfl 8 (by decide) w_M_lay_2 f2_ rfl dX9_lay_21 ?_
      refine mj_bipush X (v := 24) dX9_lay_24 (by decide +kernel) ?_
      refine mj_iload_n X dX9_lay_26 rfl 1 rfl ?_
      refine mj_imul X dX9_lay_27 ?_
      refine mj_top (nI (24 * a)) (show nI 24 * nI a = _ from pk_mul 24 a) ?_
      refine mj_iload_n X dX9_lay_28 rfl 2 rfl ?_
      refine mj_iadd X dX9_lay_29 ?_
      refine mj_top (nI (24 * a + i)) (nI_add _ _) ?_
      refine mj_aload_n X dX9_lay_30 rfl 0 rfl ?_
      refine mj_get X (C := RX9) (T := TX9) (N := 25) (ci := 9) w_M_lay_0 rfl 2 (by decide) w_M_lay_3 f2_ rfl dX9_lay_31 ?_
      refine mj_iload_n X dX9_lay_34 rfl 2 rfl ?_
      have f3_ := (mw_un (M := M) (e := (.inl (ca 0, 120, .inl (upd ps a (nI sg))))) (show o + 1 ≠ o + 3 by omega)).trans h_pa
      have f4_ := (mw_un (M := (mw_u M (o + 3) (.inl (ca 0, 120, .inl (upd ps a (nI sg)))))) (e := (.inl (ca 2, 2880, .inl (va_cpy pa pp 0 (24 * a) i)))) (show o + 1 ≠ o + 4 by omega)).trans f3_
      refine mj_bald X 2 (pa i) rfl f4_ (vp_in_nI (by omega) (by omega)) (by rw [nI_clamp (by omega)]) dX9_lay_35 ?_
      have f5_ := (mw_un (M := M) (e := (.inl (ca 0, 120, .inl (upd ps a (nI sg))))) (show o + 4 ≠ o + 3 by omega)).trans h_pp
      have f6_ := mw_us (M := (mw_u M (o + 3) (.inl (ca 0, 120, .inl (upd ps a (nI sg)))))) (a := (o + 4)) (e := (.inl (ca 2, 2880, .inl (va_cpy pa pp 0 (24 * a) i))))
      refine mj_bast X 2 (24 * a + i) rfl f6_ (vp_in_nI (by omega) (by omega)) (nI_clamp (by omega)) dX9_lay_36 ?_
      refine mj_iinc X [(2, .int (nI (i + 1))), (0, .ref o), (1, .int (nI a))] dX9_lay_37 2 rfl (nI_1 i) (by decide) rfl ?_
      refine mj_goto X 12 dX9_lay_40 (by decide) ?_
      refine mj_sub [1, 2, 0] rfl ?_
      refine mj_to rfl rfl (show _ = mw_u _ (o + 4) (.inl (ca 2, 2880, .inl (va_cpy pa pp 0 (24 * a) (i + 1)))) by rw [mw_uu, show vp_nar .byte (pa i) = pa i by rw [vp_nar_byte]; exact hpb i hlt17, cpy_s]) rfl ?_
      exact ih (i + 1) hlt17 (by omega)
set_option maxHeartbeats 4000000 in
set_option maxRecDepth 100000 in
/--  -/
theorem c_M_lay (l : Launch) (D : va_G) (ca : Nat → ClassId) (M : mw_M) (sz o : Nat) (sg : Nat) (th oc cm li ve fa tr to pz pi : Int32) (pa : Nat → Int32) (ps : Nat → Int32) (pp : Nat → Int32) (a : Nat) (ho : M o = some (.inr (9, mdF o th (nI sg) oc cm li ve fa tr to pz pi))) (h_pa : M (o + 1) = some (.inl (ca 2, 30, .inl pa))) (h_ps : M (o + 3) = some (.inl (ca 0, 120, .inl ps))) (h_pp : M (o + 4) = some (.inl (ca 2, 2880, .inl pp))) (hsg : sg ≤ 24) (ha : a < 120) (hpb : ∀ k, k < sg → (pa k).toInt8.toInt32 = pa k) : mw_C wsX9_lay l yX9_lay { frames := 0, cells := 0, slots := 0, locals := 0 } D vwCl (mt ca) [.ref o, .int (nI a)] M sz (mq_v (fun M' sz' => M' = mw_u (mw_u M (o + 3) (.inl (ca 0, 120, .inl (upd ps a (nI sg))))) (o + 4) (.inl (ca 2, 2880, .inl (va_cpy pa pp 0 (24 * a) sg))) ∧ sz' = sz)) := by
  refine mw_enter (cc := cX9_lay) (maxL := 3) (ret := none) rfl (by decide) (Nat.le_of_ble_eq_true rfl) ?_
  intro p e s m below meth c X hr0 hnm hlt
  refine mj_aload_n X dX9_lay_0 rfl 0 rfl ?_
  refine mj_get X (C := RX9) (T := TX9) (N := 25) (ci := 9) w_M_lay_0 rfl 7 (by decide) w_M_lay_4 ho rfl dX9_lay_1 ?_
  refine mj_iload_n X dX9_lay_4 rfl 1 rfl ?_
  refine mj_aload_n X dX9_lay_5 rfl 0 rfl ?_
  refine mj_get X (C := RX9) (T := TX9) (N := 25) (ci := 9) w_M_lay_0 rfl 1 (by decide) w_M_lay_1 ho rfl dX9_lay_6 ?_
  refine mj_iast X 0 a rfl h_ps (vp_in_nI (by omega) (by omega)) (nI_clamp (by omega)) dX9_lay_9 ?_
  refine mj_iconst X (v := 0) dX9_lay_10 (by decide +kernel) ?_
  refine mj_istore_n X [(2, .int 0), (0, .ref o), (1, .int (nI a))] dX9_lay_11 rfl (by decide) rfl ?_
  refine mj_sub [1, 2, 0] rfl ?_
  refine mj_to (M' := mw_u (mw_u M (o + 3) (.inl (ca 0, 120, .inl (upd ps a (nI sg))))) (o + 4) (.inl (ca 2, 2880, .inl (va_cpy pa pp 0 (24 * a) 0)))) rfl rfl (by rw [cpy_0]; exact (mw_self ((mw_un (show o + 4 ≠ o + 3 by omega)).trans h_pp)).symm) rfl ?_
  exact lp_M_lay_12 (l := l) (D := D) (ca := ca) M sz o sg th oc cm li ve fa tr to pz pi pa ps pp a ho h_pa h_ps h_pp hsg ha hpb X hr0 hnm hlt (sg + 1) 0 (by omega) (by omega)

theorem w_M_isPath_0 : ∀ w ∈ u_ws RX9 TX9 25, w ∈ wsX9_isPath := by decide +kernel
theorem w_M_isPath_1 : Cond.fieldLink RX9 7 "PackageRows2Model" "path" "[B" ∈ wsX9_isPath := by decide +kernel
theorem w_M_isPath_2 : Cond.fieldLink RX9 58 "PackageRows2Model" "signs" "I" ∈ wsX9_isPath := by decide +kernel
set_option maxHeartbeats 4000000 in
set_option maxRecDepth 100000 in
theorem lp_M_isPath_84 {l : Launch} {D : va_G} {ca : Nat → ClassId} (M : mw_M) (sz o : Nat) (sg : Nat) (th oc cm li ve fa tr to pz pi : Int32) (pa : Nat → Int32) (ho : M o = some (.inr (9, mdF o th (nI sg) oc cm li ve fa tr to pz pi))) (h_pa : M (o + 1) = some (.inl (ca 2, 30, .inl pa))) (hsg : sg ≤ 30) (hpb : ∀ k, k < 30 → (pa k).toInt8.toInt32 = pa k) {p : Program} {e : Env} {s : State} {m : MethodId} {below : List Frame} {meth : Method} {c : Code} (X : mw_X p s m ([.ref o] : List Value).toArray meth c cX9_isPath 7 yX9_isPath.cls wsX9_isPath D vwCl (mt ca)) (hr0 : meth.sig.returnType = (some .boolean)) (hnm : meth.name = yX9_isPath.name) (hlt : ∀ (a : Nat) (x : va_E), M a = some x → a < sz) : ∀ (fu : Nat) (st i j : Nat), st ≤ j → j ≤ i → i < j + fu → i ≤ sg → (mw_J p l e { frames := 2, cells := 0, slots := 0, locals := 48 } s m ([.ref o] : List Value).toArray below meth c 7 D vwCl (mw_A M sz) (MQ below (mw_Q D vwCl M sz (mq_i (fun v9 M' sz' => M' = M ∧ sz' = sz ∧ v9 = b2i (isPathB (fun k => pa k &&& 255) sg)))) ([.ref o] : List Value).toArray s 0 0 (mw_A M sz)) 15 [(0, .ref o), (1, .int (b2i (part (fun k => pa k &&& 255) st i))), (2, .int (nI (i + 1))), (3, .int (nI (i + 1)))] [] M sz 0 0) → mw_J p l e { frames := 2, cells := 0, slots := 0, locals := 48 } s m ([.ref o] : List Value).toArray below meth c 7 D vwCl (mw_A M sz) (MQ below (mw_Q D vwCl M sz (mq_i (fun v9 M' sz' => M' = M ∧ sz' = sz ∧ v9 = b2i (isPathB (fun k => pa k &&& 255) sg)))) ([.ref o] : List Value).toArray s 0 0 (mw_A M sz)) 84 [(0, .ref o), (2, .int (nI st)), (3, .int (nI i)), (5, .int (b2i (decide (i - st < 3) && allp (fun k => pa k &&& 255) st (j - st)))), (6, .int (nI j))] [] M sz 0 0 := by
  intro fu
  induction fu with
  | zero => intro st i j h1 h2 h3; omega
  | succ fu ih =>
    intro st i j hstj hji hfu hi hcont
    refine mj_iload X dX9_isPath_84 4 rfl ?_
    refine mj_iload_n X dX9_isPath_86 rfl 2 rfl ?_
    refine mj_icmp_ge X 120 dX9_isPath_87 (by decide) (fun c87 => ?_) (fun c87 => ?_)
    · refine mj_iload X dX9_isPath_120 3 rfl ?_
      refine mj_if_ne X 129 dX9_isPath_122 (by decide) (fun c122 => ?_) (fun c122 => ?_)
      · refine mj_iconst X (v := 0) dX9_isPath_129 (by decide +kernel) ?_
        refine mj_istore_n X [(1, .int 0), (0, .ref o), (2, .int (nI st)), (3, .int (nI i)), (5, .int (b2i (decide (i - st < 3) && allp (fun k => pa k &&& 255) st (j - st)))), (6, .int (nI j))] dX9_isPath_130 rfl (by decide) rfl ?_
        refine mj_iload_n X dX9_isPath_131 rfl 3 rfl ?_
        refine mj_iconst X (v := 1) dX9_isPath_132 (by decide +kernel) ?_
        refine mj_iadd X dX9_isPath_133 ?_
        refine mj_top (nI (i + 1)) (nI_1 i) ?_
        refine mj_istore_n X [(2, .int (nI (i + 1))), (1, .int 0), (0, .ref o), (3, .int (nI i)), (5, .int (b2i (decide (i - st < 3) && allp (fun k => pa k &&& 255) st (j - st)))), (6, .int (nI j))] dX9_isPath_134 rfl (by decide) rfl ?_
        refine mj_iinc X [(3, .int (nI (i + 1))), (2, .int (nI (i + 1))), (1, .int 0), (0, .ref o), (5, .int (b2i (decide (i - st < 3) && allp (fun k => pa k &&& 255) st (j - st)))), (6, .int (nI j))] dX9_isPath_135 3 rfl (nI_1 i) (by decide) rfl ?_
        refine mj_goto X 15 dX9_isPath_138 (by decide) ?_
        refine mj_sub [3, 2, 1, 0] rfl ?_
        have ej : j = i := by have h9 := (nI_leI (by omega) (by omega)).mp c87; omega
        subst ej
        have hp : b2i (part (fun k => pa k &&& 255) st j) = 0 := by rw [← part_pts hstj, b2i_ne c122]; rfl
        refine mj_to (lo' := [(0, .ref o), (1, .int (b2i (part (fun k => pa k &&& 255) st j))), (2, .int (nI (j + 1))), (3, .int (nI (j + 1)))]) (by rw [hp]; rfl) rfl rfl rfl ?_
        exact hcont
      · refine mj_iconst X (v := 1) dX9_isPath_125 (by decide +kernel) ?_
        refine mj_goto X 130 dX9_isPath_126 (by decide) ?_
        refine mj_istore_n X [(1, .int 1), (0, .ref o), (2, .int (nI st)), (3, .int (nI i)), (5, .int (b2i (decide (i - st < 3) && allp (fun k => pa k &&& 255) st (j - st)))), (6, .int (nI j))] dX9_isPath_130 rfl (by decide) rfl ?_
        refine mj_iload_n X dX9_isPath_131 rfl 3 rfl ?_
        refine mj_iconst X (v := 1) dX9_isPath_132 (by decide +kernel) ?_
        refine mj_iadd X dX9_isPath_133 ?_
        refine mj_top (nI (i + 1)) (nI_1 i) ?_
        refine mj_istore_n X [(2, .int (nI (i + 1))), (1, .int 1), (0, .ref o), (3, .int (nI i)), (5, .int (b2i (decide (i - st < 3) && allp (fun k => pa k &&& 255) st (j - st)))), (6, .int (nI j))] dX9_isPath_134 rfl (by decide) rfl ?_
        refine mj_iinc X [(3, .int (nI (i + 1))), (2, .int (nI (i + 1))), (1, .int 1), (0, .ref o), (5, .int (b2i (decide (i - st < 3) && allp (fun k => pa k &&& 255) st (j - st)))), (6, .int (nI j))] dX9_isPath_135 3 rfl (nI_1 i) (by decide) rfl ?_
        refine mj_goto X 15 dX9_isPath_138 (by decide) ?_
        refine mj_sub [3, 2, 1, 0] rfl ?_
        have ej : j = i := by have h9 := (nI_leI (by omega) (by omega)).mp c87; omega
        subst ej
        have hp : b2i (part (fun k => pa k &&& 255) st j) = 1 := by rw [← part_pts hstj, b2i_eq c122]; rfl
        refine mj_to (lo' := [(0, .ref o), (1, .int (b2i (part (fun k => pa k &&& 255) st j))), (2, .int (nI (j + 1))), (3, .int (nI (j + 1)))]) (by rw [hp]; rfl) rfl rfl rfl ?_
        exact hcont
    · have hlt87 : j < i := Nat.not_le.mp (fun h9 => c87 (nI_le h9 (by omega)))
      refine mj_iload X dX9_isPath_90 3 rfl ?_
      refine mj_if_eq X 111 dX9_isPath_92 (by decide) (fun c92 => ?_) (fun c92 => ?_)
      · refine mj_iconst X (v := 0) dX9_isPath_111 (by decide +kernel) ?_
        refine mj_istore X [(5, .int 0), (0, .ref o), (2, .int (nI st)), (3, .int (nI i)), (6, .int (nI j))] dX9_isPath_112 (by decide) rfl ?_
        refine mj_iinc X [(6, .int (nI (j + 1))), (5, .int 0), (0, .ref o), (2, .int (nI st)), (3, .int (nI i))] dX9_isPath_114 4 rfl (nI_1 j) (by decide) rfl ?_
        refine mj_goto X 84 dX9_isPath_117 (by decide) ?_
        refine mj_sub [2, 3, 4, 1, 0] rfl ?_
        have hj1 : j + 1 - st = (j - st) + 1 := by omega
        have hj2 : st + (j - st) = j := by omega
        have hz := b2i_eq c92
        have hp : b2i (decide (i - st < 3) && allp (fun k => pa k &&& 255) st ((j + 1) - st)) = 0 := by rw [hj1, allp, ← Bool.and_assoc, hz, Bool.false_and]; rfl
        refine mj_to (lo' := [(0, .ref o), (2, .int (nI st)), (3, .int (nI i)), (5, .int (b2i (decide (i - st < 3) && allp (fun k => pa k &&& 255) st ((j + 1) - st)))), (6, .int (nI (j + 1)))]) (by rw [hp]; rfl) rfl rfl rfl ?_
        exact ih st i (j + 1) (by omega) (by omega) (by omega) hi hcont
      · refine mj_aload_n X dX9_isPath_95 rfl 0 rfl ?_
        refine mj_get X (C := RX9) (T := TX9) (N := 25) (ci := 9) w_M_isPath_0 rfl 2 (by decide) w_M_isPath_1 ho rfl dX9_isPath_96 ?_
        refine mj_iload X dX9_isPath_99 4 rfl ?_
        refine mj_bald X 2 (pa j) rfl h_pa (vp_in_nI (by omega) (by omega)) (by rw [nI_clamp (by omega)]) dX9_isPath_101 ?_
        refine mj_bipush X (v := 46) dX9_isPath_102 (by decide +kernel) ?_
        refine mj_icmp_ne X 111 dX9_isPath_104 (by decide) (fun c104 => ?_) (fun c104 => ?_)
        · refine mj_iconst X (v := 0) dX9_isPath_111 (by decide +kernel) ?_
          refine mj_istore X [(5, .int 0), (0, .ref o), (2, .int (nI st)), (3, .int (nI i)), (6, .int (nI j))] dX9_isPath_112 (by decide) rfl ?_
          refine mj_iinc X [(6, .int (nI (j + 1))), (5, .int 0), (0, .ref o), (2, .int (nI st)), (3, .int (nI i))] dX9_isPath_114 4 rfl (nI_1 j) (by decide) rfl ?_
          refine mj_goto X 84 dX9_isPath_117 (by decide) ?_
          refine mj_sub [2, 3, 4, 1, 0] rfl ?_
          have hj1 : j + 1 - st = (j - st) + 1 := by omega
          have hj2 : st + (j - st) = j := by omega
          have hp : b2i (decide (i - st < 3) && allp (fun k => pa k &&& 255) st ((j + 1) - st)) = 0 := by rw [hj1, allp, hj2, decide_eq_false (fun h9 => c104 ((byt_46 (hpb j (by omega))).mpr h9)), Bool.and_false, Bool.and_false]; rfl
          refine mj_to (lo' := [(0, .ref o), (2, .int (nI st)), (3, .int (nI i)), (5, .int (b2i (decide (i - st < 3) && allp (fun k => pa k &&& 255) st ((j + 1) - st)))), (6, .int (nI (j + 1)))]) (by rw [hp]; rfl) rfl rfl rfl ?_
          exact ih st i (j + 1) (by omega) (by omega) (by omega) hi hcont
        · refine mj_iconst X (v := 1) dX9_isPath_107 (by decide +kernel) ?_
          refine mj_goto X 112 dX9_isPath_108 (by decide) ?_
          refine mj_istore X [(5, .int 1), (0, .ref o), (2, .int (nI st)), (3, .int (nI i)), (6, .int (nI j))] dX9_isPath_112 (by decide) rfl ?_
          refine mj_iinc X [(6, .int (nI (j + 1))), (5, .int 1), (0, .ref o), (2, .int (nI st)), (3, .int (nI i))] dX9_isPath_114 4 rfl (nI_1 j) (by decide) rfl ?_
          refine mj_goto X 84 dX9_isPath_117 (by decide) ?_
          refine mj_sub [2, 3, 4, 1, 0] rfl ?_
          have hj1 : j + 1 - st = (j - st) + 1 := by omega
          have hj2 : st + (j - st) = j := by omega
          have hz := b2i_ne c92
          have hp : b2i (decide (i - st < 3) && allp (fun k => pa k &&& 255) st ((j + 1) - st)) = 1 := by rw [hj1, allp, ← Bool.and_assoc, hz, hj2, decide_eq_true ((byt_46 (hpb j (by omega))).mp c104)]; rfl
          refine mj_to (lo' := [(0, .ref o), (2, .int (nI st)), (3, .int (nI i)), (5, .int (b2i (decide (i - st < 3) && allp (fun k => pa k &&& 255) st ((j + 1) - st)))), (6, .int (nI (j + 1)))]) (by rw [hp]; rfl) rfl rfl rfl ?_
          exact ih st i (j + 1) (by omega) (by omega) (by omega) hi hcont
set_option maxHeartbeats 4000000 in
set_option maxRecDepth 100000 in
theorem lp_M_isPath_15 {l : Launch} {D : va_G} {ca : Nat → ClassId} (M : mw_M) (sz o : Nat) (sg : Nat) (th oc cm li ve fa tr to pz pi : Int32) (pa : Nat → Int32) (ho : M o = some (.inr (9, mdF o th (nI sg) oc cm li ve fa tr to pz pi))) (h_pa : M (o + 1) = some (.inl (ca 2, 30, .inl pa))) (hsg : sg ≤ 30) (hpb : ∀ k, k < 30 → (pa k).toInt8.toInt32 = pa k) {p : Program} {e : Env} {s : State} {m : MethodId} {below : List Frame} {meth : Method} {c : Code} (X : mw_X p s m ([.ref o] : List Value).toArray meth c cX9_isPath 7 yX9_isPath.cls wsX9_isPath D vwCl (mt ca)) (hr0 : meth.sig.returnType = (some .boolean)) (hnm : meth.name = yX9_isPath.name) (hlt : ∀ (a : Nat) (x : va_E), M a = some x → a < sz) : ∀ (fu : Nat) (bb : Bool) (st i : Nat), i ≤ sg + 1 → sg + 1 < i + fu → st ≤ i → (bb = true → isPathB (fun k => pa k &&& 255) sg = (if i ≤ sg then scn (fun k => pa k &&& 255) st i (sg - i) else true)) → (bb = false → isPathB (fun k => pa k &&& 255) sg = false) → mw_J p l e { frames := 2, cells := 0, slots := 0, locals := 48 } s m ([.ref o] : List Value).toArray below meth c 7 D vwCl (mw_A M sz) (MQ below (mw_Q D vwCl M sz (mq_i (fun v9 M' sz' => M' = M ∧ sz' = sz ∧ v9 = b2i (isPathB (fun k => pa k &&& 255) sg)))) ([.ref o] : List Value).toArray s 0 0 (mw_A M sz)) 15 [(0, .ref o), (1, .int (b2i bb)), (2, .int (nI st)), (3, .int (nI i))] [] M sz 0 0 := by
  intro fu
  induction fu with
  | zero => intro bb st i h1 h2; omega
  | succ fu ih =>
    intro bb st i hi1 hfu hst hbt hbf
    refine mj_iload_n X dX9_isPath_15 rfl 3 rfl ?_
    refine mj_aload_n X dX9_isPath_16 rfl 0 rfl ?_
    refine mj_get X (C := RX9) (T := TX9) (N := 25) (ci := 9) w_M_isPath_0 rfl 1 (by decide) w_M_isPath_2 ho rfl dX9_isPath_17 ?_
    refine mj_icmp_gt X 141 dX9_isPath_20 (by decide) (fun c20 => ?_) (fun c20 => ?_)
    · refine mj_iload_n X dX9_isPath_141 rfl 1 rfl ?_
      refine mj_zret X (b2i_nar _) hr0 (by decide) (by decide) dX9_isPath_142 ?_
      have hgt : sg < i := (nI_ltI (by omega) (by omega)).mp c20
      cases bb with
      | true => exact ⟨_, rfl, rfl, rfl, by rw [hbt rfl, if_neg (by omega)]⟩
      | false => exact ⟨_, rfl, rfl, rfl, by rw [hbf rfl]⟩
    · have hi : i ≤ sg := Nat.not_lt.mp (fun h9 => c20 (nI_lt h9 (by omega)))
      refine mj_iload_n X dX9_isPath_23 rfl 1 rfl ?_
      refine mj_if_eq X 141 dX9_isPath_24 (by decide) (fun c24 => ?_) (fun c24 => ?_)
      · refine mj_iload_n X dX9_isPath_141 rfl 1 rfl ?_
        refine mj_zret X (b2i_nar _) hr0 (by decide) (by decide) dX9_isPath_142 ?_
        exact ⟨_, rfl, rfl, rfl, by rw [hbf (b2i_eq c24), b2i_eq c24]⟩
      · have hbb : bb = true := b2i_ne c24
        refine mj_iload_n X dX9_isPath_27 rfl 3 rfl ?_
        refine mj_aload_n X dX9_isPath_28 rfl 0 rfl ?_
        refine mj_get X (C := RX9) (T := TX9) (N := 25) (ci := 9) w_M_isPath_0 rfl 1 (by decide) w_M_isPath_2 ho rfl dX9_isPath_29 ?_
        refine mj_icmp_ge X 63 dX9_isPath_32 (by decide) (fun c32 => ?_) (fun c32 => ?_)
        · refine mj_iload_n X dX9_isPath_63 rfl 3 rfl ?_
          refine mj_iload_n X dX9_isPath_64 rfl 2 rfl ?_
          refine mj_isub X dX9_isPath_65 ?_
          refine mj_top (nI (i - st)) (pk_sub hst) ?_
          refine mj_istore X [(4, .int (nI (i - st))), (0, .ref o), (1, .int (b2i bb)), (2, .int (nI st)), (3, .int (nI i))] dX9_isPath_66 (by decide) rfl ?_
          refine mj_iload X dX9_isPath_68 0 rfl ?_
          refine mj_iconst X (v := 3) dX9_isPath_70 (by decide +kernel) ?_
          refine mj_icmp_ge X 78 dX9_isPath_71 (by decide) (fun c71 => ?_) (fun c71 => ?_)
          · refine mj_iconst X (v := 0) dX9_isPath_78 (by decide +kernel) ?_
            refine mj_istore X [(5, .int 0), (4, .int (nI (i - st))), (0, .ref o), (1, .int (b2i bb)), (2, .int (nI st)), (3, .int (nI i))] dX9_isPath_79 (by decide) rfl ?_
            refine mj_iload_n X dX9_isPath_81 rfl 4 rfl ?_
            refine mj_istore X [(6, .int (nI st)), (5, .int 0), (4, .int (nI (i - st))), (0, .ref o), (1, .int (b2i bb)), (2, .int (nI st)), (3, .int (nI i))] dX9_isPath_82 (by decide) rfl ?_
            refine mj_sub [3, 5, 6, 1, 0] rfl ?_
            have hs0 : st - st = 0 := by omega
            have hp : b2i (decide (i - st < 3) && allp (fun k => pa k &&& 255) st (st - st)) = 0 := by rw [hs0, decide_eq_false (show ¬ i - st < 3 from fun h9 => nI_ge h9 (by omega) c71)]; rfl
            refine mj_to (lo' := [(0, .ref o), (2, .int (nI st)), (3, .int (nI i)), (5, .int (b2i (decide (i - st < 3) && allp (fun k => pa k &&& 255) st (st - st)))), (6, .int (nI st))]) (by rw [hp]; rfl) rfl rfl rfl ?_
            refine lp_M_isPath_84 (l := l) (D := D) (ca := ca) M sz o sg th oc cm li ve fa tr to pz pi pa ho h_pa hsg hpb X hr0 hnm hlt (i + 1) st i st (Nat.le_refl _) hst (by omega) (by omega) ?_
            have hsc := hbt hbb
            have e9 : i = sg := by have h9 := (nI_leI (by omega) (by omega)).mp c32; omega
            rw [if_pos (show i ≤ sg by omega), show sg - i = 0 by omega, scn] at hsc
            refine ih (part (fun k => pa k &&& 255) st i) (i + 1) (i + 1) (by omega) (by omega) (Nat.le_refl _) (fun hb => ?_) (fun hb => ?_)
            · rw [hsc, hb, if_neg (by omega)]
            · rw [hsc, hb]
          · refine mj_iconst X (v := 1) dX9_isPath_74 (by decide +kernel) ?_
            refine mj_goto X 79 dX9_isPath_75 (by decide) ?_
            refine mj_istore X [(5, .int 1), (4, .int (nI (i - st))), (0, .ref o), (1, .int (b2i bb)), (2, .int (nI st)), (3, .int (nI i))] dX9_isPath_79 (by decide) rfl ?_
            refine mj_iload_n X dX9_isPath_81 rfl 4 rfl ?_
            refine mj_istore X [(6, .int (nI st)), (5, .int 1), (4, .int (nI (i - st))), (0, .ref o), (1, .int (b2i bb)), (2, .int (nI st)), (3, .int (nI i))] dX9_isPath_82 (by decide) rfl ?_
            refine mj_sub [3, 5, 6, 1, 0] rfl ?_
            have hs0 : st - st = 0 := by omega
            have hp : b2i (decide (i - st < 3) && allp (fun k => pa k &&& 255) st (st - st)) = 1 := by rw [hs0, decide_eq_true (show i - st < 3 from Nat.not_le.mp (fun h9 => c71 (show nI 3 ≤ _ from nI_le h9 (by omega))))]; rfl
            refine mj_to (lo' := [(0, .ref o), (2, .int (nI st)), (3, .int (nI i)), (5, .int (b2i (decide (i - st < 3) && allp (fun k => pa k &&& 255) st (st - st)))), (6, .int (nI st))]) (by rw [hp]; rfl) rfl rfl rfl ?_
            refine lp_M_isPath_84 (l := l) (D := D) (ca := ca) M sz o sg th oc cm li ve fa tr to pz pi pa ho h_pa hsg hpb X hr0 hnm hlt (i + 1) st i st (Nat.le_refl _) hst (by omega) (by omega) ?_
            have hsc := hbt hbb
            have e9 : i = sg := by have h9 := (nI_leI (by omega) (by omega)).mp c32; omega
            rw [if_pos (show i ≤ sg by omega), show sg - i = 0 by omega, scn] at hsc
            refine ih (part (fun k => pa k &&& 255) st i) (i + 1) (i + 1) (by omega) (by omega) (Nat.le_refl _) (fun hb => ?_) (fun hb => ?_)
            · rw [hsc, hb, if_neg (by omega)]
            · rw [hsc, hb]
        · have hlt32 : i < sg := Nat.not_le.mp (fun h9 => c32 (nI_le h9 (by omega)))
          refine mj_aload_n X dX9_isPath_35 rfl 0 rfl ?_
          refine mj_get X (C := RX9) (T := TX9) (N := 25) (ci := 9) w_M_isPath_0 rfl 2 (by decide) w_M_isPath_1 ho rfl dX9_isPath_36 ?_
          refine mj_iload_n X dX9_isPath_39 rfl 3 rfl ?_
          refine mj_bald X 2 (pa i) rfl h_pa (vp_in_nI (by omega) (by omega)) (by rw [nI_clamp (by omega)]) dX9_isPath_40 ?_
          refine mj_bipush X (v := 47) dX9_isPath_41 (by decide +kernel) ?_
          refine mj_icmp_eq X 63 dX9_isPath_43 (by decide) (fun c43 => ?_) (fun c43 => ?_)
          · refine mj_iload_n X dX9_isPath_63 rfl 3 rfl ?_
            refine mj_iload_n X dX9_isPath_64 rfl 2 rfl ?_
            refine mj_isub X dX9_isPath_65 ?_
            refine mj_top (nI (i - st)) (pk_sub hst) ?_
            refine mj_istore X [(4, .int (nI (i - st))), (0, .ref o), (1, .int (b2i bb)), (2, .int (nI st)), (3, .int (nI i))] dX9_isPath_66 (by decide) rfl ?_
            refine mj_iload X dX9_isPath_68 0 rfl ?_
            refine mj_iconst X (v := 3) dX9_isPath_70 (by decide +kernel) ?_
            refine mj_icmp_ge X 78 dX9_isPath_71 (by decide) (fun c71 => ?_) (fun c71 => ?_)
            · refine mj_iconst X (v := 0) dX9_isPath_78 (by decide +kernel) ?_
              refine mj_istore X [(5, .int 0), (4, .int (nI (i - st))), (0, .ref o), (1, .int (b2i bb)), (2, .int (nI st)), (3, .int (nI i))] dX9_isPath_79 (by decide) rfl ?_
              refine mj_iload_n X dX9_isPath_81 rfl 4 rfl ?_
              refine mj_istore X [(6, .int (nI st)), (5, .int 0), (4, .int (nI (i - st))), (0, .ref o), (1, .int (b2i bb)), (2, .int (nI st)), (3, .int (nI i))] dX9_isPath_82 (by decide) rfl ?_
              refine mj_sub [3, 5, 6, 1, 0] rfl ?_
              have hs0 : st - st = 0 := by omega
              have hp : b2i (decide (i - st < 3) && allp (fun k => pa k &&& 255) st (st - st)) = 0 := by rw [hs0, decide_eq_false (show ¬ i - st < 3 from fun h9 => nI_ge h9 (by omega) c71)]; rfl
              refine mj_to (lo' := [(0, .ref o), (2, .int (nI st)), (3, .int (nI i)), (5, .int (b2i (decide (i - st < 3) && allp (fun k => pa k &&& 255) st (st - st)))), (6, .int (nI st))]) (by rw [hp]; rfl) rfl rfl rfl ?_
              refine lp_M_isPath_84 (l := l) (D := D) (ca := ca) M sz o sg th oc cm li ve fa tr to pz pi pa ho h_pa hsg hpb X hr0 hnm hlt (i + 1) st i st (Nat.le_refl _) hst (by omega) (by omega) ?_
              have h47 : (pa i &&& 255) = 47 := (byt_47 (hpb i (by omega))).mp c43
              have hsc := hbt hbb
              rw [if_pos (show i ≤ sg by omega), show sg - i = (sg - (i + 1)) + 1 by omega, scn, if_pos h47] at hsc
              refine ih (part (fun k => pa k &&& 255) st i) (i + 1) (i + 1) (by omega) (by omega) (Nat.le_refl _) (fun hb => ?_) (fun hb => ?_)
              · rw [hsc, hb, Bool.true_and, if_pos (show i + 1 ≤ sg by omega)]
              · rw [hsc, hb, Bool.false_and]
            · refine mj_iconst X (v := 1) dX9_isPath_74 (by decide +kernel) ?_
              refine mj_goto X 79 dX9_isPath_75 (by decide) ?_
              refine mj_istore X [(5, .int 1), (4, .int (nI (i - st))), (0, .ref o), (1, .int (b2i bb)), (2, .int (nI st)), (3, .int (nI i))] dX9_isPath_79 (by decide) rfl ?_
              refine mj_iload_n X dX9_isPath_81 rfl 4 rfl ?_
              refine mj_istore X [(6, .int (nI st)), (5, .int 1), (4, .int (nI (i - st))), (0, .ref o), (1, .int (b2i bb)), (2, .int (nI st)), (3, .int (nI i))] dX9_isPath_82 (by decide) rfl ?_
              refine mj_sub [3, 5, 6, 1, 0] rfl ?_
              have hs0 : st - st = 0 := by omega
              have hp : b2i (decide (i - st < 3) && allp (fun k => pa k &&& 255) st (st - st)) = 1 := by rw [hs0, decide_eq_true (show i - st < 3 from Nat.not_le.mp (fun h9 => c71 (show nI 3 ≤ _ from nI_le h9 (by omega))))]; rfl
              refine mj_to (lo' := [(0, .ref o), (2, .int (nI st)), (3, .int (nI i)), (5, .int (b2i (decide (i - st < 3) && allp (fun k => pa k &&& 255) st (st - st)))), (6, .int (nI st))]) (by rw [hp]; rfl) rfl rfl rfl ?_
              refine lp_M_isPath_84 (l := l) (D := D) (ca := ca) M sz o sg th oc cm li ve fa tr to pz pi pa ho h_pa hsg hpb X hr0 hnm hlt (i + 1) st i st (Nat.le_refl _) hst (by omega) (by omega) ?_
              have h47 : (pa i &&& 255) = 47 := (byt_47 (hpb i (by omega))).mp c43
              have hsc := hbt hbb
              rw [if_pos (show i ≤ sg by omega), show sg - i = (sg - (i + 1)) + 1 by omega, scn, if_pos h47] at hsc
              refine ih (part (fun k => pa k &&& 255) st i) (i + 1) (i + 1) (by omega) (by omega) (Nat.le_refl _) (fun hb => ?_) (fun hb => ?_)
              · rw [hsc, hb, Bool.true_and, if_pos (show i + 1 ≤ sg by omega)]
              · rw [hsc, hb, Bool.false_and]
          · refine mj_aload_n X dX9_isPath_46 rfl 0 rfl ?_
            refine mj_get X (C := RX9) (T := TX9) (N := 25) (ci := 9) w_M_isPath_0 rfl 2 (by decide) w_M_isPath_1 ho rfl dX9_isPath_47 ?_
            refine mj_iload_n X dX9_isPath_50 rfl 3 rfl ?_
            refine mj_bald X 2 (pa i) rfl h_pa (vp_in_nI (by omega) (by omega)) (by rw [nI_clamp (by omega)]) dX9_isPath_51 ?_
            refine mj_sipush X (v := 255) dX9_isPath_52 (by decide +kernel) ?_
            refine mj_iand X dX9_isPath_55 ?_
            refine mj_callS X 1 gX9_isPath_X9_isSign rfl (by decide +kernel) ⟨by decide, by decide⟩ (c_M_isSign l D ca M sz (pa i &&& 255)) rfl rfl (Nat.le_of_ble_eq_true rfl) dX9_isPath_56 ⟨by decide, by decide⟩ (mk_ri (fun b56 hb56 => ?_))
            subst hb56
            refine mj_istore_n X [(1, .int (b2i (okc (pa i &&& 255) || decide ((pa i &&& 255) = 47)))), (0, .ref o), (2, .int (nI st)), (3, .int (nI i))] dX9_isPath_59 rfl (by decide) rfl ?_
            refine mj_goto X 135 dX9_isPath_60 (by decide) ?_
            refine mj_iinc X [(3, .int (nI (i + 1))), (1, .int (b2i (okc (pa i &&& 255) || decide ((pa i &&& 255) = 47)))), (0, .ref o), (2, .int (nI st))] dX9_isPath_135 3 rfl (nI_1 i) (by decide) rfl ?_
            refine mj_goto X 15 dX9_isPath_138 (by decide) ?_
            refine mj_sub [2, 1, 3, 0] rfl ?_
            have hn47 : ¬ (pa i &&& 255) = 47 := fun h9 => c43 ((byt_47 (hpb i (by omega))).mpr h9)
            have hsc := hbt hbb
            rw [if_pos (show i ≤ sg by omega), show sg - i = (sg - (i + 1)) + 1 by omega, scn, if_neg hn47] at hsc
            refine ih (okc (pa i &&& 255) || decide ((pa i &&& 255) = 47)) st (i + 1) (by omega) (by omega) (by omega) (fun hb => ?_) (fun hb => ?_)
            · rw [decide_eq_false hn47, Bool.or_false] at hb
              rw [hsc, hb, Bool.true_and, if_pos (show i + 1 ≤ sg by omega)]
            · rw [decide_eq_false hn47, Bool.or_false] at hb
              rw [hsc, hb, Bool.false_and]
set_option maxHeartbeats 4000000 in
set_option maxRecDepth 100000 in
/--  -/
theorem c_M_isPath (l : Launch) (D : va_G) (ca : Nat → ClassId) (M : mw_M) (sz o : Nat) (sg : Nat) (th oc cm li ve fa tr to pz pi : Int32) (pa : Nat → Int32) (ho : M o = some (.inr (9, mdF o th (nI sg) oc cm li ve fa tr to pz pi))) (h_pa : M (o + 1) = some (.inl (ca 2, 30, .inl pa))) (hsg : sg ≤ 30) (hpb : ∀ k, k < 30 → (pa k).toInt8.toInt32 = pa k) : mw_C wsX9_isPath l yX9_isPath { frames := 2, cells := 0, slots := 0, locals := 48 } D vwCl (mt ca) [.ref o] M sz (mq_i (fun v9 M' sz' => M' = M ∧ sz' = sz ∧ v9 = b2i (isPathB (fun k => pa k &&& 255) sg))) := by
  refine mw_enter (cc := cX9_isPath) (maxL := 7) (ret := (some .boolean)) rfl (by decide) (Nat.le_of_ble_eq_true rfl) ?_
  intro p e s m below meth c X hr0 hnm hlt
  refine mj_aload_n X dX9_isPath_0 rfl 0 rfl ?_
  refine mj_get X (C := RX9) (T := TX9) (N := 25) (ci := 9) w_M_isPath_0 rfl 1 (by decide) w_M_isPath_2 ho rfl dX9_isPath_1 ?_
  refine mj_iconst X (v := 1) dX9_isPath_4 (by decide +kernel) ?_
  refine mj_bipush X (v := 24) dX9_isPath_5 (by decide +kernel) ?_
  refine mj_callS X 3 gX9_isPath_X9_in rfl (by decide +kernel) ⟨by decide, by decide⟩ (c_M_in l D ca _ _ (nI sg) 1 24) rfl rfl (Nat.le_of_ble_eq_true rfl) dX9_isPath_7 ⟨by decide, by decide⟩ (mk_ri (fun b7 hb7 => ?_))
  subst hb7
  refine mj_istore_n X [(1, .int (b2i (inB (nI sg) 1 24))), (0, .ref o)] dX9_isPath_10 rfl (by decide) rfl ?_
  refine mj_iconst X (v := 0) dX9_isPath_11 (by decide +kernel) ?_
  refine mj_istore_n X [(2, .int 0), (1, .int (b2i (inB (nI sg) 1 24))), (0, .ref o)] dX9_isPath_12 rfl (by decide) rfl ?_
  refine mj_iconst X (v := 0) dX9_isPath_13 (by decide +kernel) ?_
  refine mj_istore_n X [(3, .int 0), (2, .int 0), (1, .int (b2i (inB (nI sg) 1 24))), (0, .ref o)] dX9_isPath_14 rfl (by decide) rfl ?_
  refine mj_sub [3, 2, 1, 0] rfl ?_
  rw [← nI_0]
  exact lp_M_isPath_15 (l := l) (D := D) (ca := ca) M sz o sg th oc cm li ve fa tr to pz pi pa ho h_pa hsg hpb X hr0 hnm hlt (sg + 2) (inB (nI sg) 1 24) 0 0 (by omega) (by omega) (by omega) (fun hb => by rw [inB_124 (by omega)] at hb; simp only [isPathB, hb, Bool.true_and, if_pos (Nat.zero_le sg), Nat.sub_zero]) (fun hb => by rw [inB_124 (by omega)] at hb; simp only [isPathB, hb, Bool.false_and])

