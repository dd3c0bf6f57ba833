theorem inB_40 (x : Int32) : inB x 0 40 = (!decide (x < 0) && !decide (40 < x)) := rfl
/-- the bytes of two slots are alike -/
def alM (co : Nat → Int32) (a na b nb : Nat) : Prop := na = nb ∧ ∀ k, k < na → co (40 * a + k) = co (40 * b + k)
def eqk (co : Nat → Int32) (a b : Nat) : Nat → Bool
  | 0 => true
  | k + 1 => eqk co a b k && decide (co (40 * a + k) = co (40 * b + k))
theorem eqk_iff {co : Nat → Int32} {a b : Nat} : ∀ {n : Nat}, eqk co a b n = true ↔ ∀ k, k < n → co (40 * a + k) = co (40 * b + k)
  | 0 => by simp [eqk]
  | n + 1 => by
    rw [eqk, Bool.and_eq_true, eqk_iff, decide_eq_true_eq]
    constructor
    · rintro ⟨h1, h2⟩ k hk
      rcases Nat.lt_or_ge k n with q | q
      · exact h1 k q
      · rw [show k = n by omega]; exact h2
    · exact fun h => ⟨fun k hk => h k (by omega), h n (by omega)⟩
theorem cpy_self_s (g : Nat → Int32) (s d i : Nat) (f : Nat → Int32) (hf : f = fun k => g (s + k)) : upd (va_cpy f g 0 d i) (d + i) (g (s + i)) = va_cpy f g 0 d (i + 1) := by
  have h := cpy_s f g d i
  rw [hf] at h ⊢
  exact h
theorem w_M_file_0 : ∀ w ∈ u_ws RX9 TX9 25, w ∈ wsX9_file := by decide +kernel
theorem w_M_file_1 : Cond.fieldLink RX9 76 "PackageRows2Model" "came" "I" ∈ wsX9_file := by decide +kernel
theorem w_M_file_2 : Cond.fieldLink RX9 58 "PackageRows2Model" "signs" "I" ∈ wsX9_file := by decide +kernel
theorem w_M_file_3 : Cond.fieldLink RX9 26 "PackageRows2Model" "content" "[B" ∈ wsX9_file := by decide +kernel
theorem w_M_file_4 : Cond.fieldLink RX9 13 "PackageRows2Model" "bytes" "[B" ∈ wsX9_file := by decide +kernel
theorem w_M_file_5 : Cond.fieldLink RX9 54 "PackageRows2Model" "thrown" "I" ∈ wsX9_file := by decide +kernel
theorem w_M_file_6 : Cond.fieldLink RX9 61 "PackageRows2Model" "octets" "I" ∈ wsX9_file := by decide +kernel
theorem w_M_file_7 : Cond.fieldLink RX9 23 "PackageRows2Model" "size" "[I" ∈ wsX9_file := by decide +kernel
set_option maxHeartbeats 4000000 in
set_option maxRecDepth 100000 in
theorem lp_M_file_53 {l : Launch} {D : va_G} {ca : Nat → ClassId} (M : mw_M) (sz o : Nat) (sg oc cm : Nat) (th li ve fa tr to pz pi : Int32) (pa : Nat → Int32) (byt : Nat → Int32) (ps : Nat → Int32) (pp : Nat → Int32) (si : Nat → Int32) (co : Nat → Int32) (ho : M o = some (.inr (9, mdF o th (nI sg) (nI oc) (nI cm) li ve fa tr to pz pi))) (h_pa : M (o + 1) = some (.inl (ca 2, 30, .inl pa))) (h_byt : M (o + 2) = some (.inl (ca 2, 40, .inl byt))) (h_ps : M (o + 3) = some (.inl (ca 0, 120, .inl ps))) (h_pp : M (o + 4) = some (.inl (ca 2, 2880, .inl pp))) (h_si : M (o + 5) = some (.inl (ca 0, 120, .inl si))) (h_co : M (o + 6) = some (.inl (ca 2, 4800, .inl co))) (hsg : sg ≤ 30) (hpb : ∀ k, k < 30 → (pa k).toInt8.toInt32 = pa k) (hbb : ∀ k, k < 40 → (byt k).toInt8.toInt32 = byt k) (hoc : oc ≤ 40) (hcm : cm ≤ 12) {p : Program} {e : Env} {s : State} {m : MethodId} {below : List Frame} {meth : Method} {c : Code} (X : mw_X p s m ([.ref o] : List Value).toArray meth c cX9_file 4 yX9_file.cls wsX9_file D vwCl (mt ca)) (hr0 : meth.sig.returnType = (some .int)) (hnm : meth.name = yX9_file.name) (hlt : ∀ (a : Nat) (x : va_E), M a = some x → a < sz) : ∀ (fu : Nat) (i : Nat), isPathB (fun k => pa k &&& 255) sg = true → cm < 12 → i ≤ oc → oc < i + fu → mw_J p l e { frames := 3, cells := 0, slots := 0, locals := 74 } s m ([.ref o] : List Value).toArray below meth c 4 D vwCl (mw_A M sz) (MQ below (mw_Q D vwCl M sz (mq_i (fun v9 M' sz' => sz' = sz ∧ ((isPathB (fun k => pa k &&& 255) sg = false ∧ v9 = -2 ∧ M' = mw_u M o (.inr (9, mdF o 0 0 0 (nI cm) li ve fa tr to pz pi))) ∨ (isPathB (fun k => pa k &&& 255) sg = true ∧ 12 ≤ cm ∧ v9 = -4 ∧ M' = mw_u M o (.inr (9, mdF o 0 0 0 (nI cm) li ve fa tr to pz pi))) ∨ (isPathB (fun k => pa k &&& 255) sg = true ∧ cm < 12 ∧ v9 = nI (cm + 1) ∧ M' o = some (.inr (9, mdF o 0 0 0 (nI (cm + 1)) li ve fa tr to pz pi)) ∧ M' (o + 3) = some (.inl (ca 0, 120, .inl (upd ps cm (nI sg)))) ∧ M' (o + 4) = some (.inl (ca 2, 2880, .inl (va_cpy pa pp 0 (24 * cm) sg))) ∧ M' (o + 5) = some (.inl (ca 0, 120, .inl (upd si cm (nI oc)))) ∧ M' (o + 6) = some (.inl (ca 2, 4800, .inl (va_cpy byt co 0 (40 * cm) oc))) ∧ (∀ q, q ≠ o → q ≠ o + 3 → q ≠ o + 4 → q ≠ o + 5 → q ≠ o + 6 → M' q = M q)))))) ([.ref o] : List Value).toArray s 0 0 (mw_A M sz)) 53 [(0, .ref o), (2, .int (nI oc)), (3, .int (nI i))] [] (mw_u (mw_u (mw_u (mw_u (mw_u (mw_u M o (.inr (9, mdF o 0 (nI sg) (nI oc) (nI cm) li ve fa tr to pz pi))) o (.inr (9, mdF o 0 (nI sg) 0 (nI cm) li ve fa tr to pz pi))) (o + 3) (.inl (ca 0, 120, .inl (upd ps cm (nI sg))))) (o + 4) (.inl (ca 2, 2880, .inl (va_cpy pa pp 0 (24 * cm) sg)))) (o + 5) (.inl (ca 0, 120, .inl (upd si cm (nI oc))))) (o + 6) (.inl (ca 2, 4800, .inl (va_cpy byt co 0 (40 * cm) i)))) sz 0 0 := by
  intro fu
  induction fu with
  | zero => intro i h0 h00 h1 h2; omega
  | succ fu ih =>
    intro i hgood hlt30 hi hfu
    refine mj_iload_n X dX9_file_53 rfl 2 rfl ?_
    refine mj_iload_n X dX9_file_54 rfl 1 rfl ?_
    refine mj_icmp_ge X 84 dX9_file_55 (by decide) (fun c55 => ?_) (fun c55 => ?_)
    · refine mj_aload_n X dX9_file_84 rfl 0 rfl ?_
      refine mj_dup X dX9_file_85 rfl ?_
      have f1_ := mw_us (M := M) (a := o) (e := (.inr (9, mdF o 0 (nI sg) (nI oc) (nI cm) li ve fa tr to pz pi)))
      have f2_ := mw_us (M := (mw_u M o (.inr (9, mdF o 0 (nI sg) (nI oc) (nI cm) li ve fa tr to pz pi)))) (a := o) (e := (.inr (9, mdF o 0 (nI sg) 0 (nI cm) li ve fa tr to pz pi)))
      have f3_ := (mw_un (M := (mw_u (mw_u M o (.inr (9, mdF o 0 (nI sg) (nI oc) (nI cm) li ve fa tr to pz pi))) o (.inr (9, mdF o 0 (nI sg) 0 (nI cm) li ve fa tr to pz pi)))) (e := (.inl (ca 0, 120, .inl (upd ps cm (nI sg))))) (show o ≠ o + 3 by omega)).trans f2_
      have f4_ := (mw_un (M := (mw_u (mw_u (mw_u M o (.inr (9, mdF o 0 (nI sg) (nI oc) (nI cm) li ve fa tr to pz pi))) o (.inr (9, mdF o 0 (nI sg) 0 (nI cm) li ve fa tr to pz pi))) (o + 3) (.inl (ca 0, 120, .inl (upd ps cm (nI sg)))))) (e := (.inl (ca 2, 2880, .inl (va_cpy pa pp 0 (24 * cm) sg)))) (show o ≠ o + 4 by omega)).trans f3_
      have f5_ := (mw_un (M := (mw_u (mw_u (mw_u (mw_u M o (.inr (9, mdF o 0 (nI sg) (nI oc) (nI cm) li ve fa tr to pz pi))) o (.inr (9, mdF o 0 (nI sg) 0 (nI cm) li ve fa tr to pz pi))) (o + 3) (.inl (ca 0, 120, .inl (upd ps cm (nI sg))))) (o + 4) (.inl (ca 2, 2880, .inl (va_cpy pa pp 0 (24 * cm) sg))))) (e := (.inl (ca 0, 120, .inl (upd si cm (nI oc))))) (show o ≠ o + 5 by omega)).trans f4_
      have f6_ := (mw_un (M := (mw_u (mw_u (mw_u (mw_u (mw_u M o (.inr (9, mdF o 0 (nI sg) (nI oc) (nI cm) li ve fa tr to pz pi))) o (.inr (9, mdF o 0 (nI sg) 0 (nI cm) li ve fa tr to pz pi))) (o + 3) (.inl (ca 0, 120, .inl (upd ps cm (nI sg))))) (o + 4) (.inl (ca 2, 2880, .inl (va_cpy pa pp 0 (24 * cm) sg)))) (o + 5) (.inl (ca 0, 120, .inl (upd si cm (nI oc)))))) (e := (.inl (ca 2, 4800, .inl (va_cpy byt co 0 (40 * cm) i)))) (show o ≠ o + 6 by omega)).trans f5_
      refine mj_get X (C := RX9) (T := TX9) (N := 25) (ci := 9) w_M_file_0 rfl 5 (by decide) w_M_file_1 f6_ rfl dX9_file_86 ?_
      refine mj_iconst X (v := 1) dX9_file_89 (by decide +kernel) ?_
      refine mj_iadd X dX9_file_90 ?_
      refine mj_top (nI (cm + 1)) (nI_1 cm) ?_
      refine mj_put X (C := RX9) (T := TX9) (N := 25) (ci := 9) (v := .int (nI (cm + 1))) tyX9 w_M_file_0 tyX9_ok nmX9 rfl 5 (by decide) w_M_file_1 rfl f6_ (mdF o 0 (nI sg) 0 (nI (cm + 1)) li ve fa tr to pz pi) (Nat.le_of_ble_eq_true rfl) rfl rfl rfl rfl dX9_file_91 ?_
      refine mj_aload_n X dX9_file_94 rfl 0 rfl ?_
      refine mj_iconst X (v := 0) dX9_file_95 (by decide +kernel) ?_
      have f7_ := mw_us (M := (mw_u (mw_u (mw_u (mw_u (mw_u (mw_u M o (.inr (9, mdF o 0 (nI sg) (nI oc) (nI cm) li ve fa tr to pz pi))) o (.inr (9, mdF o 0 (nI sg) 0 (nI cm) li ve fa tr to pz pi))) (o + 3) (.inl (ca 0, 120, .inl (upd ps cm (nI sg))))) (o + 4) (.inl (ca 2, 2880, .inl (va_cpy pa pp 0 (24 * cm) sg)))) (o + 5) (.inl (ca 0, 120, .inl (upd si cm (nI oc))))) (o + 6) (.inl (ca 2, 4800, .inl (va_cpy byt co 0 (40 * cm) i))))) (a := o) (e := (.inr (9, mdF o 0 (nI sg) 0 (nI (cm + 1)) li ve fa tr to pz pi)))
      refine mj_put X (C := RX9) (T := TX9) (N := 25) (ci := 9) (v := .int 0) tyX9 w_M_file_0 tyX9_ok nmX9 rfl 1 (by decide) w_M_file_2 rfl f7_ (mdF o 0 0 0 (nI (cm + 1)) li ve fa tr to pz pi) (Nat.le_of_ble_eq_true rfl) rfl rfl rfl rfl dX9_file_96 ?_
      refine mj_aload_n X dX9_file_99 rfl 0 rfl ?_
      have f8_ := mw_us (M := (mw_u (mw_u (mw_u (mw_u (mw_u (mw_u (mw_u M o (.inr (9, mdF o 0 (nI sg) (nI oc) (nI cm) li ve fa tr to pz pi))) o (.inr (9, mdF o 0 (nI sg) 0 (nI cm) li ve fa tr to pz pi))) (o + 3) (.inl (ca 0, 120, .inl (upd ps cm (nI sg))))) (o + 4) (.inl (ca 2, 2880, .inl (va_cpy pa pp 0 (24 * cm) sg)))) (o + 5) (.inl (ca 0, 120, .inl (upd si cm (nI oc))))) (o + 6) (.inl (ca 2, 4800, .inl (va_cpy byt co 0 (40 * cm) i)))) o (.inr (9, mdF o 0 (nI sg) 0 (nI (cm + 1)) li ve fa tr to pz pi)))) (a := o) (e := (.inr (9, mdF o 0 0 0 (nI (cm + 1)) li ve fa tr to pz pi)))
      refine mj_get X (C := RX9) (T := TX9) (N := 25) (ci := 9) w_M_file_0 rfl 5 (by decide) w_M_file_1 f8_ rfl dX9_file_100 ?_
      refine mj_iret X hr0 (by decide) (by decide) dX9_file_103 ?_
      have f9_ := (mw_un (M := M) (e := (.inr (9, mdF o 0 (nI sg) (nI oc) (nI cm) li ve fa tr to pz pi))) (show o + 3 ≠ o by omega)).trans h_ps
      have f10_ := (mw_un (M := (mw_u M o (.inr (9, mdF o 0 (nI sg) (nI oc) (nI cm) li ve fa tr to pz pi)))) (e := (.inr (9, mdF o 0 (nI sg) 0 (nI cm) li ve fa tr to pz pi))) (show o + 3 ≠ o by omega)).trans f9_
      have f11_ := mw_us (M := (mw_u (mw_u M o (.inr (9, mdF o 0 (nI sg) (nI oc) (nI cm) li ve fa tr to pz pi))) o (.inr (9, mdF o 0 (nI sg) 0 (nI cm) li ve fa tr to pz pi)))) (a := (o + 3)) (e := (.inl (ca 0, 120, .inl (upd ps cm (nI sg)))))
      have f12_ := (mw_un (M := (mw_u (mw_u (mw_u M o (.inr (9, mdF o 0 (nI sg) (nI oc) (nI cm) li ve fa tr to pz pi))) o (.inr (9, mdF o 0 (nI sg) 0 (nI cm) li ve fa tr to pz pi))) (o + 3) (.inl (ca 0, 120, .inl (upd ps cm (nI sg)))))) (e := (.inl (ca 2, 2880, .inl (va_cpy pa pp 0 (24 * cm) sg)))) (show o + 3 ≠ o + 4 by omega)).trans f11_
      have f13_ := (mw_un (M := (mw_u (mw_u (mw_u (mw_u M o (.inr (9, mdF o 0 (nI sg) (nI oc) (nI cm) li ve fa tr to pz pi))) o (.inr (9, mdF o 0 (nI sg) 0 (nI cm) li ve fa tr to pz pi))) (o + 3) (.inl (ca 0, 120, .inl (upd ps cm (nI sg))))) (o + 4) (.inl (ca 2, 2880, .inl (va_cpy pa pp 0 (24 * cm) sg))))) (e := (.inl (ca 0, 120, .inl (upd si cm (nI oc))))) (show o + 3 ≠ o + 5 by omega)).trans f12_
      have f14_ := (mw_un (M := (mw_u (mw_u (mw_u (mw_u (mw_u M o (.inr (9, mdF o 0 (nI sg) (nI oc) (nI cm) li ve fa tr to pz pi))) o (.inr (9, mdF o 0 (nI sg) 0 (nI cm) li ve fa tr to pz pi))) (o + 3) (.inl (ca 0, 120, .inl (upd ps cm (nI sg))))) (o + 4) (.inl (ca 2, 2880, .inl (va_cpy pa pp 0 (24 * cm) sg)))) (o + 5) (.inl (ca 0, 120, .inl (upd si cm (nI oc)))))) (e := (.inl (ca 2, 4800, .inl (va_cpy byt co 0 (40 * cm) i)))) (show o + 3 ≠ o + 6 by omega)).trans f13_
      have f15_ := (mw_un (M := (mw_u (mw_u (mw_u (mw_u (mw_u (mw_u M o (.inr (9, mdF o 0 (nI sg) (nI oc) (nI cm) li ve fa tr to pz pi))) o (.inr (9, mdF o 0 (nI sg) 0 (nI cm) li ve fa tr to pz pi))) (o + 3) (.inl (ca 0, 120, .inl (upd ps cm (nI sg))))) (o + 4) (.inl (ca 2, 2880, .inl (va_cpy pa pp 0 (24 * cm) sg)))) (o + 5) (.inl (ca 0, 120, .inl (upd si cm (nI oc))))) (o + 6) (.inl (ca 2, 4800, .inl (va_cpy byt co 0 (40 * cm) i))))) (e := (.inr (9, mdF o 0 (nI sg) 0 (nI (cm + 1)) li ve fa tr to pz pi))) (show o + 3 ≠ o by omega)).trans f14_
      have f16_ := (mw_un (M := (mw_u (mw_u (mw_u (mw_u (mw_u (mw_u (mw_u M o (.inr (9, mdF o 0 (nI sg) (nI oc) (nI cm) li ve fa tr to pz pi))) o (.inr (9, mdF o 0 (nI sg) 0 (nI cm) li ve fa tr to pz pi))) (o + 3) (.inl (ca 0, 120, .inl (upd ps cm (nI sg))))) (o + 4) (.inl (ca 2, 2880, .inl (va_cpy pa pp 0 (24 * cm) sg)))) (o + 5) (.inl (ca 0, 120, .inl (upd si cm (nI oc))))) (o + 6) (.inl (ca 2, 4800, .inl (va_cpy byt co 0 (40 * cm) i)))) o (.inr (9, mdF o 0 (nI sg) 0 (nI (cm + 1)) li ve fa tr to pz pi)))) (e := (.inr (9, mdF o 0 0 0 (nI (cm + 1)) li ve fa tr to pz pi))) (show o + 3 ≠ o by omega)).trans f15_
      have f17_ := (mw_un (M := M) (e := (.inr (9, mdF o 0 (nI sg) (nI oc) (nI cm) li ve fa tr to pz pi))) (show o + 4 ≠ o by omega)).trans h_pp
      have f18_ := (mw_un (M := (mw_u M o (.inr (9, mdF o 0 (nI sg) (nI oc) (nI cm) li ve fa tr to pz pi)))) (e := (.inr (9, mdF o 0 (nI sg) 0 (nI cm) li ve fa tr to pz pi))) (show o + 4 ≠ o by omega)).trans f17_
      have f19_ := (mw_un (M := (mw_u (mw_u M o (.inr (9, mdF o 0 (nI sg) (nI oc) (nI cm) li ve fa tr to pz pi))) o (.inr (9, mdF o 0 (nI sg) 0 (nI cm) li ve fa tr to pz pi)))) (e := (.inl (ca 0, 120, .inl (upd ps cm (nI sg))))) (show o + 4 ≠ o + 3 by omega)).trans f18_
      have f20_ := mw_us (M := (mw_u (mw_u (mw_u M o (.inr (9, mdF o 0 (nI sg) (nI oc) (nI cm) li ve fa tr to pz pi))) o (.inr (9, mdF o 0 (nI sg) 0 (nI cm) li ve fa tr to pz pi))) (o + 3) (.inl (ca 0, 120, .inl (upd ps cm (nI sg)))))) (a := (o + 4)) (e := (.inl (ca 2, 2880, .inl (va_cpy pa pp 0 (24 * cm) sg))))
      have f21_ := (mw_un (M := (mw_u (mw_u (mw_u (mw_u M o (.inr (9, mdF o 0 (nI sg) (nI oc) (nI cm) li ve fa tr to pz pi))) o (.inr (9, mdF o 0 (nI sg) 0 (nI cm) li ve fa tr to pz pi))) (o + 3) (.inl (ca 0, 120, .inl (upd ps cm (nI sg))))) (o + 4) (.inl (ca 2, 2880, .inl (va_cpy pa pp 0 (24 * cm) sg))))) (e := (.inl (ca 0, 120, .inl (upd si cm (nI oc))))) (show o + 4 ≠ o + 5 by omega)).trans f20_
      have f22_ := (mw_un (M := (mw_u (mw_u (mw_u (mw_u (mw_u M o (.inr (9, mdF o 0 (nI sg) (nI oc) (nI cm) li ve fa tr to pz pi))) o (.inr (9, mdF o 0 (nI sg) 0 (nI cm) li ve fa tr to pz pi))) (o + 3) (.inl (ca 0, 120, .inl (upd ps cm (nI sg))))) (o + 4) (.inl (ca 2, 2880, .inl (va_cpy pa pp 0 (24 * cm) sg)))) (o + 5) (.inl (ca 0, 120, .inl (upd si cm (nI oc)))))) (e := (.inl (ca 2, 4800, .inl (va_cpy byt co 0 (40 * cm) i)))) (show o + 4 ≠ o + 6 by omega)).trans f21_
      have f23_ := (mw_un (M := (mw_u (mw_u (mw_u (mw_u (mw_u (mw_u M o (.inr (9, mdF o 0 (nI sg) (nI oc) (nI cm) li ve fa tr to pz pi))) o (.inr (9, mdF o 0 (nI sg) 0 (nI cm) li ve fa tr to pz pi))) (o + 3) (.inl (ca 0, 120, .inl (upd ps cm (nI sg))))) (o + 4) (.inl (ca 2, 2880, .inl (va_cpy pa pp 0 (24 * cm) sg)))) (o + 5) (.inl (ca 0, 120, .inl (upd si cm (nI oc))))) (o + 6) (.inl (ca 2, 4800, .inl (va_cpy byt co 0 (40 * cm) i))))) (e := (.inr (9, mdF o 0 (nI sg) 0 (nI (cm + 1)) li ve fa tr to pz pi))) (show o + 4 ≠ o by omega)).trans f22_
      have f24_ := (mw_un (M := (mw_u (mw_u (mw_u (mw_u (mw_u (mw_u (mw_u M o (.inr (9, mdF o 0 (nI sg) (nI oc) (nI cm) li ve fa tr to pz pi))) o (.inr (9, mdF o 0 (nI sg) 0 (nI cm) li ve fa tr to pz pi))) (o + 3) (.inl (ca 0, 120, .inl (upd ps cm (nI sg))))) (o + 4) (.inl (ca 2, 2880, .inl (va_cpy pa pp 0 (24 * cm) sg)))) (o + 5) (.inl (ca 0, 120, .inl (upd si cm (nI oc))))) (o + 6) (.inl (ca 2, 4800, .inl (va_cpy byt co 0 (40 * cm) i)))) o (.inr (9, mdF o 0 (nI sg) 0 (nI (cm + 1)) li ve fa tr to pz pi)))) (e := (.inr (9, mdF o 0 0 0 (nI (cm + 1)) li ve fa tr to pz pi))) (show o + 4 ≠ o by omega)).trans f23_
      have f25_ := (mw_un (M := M) (e := (.inr (9, mdF o 0 (nI sg) (nI oc) (nI cm) li ve fa tr to pz pi))) (show o + 5 ≠ o by omega)).trans h_si
      have f26_ := (mw_un (M := (mw_u M o (.inr (9, mdF o 0 (nI sg) (nI oc) (nI cm) li ve fa tr to pz pi)))) (e := (.inr (9, mdF o 0 (nI sg) 0 (nI cm) li ve fa tr to pz pi))) (show o + 5 ≠ o by omega)).trans f25_
      have f27_ := (mw_un (M := (mw_u (mw_u M o (.inr (9, mdF o 0 (nI sg) (nI oc) (nI cm) li ve fa tr to pz pi))) o (.inr (9, mdF o 0 (nI sg) 0 (nI cm) li ve fa tr to pz pi)))) (e := (.inl (ca 0, 120, .inl (upd ps cm (nI sg))))) (show o + 5 ≠ o + 3 by omega)).trans f26_
      have f28_ := (mw_un (M := (mw_u (mw_u (mw_u M o (.inr (9, mdF o 0 (nI sg) (nI oc) (nI cm) li ve fa tr to pz pi))) o (.inr (9, mdF o 0 (nI sg) 0 (nI cm) li ve fa tr to pz pi))) (o + 3) (.inl (ca 0, 120, .inl (upd ps cm (nI sg)))))) (e := (.inl (ca 2, 2880, .inl (va_cpy pa pp 0 (24 * cm) sg)))) (show o + 5 ≠ o + 4 by omega)).trans f27_
      have f29_ := mw_us (M := (mw_u (mw_u (mw_u (mw_u M o (.inr (9, mdF o 0 (nI sg) (nI oc) (nI cm) li ve fa tr to pz pi))) o (.inr (9, mdF o 0 (nI sg) 0 (nI cm) li ve fa tr to pz pi))) (o + 3) (.inl (ca 0, 120, .inl (upd ps cm (nI sg))))) (o + 4) (.inl (ca 2, 2880, .inl (va_cpy pa pp 0 (24 * cm) sg))))) (a := (o + 5)) (e := (.inl (ca 0, 120, .inl (upd si cm (nI oc)))))
      have f30_ := (mw_un (M := (mw_u (mw_u (mw_u (mw_u (mw_u M o (.inr (9, mdF o 0 (nI sg) (nI oc) (nI cm) li ve fa tr to pz pi))) o (.inr (9, mdF o 0 (nI sg) 0 (nI cm) li ve fa tr to pz pi))) (o + 3) (.inl (ca 0, 120, .inl (upd ps cm (nI sg))))) (o + 4) (.inl (ca 2, 2880, .inl (va_cpy pa pp 0 (24 * cm) sg)))) (o + 5) (.inl (ca 0, 120, .inl (upd si cm (nI oc)))))) (e := (.inl (ca 2, 4800, .inl (va_cpy byt co 0 (40 * cm) i)))) (show o + 5 ≠ o + 6 by omega)).trans f29_
      have f31_ := (mw_un (M := (mw_u (mw_u (mw_u (mw_u (mw_u (mw_u M o (.inr (9, mdF o 0 (nI sg) (nI oc) (nI cm) li ve fa tr to pz pi))) o (.inr (9, mdF o 0 (nI sg) 0 (nI cm) li ve fa tr to pz pi))) (o + 3) (.inl (ca 0, 120, .inl (upd ps cm (nI sg))))) (o + 4) (.inl (ca 2, 2880, .inl (va_cpy pa pp 0 (24 * cm) sg)))) (o + 5) (.inl (ca 0, 120, .inl (upd si cm (nI oc))))) (o + 6) (.inl (ca 2, 4800, .inl (va_cpy byt co 0 (40 * cm) i))))) (e := (.inr (9, mdF o 0 (nI sg) 0 (nI (cm + 1)) li ve fa tr to pz pi))) (show o + 5 ≠ o by omega)).trans f30_
      have f32_ := (mw_un (M := (mw_u (mw_u (mw_u (mw_u (mw_u (mw_u (mw_u M o (.inr (9, mdF o 0 (nI sg) (nI oc) (nI cm) li ve fa tr to pz pi))) o (.inr (9, mdF o 0 (nI sg) 0 (nI cm) li ve fa tr to pz pi))) (o + 3) (.inl (ca 0, 120, .inl (upd ps cm (nI sg))))) (o + 4) (.inl (ca 2, 2880, .inl (va_cpy pa pp 0 (24 * cm) sg)))) (o + 5) (.inl (ca 0, 120, .inl (upd si cm (nI oc))))) (o + 6) (.inl (ca 2, 4800, .inl (va_cpy byt co 0 (40 * cm) i)))) o (.inr (9, mdF o 0 (nI sg) 0 (nI (cm + 1)) li ve fa tr to pz pi)))) (e := (.inr (9, mdF o 0 0 0 (nI (cm + 1)) li ve fa tr to pz pi))) (show o + 5 ≠ o by omega)).trans f31_
      have f33_ := (mw_un (M := M) (e := (.inr (9, mdF o 0 (nI sg) (nI oc) (nI cm) li ve fa tr to pz pi))) (show o + 6 ≠ o by omega)).trans h_co
      have f34_ := (mw_un (M := (mw_u M o (.inr (9, mdF o 0 (nI sg) (nI oc) (nI cm) li ve fa tr to pz pi)))) (e := (.inr (9, mdF o 0 (nI sg) 0 (nI cm) li ve fa tr to pz pi))) (show o + 6 ≠ o by omega)).trans f33_
      have f35_ := (mw_un (M := (mw_u (mw_u M o (.inr (9, mdF o 0 (nI sg) (nI oc) (nI cm) li ve fa tr to pz pi))) o (.inr (9, mdF o 0 (nI sg) 0 (nI cm) li ve fa tr to pz pi)))) (e := (.inl (ca 0, 120, .inl (upd ps cm (nI sg))))) (show o + 6 ≠ o + 3 by omega)).trans f34_
      have f36_ := (mw_un (M := (mw_u (mw_u (mw_u M o (.inr (9, mdF o 0 (nI sg) (nI oc) (nI cm) li ve fa tr to pz pi))) o (.inr (9, mdF o 0 (nI sg) 0 (nI cm) li ve fa tr to pz pi))) (o + 3) (.inl (ca 0, 120, .inl (upd ps cm (nI sg)))))) (e := (.inl (ca 2, 2880, .inl (va_cpy pa pp 0 (24 * cm) sg)))) (show o + 6 ≠ o + 4 by omega)).trans f35_
      have f37_ := (mw_un (M := (mw_u (mw_u (mw_u (mw_u M o (.inr (9, mdF o 0 (nI sg) (nI oc) (nI cm) li ve fa tr to pz pi))) o (.inr (9, mdF o 0 (nI sg) 0 (nI cm) li ve fa tr to pz pi))) (o + 3) (.inl (ca 0, 120, .inl (upd ps cm (nI sg))))) (o + 4) (.inl (ca 2, 2880, .inl (va_cpy pa pp 0 (24 * cm) sg))))) (e := (.inl (ca 0, 120, .inl (upd si cm (nI oc))))) (show o + 6 ≠ o + 5 by omega)).trans f36_
      have f38_ := mw_us (M := (mw_u (mw_u (mw_u (mw_u (mw_u M o (.inr (9, mdF o 0 (nI sg) (nI oc) (nI cm) li ve fa tr to pz pi))) o (.inr (9, mdF o 0 (nI sg) 0 (nI cm) li ve fa tr to pz pi))) (o + 3) (.inl (ca 0, 120, .inl (upd ps cm (nI sg))))) (o + 4) (.inl (ca 2, 2880, .inl (va_cpy pa pp 0 (24 * cm) sg)))) (o + 5) (.inl (ca 0, 120, .inl (upd si cm (nI oc)))))) (a := (o + 6)) (e := (.inl (ca 2, 4800, .inl (va_cpy byt co 0 (40 * cm) i))))
      have f39_ := (mw_un (M := (mw_u (mw_u (mw_u (mw_u (mw_u (mw_u M o (.inr (9, mdF o 0 (nI sg) (nI oc) (nI cm) li ve fa tr to pz pi))) o (.inr (9, mdF o 0 (nI sg) 0 (nI cm) li ve fa tr to pz pi))) (o + 3) (.inl (ca 0, 120, .inl (upd ps cm (nI sg))))) (o + 4) (.inl (ca 2, 2880, .inl (va_cpy pa pp 0 (24 * cm) sg)))) (o + 5) (.inl (ca 0, 120, .inl (upd si cm (nI oc))))) (o + 6) (.inl (ca 2, 4800, .inl (va_cpy byt co 0 (40 * cm) i))))) (e := (.inr (9, mdF o 0 (nI sg) 0 (nI (cm + 1)) li ve fa tr to pz pi))) (show o + 6 ≠ o by omega)).trans f38_
      have f40_ := (mw_un (M := (mw_u (mw_u (mw_u (mw_u (mw_u (mw_u (mw_u M o (.inr (9, mdF o 0 (nI sg) (nI oc) (nI cm) li ve fa tr to pz pi))) o (.inr (9, mdF o 0 (nI sg) 0 (nI cm) li ve fa tr to pz pi))) (o + 3) (.inl (ca 0, 120, .inl (upd ps cm (nI sg))))) (o + 4) (.inl (ca 2, 2880, .inl (va_cpy pa pp 0 (24 * cm) sg)))) (o + 5) (.inl (ca 0, 120, .inl (upd si cm (nI oc))))) (o + 6) (.inl (ca 2, 4800, .inl (va_cpy byt co 0 (40 * cm) i)))) o (.inr (9, mdF o 0 (nI sg) 0 (nI (cm + 1)) li ve fa tr to pz pi)))) (e := (.inr (9, mdF o 0 0 0 (nI (cm + 1)) li ve fa tr to pz pi))) (show o + 6 ≠ o by omega)).trans f39_
      have e9 : i = oc := by have h9 := (nI_leI (by omega) (by omega)).mp c55; omega
      subst e9
      exact ⟨_, rfl, rfl, Or.inr (Or.inr ⟨hgood, hlt30, rfl, f8_, f16_, f24_, f32_, f40_, fun q h1 h2 h3 h4 h5 => ((mw_un (show q ≠ o by omega)).trans ((mw_un (show q ≠ o by omega)).trans ((mw_un (show q ≠ o + 6 by omega)).trans ((mw_un (show q ≠ o + 5 by omega)).trans ((mw_un (show q ≠ o + 4 by omega)).trans ((mw_un (show q ≠ o + 3 by omega)).trans ((mw_un (show q ≠ o by omega)).trans (mw_un (show q ≠ o by omega)))))))))⟩)⟩
    · have hlt55 : i < oc := Nat.not_le.mp (fun h9 => c55 (nI_le h9 (by omega)))
      refine mj_aload_n X dX9_file_58 rfl 0 rfl ?_
      have f41_ := mw_us (M := M) (a := o) (e := (.inr (9, mdF o 0 (nI sg) (nI oc) (nI cm) li ve fa tr to pz pi)))
      have f42_ := mw_us (M := (mw_u M o (.inr (9, mdF o 0 (nI sg) (nI oc) (nI cm) li ve fa tr to pz pi)))) (a := o) (e := (.inr (9, mdF o 0 (nI sg) 0 (nI cm) li ve fa tr to pz pi)))
      have f43_ := (mw_un (M := (mw_u (mw_u M o (.inr (9, mdF o 0 (nI sg) (nI oc) (nI cm) li ve fa tr to pz pi))) o (.inr (9, mdF o 0 (nI sg) 0 (nI cm) li ve fa tr to pz pi)))) (e := (.inl (ca 0, 120, .inl (upd ps cm (nI sg))))) (show o ≠ o + 3 by omega)).trans f42_
      have f44_ := (mw_un (M := (mw_u (mw_u (mw_u M o (.inr (9, mdF o 0 (nI sg) (nI oc) (nI cm) li ve fa tr to pz pi))) o (.inr (9, mdF o 0 (nI sg) 0 (nI cm) li ve fa tr to pz pi))) (o + 3) (.inl (ca 0, 120, .inl (upd ps cm (nI sg)))))) (e := (.inl (ca 2, 2880, .inl (va_cpy pa pp 0 (24 * cm) sg)))) (show o ≠ o + 4 by omega)).trans f43_
      have f45_ := (mw_un (M := (mw_u (mw_u (mw_u (mw_u M o (.inr (9, mdF o 0 (nI sg) (nI oc) (nI cm) li ve fa tr to pz pi))) o (.inr (9, mdF o 0 (nI sg) 0 (nI cm) li ve fa tr to pz pi))) (o + 3) (.inl (ca 0, 120, .inl (upd ps cm (nI sg))))) (o + 4) (.inl (ca 2, 2880, .inl (va_cpy pa pp 0 (24 * cm) sg))))) (e := (.inl (ca 0, 120, .inl (upd si cm (nI oc))))) (show o ≠ o + 5 by omega)).trans f44_
      have f46_ := (mw_un (M := (mw_u (mw_u (mw_u (mw_u (mw_u M o (.inr (9, mdF o 0 (nI sg) (nI oc) (nI cm) li ve fa tr to pz pi))) o (.inr (9, mdF o 0 (nI sg) 0 (nI cm) li ve fa tr to pz pi))) (o + 3) (.inl (ca 0, 120, .inl (upd ps cm (nI sg))))) (o + 4) (.inl (ca 2, 2880, .inl (va_cpy pa pp 0 (24 * cm) sg)))) (o + 5) (.inl (ca 0, 120, .inl (upd si cm (nI oc)))))) (e := (.inl (ca 2, 4800, .inl (va_cpy byt co 0 (40 * cm) i)))) (show o ≠ o + 6 by omega)).trans f45_
      refine mj_get X (C := RX9) (T := TX9) (N := 25) (ci := 9) w_M_file_0 rfl 10 (by decide) w_M_file_3 f46_ rfl dX9_file_59 ?_
      refine mj_bipush X (v := 40) dX9_file_62 (by decide +kernel) ?_
      refine mj_aload_n X dX9_file_64 rfl 0 rfl ?_
      refine mj_get X (C := RX9) (T := TX9) (N := 25) (ci := 9) w_M_file_0 rfl 5 (by decide) w_M_file_1 f46_ rfl dX9_file_65 ?_
      refine mj_imul X dX9_file_68 ?_
      refine mj_top (nI (40 * cm)) (show nI 40 * nI cm = _ from pk_mul 40 cm) ?_
      refine mj_iload_n X dX9_file_69 rfl 2 rfl ?_
      refine mj_iadd X dX9_file_70 ?_
      refine mj_top (nI (40 * cm + i)) (nI_add _ _) ?_
      refine mj_aload_n X dX9_file_71 rfl 0 rfl ?_
      refine mj_get X (C := RX9) (T := TX9) (N := 25) (ci := 9) w_M_file_0 rfl 4 (by decide) w_M_file_4 f46_ rfl dX9_file_72 ?_
      refine mj_iload_n X dX9_file_75 rfl 2 rfl ?_
      have f47_ := (mw_un (M := M) (e := (.inr (9, mdF o 0 (nI sg) (nI oc) (nI cm) li ve fa tr to pz pi))) (show o + 2 ≠ o by omega)).trans h_byt
      have f48_ := (mw_un (M := (mw_u M o (.inr (9, mdF o 0 (nI sg) (nI oc) (nI cm) li ve fa tr to pz pi)))) (e := (.inr (9, mdF o 0 (nI sg) 0 (nI cm) li ve fa tr to pz pi))) (show o + 2 ≠ o by omega)).trans f47_
      have f49_ := (mw_un (M := (mw_u (mw_u M o (.inr (9, mdF o 0 (nI sg) (nI oc) (nI cm) li ve fa tr to pz pi))) o (.inr (9, mdF o 0 (nI sg) 0 (nI cm) li ve fa tr to pz pi)))) (e := (.inl (ca 0, 120, .inl (upd ps cm (nI sg))))) (show o + 2 ≠ o + 3 by omega)).trans f48_
      have f50_ := (mw_un (M := (mw_u (mw_u (mw_u M o (.inr (9, mdF o 0 (nI sg) (nI oc) (nI cm) li ve fa tr to pz pi))) o (.inr (9, mdF o 0 (nI sg) 0 (nI cm) li ve fa tr to pz pi))) (o + 3) (.inl (ca 0, 120, .inl (upd ps cm (nI sg)))))) (e := (.inl (ca 2, 2880, .inl (va_cpy pa pp 0 (24 * cm) sg)))) (show o + 2 ≠ o + 4 by omega)).trans f49_
      have f51_ := (mw_un (M := (mw_u (mw_u (mw_u (mw_u M o (.inr (9, mdF o 0 (nI sg) (nI oc) (nI cm) li ve fa tr to pz pi))) o (.inr (9, mdF o 0 (nI sg) 0 (nI cm) li ve fa tr to pz pi))) (o + 3) (.inl (ca 0, 120, .inl (upd ps cm (nI sg))))) (o + 4) (.inl (ca 2, 2880, .inl (va_cpy pa pp 0 (24 * cm) sg))))) (e := (.inl (ca 0, 120, .inl (upd si cm (nI oc))))) (show o + 2 ≠ o + 5 by omega)).trans f50_
      have f52_ := (mw_un (M := (mw_u (mw_u (mw_u (mw_u (mw_u M o (.inr (9, mdF o 0 (nI sg) (nI oc) (nI cm) li ve fa tr to pz pi))) o (.inr (9, mdF o 0 (nI sg) 0 (nI cm) li ve fa tr to pz pi))) (o + 3) (.inl (ca 0, 120, .inl (upd ps cm (nI sg))))) (o + 4) (.inl (ca 2, 2880, .inl (va_cpy pa pp 0 (24 * cm) sg)))) (o + 5) (.inl (ca 0, 120, .inl (upd si cm (nI oc)))))) (e := (.inl (ca 2, 4800, .inl (va_cpy byt co 0 (40 * cm) i)))) (show o + 2 ≠ o + 6 by omega)).trans f51_
      refine mj_bald X 2 (byt i) rfl f52_ (vp_in_nI (by omega) (by omega)) (by rw [nI_clamp (by omega)]) dX9_file_76 ?_
      have f53_ := (mw_un (M := M) (e := (.inr (9, mdF o 0 (nI sg) (nI oc) (nI cm) li ve fa tr to pz pi))) (show o + 6 ≠ o by omega)).trans h_co
      have f54_ := (mw_un (M := (mw_u M o (.inr (9, mdF o 0 (nI sg) (nI oc) (nI cm) li ve fa tr to pz pi)))) (e := (.inr (9, mdF o 0 (nI sg) 0 (nI cm) li ve fa tr to pz pi))) (show o + 6 ≠ o by omega)).trans f53_
      have f55_ := (mw_un (M := (mw_u (mw_u M o (.inr (9, mdF o 0 (nI sg) (nI oc) (nI cm) li ve fa tr to pz pi))) o (.inr (9, mdF o 0 (nI sg) 0 (nI cm) li ve fa tr to pz pi)))) (e := (.inl (ca 0, 120, .inl (upd ps cm (nI sg))))) (show o + 6 ≠ o + 3 by omega)).trans f54_
      have f56_ := (mw_un (M := (mw_u (mw_u (mw_u M o (.inr (9, mdF o 0 (nI sg) (nI oc) (nI cm) li ve fa tr to pz pi))) o (.inr (9, mdF o 0 (nI sg) 0 (nI cm) li ve fa tr to pz pi))) (o + 3) (.inl (ca 0, 120, .inl (upd ps cm (nI sg)))))) (e := (.inl (ca 2, 2880, .inl (va_cpy pa pp 0 (24 * cm) sg)))) (show o + 6 ≠ o + 4 by omega)).trans f55_
      have f57_ := (mw_un (M := (mw_u (mw_u (mw_u (mw_u M o (.inr (9, mdF o 0 (nI sg) (nI oc) (nI cm) li ve fa tr to pz pi))) o (.inr (9, mdF o 0 (nI sg) 0 (nI cm) li ve fa tr to pz pi))) (o + 3) (.inl (ca 0, 120, .inl (upd ps cm (nI sg))))) (o + 4) (.inl (ca 2, 2880, .inl (va_cpy pa pp 0 (24 * cm) sg))))) (e := (.inl (ca 0, 120, .inl (upd si cm (nI oc))))) (show o + 6 ≠ o + 5 by omega)).trans f56_
      have f58_ := mw_us (M := (mw_u (mw_u (mw_u (mw_u (mw_u M o (.inr (9, mdF o 0 (nI sg) (nI oc) (nI cm) li ve fa tr to pz pi))) o (.inr (9, mdF o 0 (nI sg) 0 (nI cm) li ve fa tr to pz pi))) (o + 3) (.inl (ca 0, 120, .inl (upd ps cm (nI sg))))) (o + 4) (.inl (ca 2, 2880, .inl (va_cpy pa pp 0 (24 * cm) sg)))) (o + 5) (.inl (ca 0, 120, .inl (upd si cm (nI oc)))))) (a := (o + 6)) (e := (.inl (ca 2, 4800, .inl (va_cpy byt co 0 (40 * cm) i))))
      refine mj_bast X 2 (40 * cm + i) rfl f58_ (vp_in_nI (by omega) (by omega)) (nI_clamp (by omega)) dX9_file_77 ?_
      refine mj_iinc X [(3, .int (nI (i + 1))), (0, .ref o), (2, .int (nI oc))] dX9_file_78 2 rfl (nI_1 i) (by decide) rfl ?_
      refine mj_goto X 53 dX9_file_81 (by decide) ?_
      refine mj_sub [1, 2, 0] rfl ?_
      refine mj_to rfl rfl (show _ = mw_u _ (o + 6) (.inl (ca 2, 4800, .inl (va_cpy byt co 0 (40 * cm) (i + 1)))) by rw [mw_uu, show vp_nar .byte (byt i) = byt i by rw [vp_nar_byte]; exact hbb i (by omega), cpy_s]) rfl ?_
      exact ih (i + 1) hgood hlt30 hlt55 (by omega)
set_option maxHeartbeats 4000000 in
set_option maxRecDepth 100000 in
/--  -/
theorem c_M_file (l : Launch) (D : va_G) (ca : Nat → ClassId) (M : mw_M) (sz o : Nat) (sg oc cm : Nat) (th li ve fa tr to pz pi : Int32) (pa : Nat → Int32) (byt : Nat → Int32) (ps : Nat → Int32) (pp : Nat → Int32) (si : Nat → Int32) (co : Nat → Int32) (ho : M o = some (.inr (9, mdF o th (nI sg) (nI oc) (nI cm) li ve fa tr to pz pi))) (h_pa : M (o + 1) = some (.inl (ca 2, 30, .inl pa))) (h_byt : M (o + 2) = some (.inl (ca 2, 40, .inl byt))) (h_ps : M (o + 3) = some (.inl (ca 0, 120, .inl ps))) (h_pp : M (o + 4) = some (.inl (ca 2, 2880, .inl pp))) (h_si : M (o + 5) = some (.inl (ca 0, 120, .inl si))) (h_co : M (o + 6) = some (.inl (ca 2, 4800, .inl co))) (hsg : sg ≤ 30) (hpb : ∀ k, k < 30 → (pa k).toInt8.toInt32 = pa k) (hbb : ∀ k, k < 40 → (byt k).toInt8.toInt32 = byt k) (hoc : oc ≤ 40) (hcm : cm ≤ 12) : mw_C wsX9_file l yX9_file { frames := 3, cells := 0, slots := 0, locals := 74 } D vwCl (mt ca) [.ref o] M sz (mq_i (fun v9 M' sz' => sz' = sz ∧ ((isPathB (fun k => pa k &&& 255) sg = false ∧ v9 = -2 ∧ M' = mw_u M o (.inr (9, mdF o 0 0 0 (nI cm) li ve fa tr to pz pi))) ∨ (isPathB (fun k => pa k &&& 255) sg = true ∧ 12 ≤ cm ∧ v9 = -4 ∧ M' = mw_u M o (.inr (9, mdF o 0 0 0 (nI cm) li ve fa tr to pz pi))) ∨ (isPathB (fun k => pa k &&& 255) sg = true ∧ cm < 12 ∧ v9 = nI (cm + 1) ∧ M' o = some (.inr (9, mdF o 0 0 0 (nI (cm + 1)) li ve fa tr to pz pi)) ∧ M' (o + 3) = some (.inl (ca 0, 120, .inl (upd ps cm (nI sg)))) ∧ M' (o + 4) = some (.inl (ca 2, 2880, .inl (va_cpy pa pp 0 (24 * cm) sg))) ∧ M' (o + 5) = some (.inl (ca 0, 120, .inl (upd si cm (nI oc)))) ∧ M' (o + 6) = some (.inl (ca 2, 4800, .inl (va_cpy byt co 0 (40 * cm) oc))) ∧ (∀ q, q ≠ o → q ≠ o + 3 → q ≠ o + 4 → q ≠ o + 5 → q ≠ o + 6 → M' q = M q))))) := by
  refine mw_enter (cc := cX9_file) (maxL := 4) (ret := (some .int)) rfl (by decide) (Nat.le_of_ble_eq_true rfl) ?_
  intro p e s m below meth c X hr0 hnm hlt
  refine mj_aload_n X dX9_file_0 rfl 0 rfl ?_
  refine mj_iconst X (v := 0) dX9_file_1 (by decide +kernel) ?_
  refine mj_put X (C := RX9) (T := TX9) (N := 25) (ci := 9) (v := .int 0) tyX9 w_M_file_0 tyX9_ok nmX9 rfl 0 (by decide) w_M_file_5 rfl ho (mdF o 0 (nI sg) (nI oc) (nI cm) li ve fa tr to pz pi) (Nat.le_of_ble_eq_true rfl) rfl rfl rfl rfl dX9_file_2 ?_
  refine mj_aload_n X dX9_file_5 rfl 0 rfl ?_
  have f59_ := mw_us (M := M) (a := o) (e := (.inr (9, mdF o 0 (nI sg) (nI oc) (nI cm) li ve fa tr to pz pi)))
  have f60_ := (mw_un (M := M) (e := (.inr (9, mdF o 0 (nI sg) (nI oc) (nI cm) li ve fa tr to pz pi))) (show o + 1 ≠ o by omega)).trans h_pa
  have hsg30 := hsg
  refine mj_callV X 0 gX9_file_X9_isPath rfl (by decide +kernel) ⟨by decide, by decide⟩ (c_M_isPath l D ca _ sz o sg 0 (nI oc) (nI cm) li ve fa tr to pz pi pa f59_ f60_ hsg hpb) rfl f59_ rfl rfl (Nat.le_of_ble_eq_true rfl) dX9_file_6 ⟨by decide, by decide⟩ (mk_ri (fun b6 hb6 => ?_))
  subst hb6
  refine mj_istore_n X [(1, .int (b2i (isPathB (fun k => pa k &&& 255) sg))), (0, .ref o)] dX9_file_9 rfl (by decide) rfl ?_
  refine mj_aload_n X dX9_file_10 rfl 1 rfl ?_
  refine mj_get X (C := RX9) (T := TX9) (N := 25) (ci := 9) w_M_file_0 rfl 3 (by decide) w_M_file_6 f59_ rfl dX9_file_11 ?_
  refine mj_istore_n X [(2, .int (nI oc)), (1, .int (b2i (isPathB (fun k => pa k &&& 255) sg))), (0, .ref o)] dX9_file_14 rfl (by decide) rfl ?_
  refine mj_aload_n X dX9_file_15 rfl 2 rfl ?_
  refine mj_iconst X (v := 0) dX9_file_16 (by decide +kernel) ?_
  refine mj_put X (C := RX9) (T := TX9) (N := 25) (ci := 9) (v := .int 0) tyX9 w_M_file_0 tyX9_ok nmX9 rfl 3 (by decide) w_M_file_6 rfl f59_ (mdF o 0 (nI sg) 0 (nI cm) li ve fa tr to pz pi) (Nat.le_of_ble_eq_true rfl) rfl rfl rfl rfl dX9_file_17 ?_
  refine mj_iload_n X dX9_file_20 rfl 1 rfl ?_
  refine mj_if_eq X 104 dX9_file_21 (by decide) (fun c21 => ?_) (fun c21 => ?_)
  · refine mj_aload_n X dX9_file_104 rfl 2 rfl ?_
    refine mj_iconst X (v := 0) dX9_file_105 (by decide +kernel) ?_
    have f61_ := mw_us (M := (mw_u M o (.inr (9, mdF o 0 (nI sg) (nI oc) (nI cm) li ve fa tr to pz pi)))) (a := o) (e := (.inr (9, mdF o 0 (nI sg) 0 (nI cm) li ve fa tr to pz pi)))
    refine mj_put X (C := RX9) (T := TX9) (N := 25) (ci := 9) (v := .int 0) tyX9 w_M_file_0 tyX9_ok nmX9 rfl 1 (by decide) w_M_file_2 rfl f61_ (mdF o 0 0 0 (nI cm) li ve fa tr to pz pi) (Nat.le_of_ble_eq_true rfl) rfl rfl rfl rfl dX9_file_106 ?_
    refine mj_iload_n X dX9_file_109 rfl 1 rfl ?_
    refine mj_if_eq X 118 dX9_file_110 (by decide) (fun c110 => ?_) (fun c110 => ?_)
    · refine mj_bipush X (v := -2) dX9_file_118 (by decide +kernel) ?_
      refine mj_iret X hr0 (by decide) (by decide) dX9_file_120 ?_
      exact ⟨_, rfl, rfl, Or.inl ⟨b2i_eq c110, rfl, by simp only [mw_uu]⟩⟩
    · refine mj_bipush X (v := -4) dX9_file_113 (by decide +kernel) ?_
      refine mj_goto X 120 dX9_file_115 (by decide) ?_
      refine mj_iret X hr0 (by decide) (by decide) dX9_file_120 ?_
      exact ⟨_, rfl, rfl, Or.inr (Or.inl ⟨b2i_ne c110, absurd c21 c110, rfl, by simp only [mw_uu]⟩)⟩
  · refine mj_aload_n X dX9_file_24 rfl 2 rfl ?_
    have f62_ := mw_us (M := (mw_u M o (.inr (9, mdF o 0 (nI sg) (nI oc) (nI cm) li ve fa tr to pz pi)))) (a := o) (e := (.inr (9, mdF o 0 (nI sg) 0 (nI cm) li ve fa tr to pz pi)))
    refine mj_get X (C := RX9) (T := TX9) (N := 25) (ci := 9) w_M_file_0 rfl 5 (by decide) w_M_file_1 f62_ rfl dX9_file_25 ?_
    refine mj_bipush X (v := 12) dX9_file_28 (by decide +kernel) ?_
    refine mj_icmp_ge X 104 dX9_file_30 (by decide) (fun c30 => ?_) (fun c30 => ?_)
    · refine mj_aload_n X dX9_file_104 rfl 2 rfl ?_
      refine mj_iconst X (v := 0) dX9_file_105 (by decide +kernel) ?_
      refine mj_put X (C := RX9) (T := TX9) (N := 25) (ci := 9) (v := .int 0) tyX9 w_M_file_0 tyX9_ok nmX9 rfl 1 (by decide) w_M_file_2 rfl f62_ (mdF o 0 0 0 (nI cm) li ve fa tr to pz pi) (Nat.le_of_ble_eq_true rfl) rfl rfl rfl rfl dX9_file_106 ?_
      refine mj_iload_n X dX9_file_109 rfl 1 rfl ?_
      refine mj_if_eq X 118 dX9_file_110 (by decide) (fun c110 => ?_) (fun c110 => ?_)
      · refine mj_bipush X (v := -2) dX9_file_118 (by decide +kernel) ?_
        refine mj_iret X hr0 (by decide) (by decide) dX9_file_120 ?_
        exact ⟨_, rfl, rfl, Or.inl ⟨b2i_eq c110, rfl, by simp only [mw_uu]⟩⟩
      · refine mj_bipush X (v := -4) dX9_file_113 (by decide +kernel) ?_
        refine mj_goto X 120 dX9_file_115 (by decide) ?_
        refine mj_iret X hr0 (by decide) (by decide) dX9_file_120 ?_
        exact ⟨_, rfl, rfl, Or.inr (Or.inl ⟨b2i_ne c110, (nI_leI (a := 12) (by omega) (by omega)).mp c30, rfl, by simp only [mw_uu]⟩)⟩
    · have hlt30 : cm < 12 := Nat.not_le.mp (fun h9 => c30 (show nI 12 ≤ nI cm from nI_le h9 (by omega)))
      have h24 := (isPathB_le (b2i_ne c21)).2
      refine mj_aload_n X dX9_file_33 rfl 2 rfl ?_
      refine mj_aload_n X dX9_file_34 rfl 2 rfl ?_
      refine mj_get X (C := RX9) (T := TX9) (N := 25) (ci := 9) w_M_file_0 rfl 5 (by decide) w_M_file_1 f62_ rfl dX9_file_35 ?_
      have f63_ := (mw_un (M := (mw_u M o (.inr (9, mdF o 0 (nI sg) (nI oc) (nI cm) li ve fa tr to pz pi)))) (e := (.inr (9, mdF o 0 (nI sg) 0 (nI cm) li ve fa tr to pz pi))) (show o + 1 ≠ o by omega)).trans f60_
      have f64_ := (mw_un (M := M) (e := (.inr (9, mdF o 0 (nI sg) (nI oc) (nI cm) li ve fa tr to pz pi))) (show o + 3 ≠ o by omega)).trans h_ps
      have f65_ := (mw_un (M := (mw_u M o (.inr (9, mdF o 0 (nI sg) (nI oc) (nI cm) li ve fa tr to pz pi)))) (e := (.inr (9, mdF o 0 (nI sg) 0 (nI cm) li ve fa tr to pz pi))) (show o + 3 ≠ o by omega)).trans f64_
      have f66_ := (mw_un (M := M) (e := (.inr (9, mdF o 0 (nI sg) (nI oc) (nI cm) li ve fa tr to pz pi))) (show o + 4 ≠ o by omega)).trans h_pp
      have f67_ := (mw_un (M := (mw_u M o (.inr (9, mdF o 0 (nI sg) (nI oc) (nI cm) li ve fa tr to pz pi)))) (e := (.inr (9, mdF o 0 (nI sg) 0 (nI cm) li ve fa tr to pz pi))) (show o + 4 ≠ o by omega)).trans f66_
      refine mj_callV X 1 gX9_file_X9_lay rfl (by decide +kernel) ⟨by decide, by decide⟩ (c_M_lay l D ca _ sz o sg 0 0 (nI cm) li ve fa tr to pz pi pa ps pp cm f62_ f63_ f65_ f67_ h24 (by omega) (fun k hk => hpb k (by omega))) rfl f62_ rfl rfl (Nat.le_of_ble_eq_true rfl) dX9_file_38 ⟨by decide, by decide⟩ (mk_v (fun M9 sz9 h9 => ?_))
      refine mj_to rfl rfl h9.1 (sz' := sz) h9.2 ?_
      refine mj_aload_n X dX9_file_41 rfl 2 rfl ?_
      have f68_ := (mw_un (M := (mw_u (mw_u M o (.inr (9, mdF o 0 (nI sg) (nI oc) (nI cm) li ve fa tr to pz pi))) o (.inr (9, mdF o 0 (nI sg) 0 (nI cm) li ve fa tr to pz pi)))) (e := (.inl (ca 0, 120, .inl (upd ps cm (nI sg))))) (show o ≠ o + 3 by omega)).trans f62_
      have f69_ := (mw_un (M := (mw_u (mw_u (mw_u M o (.inr (9, mdF o 0 (nI sg) (nI oc) (nI cm) li ve fa tr to pz pi))) o (.inr (9, mdF o 0 (nI sg) 0 (nI cm) li ve fa tr to pz pi))) (o + 3) (.inl (ca 0, 120, .inl (upd ps cm (nI sg)))))) (e := (.inl (ca 2, 2880, .inl (va_cpy pa pp 0 (24 * cm) sg)))) (show o ≠ o + 4 by omega)).trans f68_
      refine mj_get X (C := RX9) (T := TX9) (N := 25) (ci := 9) w_M_file_0 rfl 9 (by decide) w_M_file_7 f69_ rfl dX9_file_42 ?_
      refine mj_aload_n X dX9_file_45 rfl 2 rfl ?_
      refine mj_get X (C := RX9) (T := TX9) (N := 25) (ci := 9) w_M_file_0 rfl 5 (by decide) w_M_file_1 f69_ rfl dX9_file_46 ?_
      refine mj_iload_n X dX9_file_49 rfl 0 rfl ?_
      have f70_ := (mw_un (M := M) (e := (.inr (9, mdF o 0 (nI sg) (nI oc) (nI cm) li ve fa tr to pz pi))) (show o + 5 ≠ o by omega)).trans h_si
      have f71_ := (mw_un (M := (mw_u M o (.inr (9, mdF o 0 (nI sg) (nI oc) (nI cm) li ve fa tr to pz pi)))) (e := (.inr (9, mdF o 0 (nI sg) 0 (nI cm) li ve fa tr to pz pi))) (show o + 5 ≠ o by omega)).trans f70_
      have f72_ := (mw_un (M := (mw_u (mw_u M o (.inr (9, mdF o 0 (nI sg) (nI oc) (nI cm) li ve fa tr to pz pi))) o (.inr (9, mdF o 0 (nI sg) 0 (nI cm) li ve fa tr to pz pi)))) (e := (.inl (ca 0, 120, .inl (upd ps cm (nI sg))))) (show o + 5 ≠ o + 3 by omega)).trans f71_
      have f73_ := (mw_un (M := (mw_u (mw_u (mw_u M o (.inr (9, mdF o 0 (nI sg) (nI oc) (nI cm) li ve fa tr to pz pi))) o (.inr (9, mdF o 0 (nI sg) 0 (nI cm) li ve fa tr to pz pi))) (o + 3) (.inl (ca 0, 120, .inl (upd ps cm (nI sg)))))) (e := (.inl (ca 2, 2880, .inl (va_cpy pa pp 0 (24 * cm) sg)))) (show o + 5 ≠ o + 4 by omega)).trans f72_
      refine mj_iast X 0 cm rfl f73_ (vp_in_nI (by omega) (by omega)) (nI_clamp (by omega)) dX9_file_50 ?_
      refine mj_iconst X (v := 0) dX9_file_51 (by decide +kernel) ?_
      refine mj_istore_n X [(3, .int 0), (2, .int (nI oc)), (1, .int (b2i (isPathB (fun k => pa k &&& 255) sg))), (0, .ref o)] dX9_file_52 rfl (by decide) rfl ?_
      refine mj_sub [3, 1, 0] rfl ?_
      have f74_ := (mw_un (M := M) (e := (.inr (9, mdF o 0 (nI sg) (nI oc) (nI cm) li ve fa tr to pz pi))) (show o + 6 ≠ o by omega)).trans h_co
      have f75_ := (mw_un (M := (mw_u M o (.inr (9, mdF o 0 (nI sg) (nI oc) (nI cm) li ve fa tr to pz pi)))) (e := (.inr (9, mdF o 0 (nI sg) 0 (nI cm) li ve fa tr to pz pi))) (show o + 6 ≠ o by omega)).trans f74_
      have f76_ := (mw_un (M := (mw_u (mw_u M o (.inr (9, mdF o 0 (nI sg) (nI oc) (nI cm) li ve fa tr to pz pi))) o (.inr (9, mdF o 0 (nI sg) 0 (nI cm) li ve fa tr to pz pi)))) (e := (.inl (ca 0, 120, .inl (upd ps cm (nI sg))))) (show o + 6 ≠ o + 3 by omega)).trans f75_
      have f77_ := (mw_un (M := (mw_u (mw_u (mw_u M o (.inr (9, mdF o 0 (nI sg) (nI oc) (nI cm) li ve fa tr to pz pi))) o (.inr (9, mdF o 0 (nI sg) 0 (nI cm) li ve fa tr to pz pi))) (o + 3) (.inl (ca 0, 120, .inl (upd ps cm (nI sg)))))) (e := (.inl (ca 2, 2880, .inl (va_cpy pa pp 0 (24 * cm) sg)))) (show o + 6 ≠ o + 4 by omega)).trans f76_
      have f78_ := (mw_un (M := (mw_u (mw_u (mw_u (mw_u M o (.inr (9, mdF o 0 (nI sg) (nI oc) (nI cm) li ve fa tr to pz pi))) o (.inr (9, mdF o 0 (nI sg) 0 (nI cm) li ve fa tr to pz pi))) (o + 3) (.inl (ca 0, 120, .inl (upd ps cm (nI sg))))) (o + 4) (.inl (ca 2, 2880, .inl (va_cpy pa pp 0 (24 * cm) sg))))) (e := (.inl (ca 0, 120, .inl (upd si cm (nI oc))))) (show o + 6 ≠ o + 5 by omega)).trans f77_
      refine mj_to (M' := mw_u (mw_u (mw_u (mw_u (mw_u (mw_u M o (.inr (9, mdF o 0 (nI sg) (nI oc) (nI cm) li ve fa tr to pz pi))) o (.inr (9, mdF o 0 (nI sg) 0 (nI cm) li ve fa tr to pz pi))) (o + 3) (.inl (ca 0, 120, .inl (upd ps cm (nI sg))))) (o + 4) (.inl (ca 2, 2880, .inl (va_cpy pa pp 0 (24 * cm) sg)))) (o + 5) (.inl (ca 0, 120, .inl (upd si cm (nI oc))))) (o + 6) (.inl (ca 2, 4800, .inl (va_cpy byt co 0 (40 * cm) 0)))) rfl rfl (by rw [cpy_0]; exact (mw_self f78_).symm) rfl ?_
      rw [← nI_0]
      exact lp_M_file_53 (l := l) (D := D) (ca := ca) M sz o sg oc cm th li ve fa tr to pz pi pa byt ps pp si co ho h_pa h_byt h_ps h_pp h_si h_co hsg hpb hbb hoc hcm X hr0 hnm hlt (oc + 1) 0 (b2i_ne c21) hlt30 (by omega) (by omega)

theorem w_M_line_0 : ∀ w ∈ u_ws RX9 TX9 25, w ∈ wsX9_line := by decide +kernel
theorem w_M_line_1 : Cond.fieldLink RX9 54 "PackageRows2Model" "thrown" "I" ∈ wsX9_line := by decide +kernel
theorem w_M_line_2 : Cond.fieldLink RX9 58 "PackageRows2Model" "signs" "I" ∈ wsX9_line := by decide +kernel
theorem w_M_line_3 : Cond.fieldLink RX9 83 "PackageRows2Model" "lines" "I" ∈ wsX9_line := by decide +kernel
theorem w_M_line_4 : Cond.fieldLink RX9 29 "PackageRows2Model" "lineSize" "[I" ∈ wsX9_line := by decide +kernel
theorem w_M_line_5 : Cond.fieldLink RX9 32 "PackageRows2Model" "lineSum" "[I" ∈ wsX9_line := by decide +kernel
set_option maxHeartbeats 4000000 in
set_option maxRecDepth 100000 in
/--  -/
theorem c_M_line (l : Launch) (D : va_G) (ca : Nat → ClassId) (M : mw_M) (sz o : Nat) (sg li : Nat) (th oc cm ve fa tr to pz pi : Int32) (pa : Nat → Int32) (ps : Nat → Int32) (pp : Nat → Int32) (ls1 : Nat → Int32) (ls2 : Nat → Int32) (x y : Int32) (ho : M o = some (.inr (9, mdF o th (nI sg) oc cm (nI li) ve fa tr to pz pi))) (h_pa : M (o + 1) = some (.inl (ca 2, 30, .inl pa))) (h_ps : M (o + 3) = some (.inl (ca 0, 120, .inl ps))) (h_pp : M (o + 4) = some (.inl (ca 2, 2880, .inl pp))) (h_ls1 : M (o + 7) = some (.inl (ca 0, 12, .inl ls1))) (h_ls2 : M (o + 8) = some (.inl (ca 0, 12, .inl ls2))) (hsg : sg ≤ 30) (hpb : ∀ k, k < 30 → (pa k).toInt8.toInt32 = pa k) (hli : li ≤ 12) : mw_C wsX9_line l yX9_line { frames := 3, cells := 0, slots := 0, locals := 74 } D vwCl (mt ca) [.ref o, .int x, .int y] M sz (mq_i (fun v9 M' sz' => sz' = sz ∧ (((isPathB (fun k => pa k &&& 255) sg && inB x 0 40) = false ∧ v9 = -2 ∧ M' = mw_u M o (.inr (9, mdF o 0 0 oc cm (nI li) ve fa tr to pz pi))) ∨ ((isPathB (fun k => pa k &&& 255) sg && inB x 0 40) = true ∧ 12 ≤ li ∧ v9 = -4 ∧ M' = mw_u M o (.inr (9, mdF o 0 0 oc cm (nI li) ve fa tr to pz pi))) ∨ ((isPathB (fun k => pa k &&& 255) sg && inB x 0 40) = true ∧ li < 12 ∧ v9 = nI (li + 1) ∧ M' o = some (.inr (9, mdF o 0 0 oc cm (nI (li + 1)) ve fa tr to pz pi)) ∧ M' (o + 3) = some (.inl (ca 0, 120, .inl (upd ps (12 + li) (nI sg)))) ∧ M' (o + 4) = some (.inl (ca 2, 2880, .inl (va_cpy pa pp 0 (24 * (12 + li)) sg))) ∧ M' (o + 7) = some (.inl (ca 0, 12, .inl (upd ls1 li x))) ∧ M' (o + 8) = some (.inl (ca 0, 12, .inl (upd ls2 li y))) ∧ (∀ q, q ≠ o → q ≠ o + 3 → q ≠ o + 4 → q ≠ o + 7 → q ≠ o + 8 → M' q = M q))))) := by
  refine mw_enter (cc := cX9_line) (maxL := 4) (ret := (some .int)) rfl (by decide) (Nat.le_of_ble_eq_true rfl) ?_
  intro p e s m below meth c X hr0 hnm hlt
  refine mj_aload_n X dX9_line_0 rfl 0 rfl ?_
  refine mj_iconst X (v := 0) dX9_line_1 (by decide +kernel) ?_
  refine mj_put X (C := RX9) (T := TX9) (N := 25) (ci := 9) (v := .int 0) tyX9 w_M_line_0 tyX9_ok nmX9 rfl 0 (by decide) w_M_line_1 rfl ho (mdF o 0 (nI sg) oc cm (nI li) ve fa tr to pz pi) (Nat.le_of_ble_eq_true rfl) rfl rfl rfl rfl dX9_line_2 ?_
  refine mj_aload_n X dX9_line_5 rfl 0 rfl ?_
  have f1_ := mw_us (M := M) (a := o) (e := (.inr (9, mdF o 0 (nI sg) oc cm (nI li) ve fa tr to pz pi)))
  have f2_ := (mw_un (M := M) (e := (.inr (9, mdF o 0 (nI sg) oc cm (nI li) ve fa tr to pz pi))) (show o + 1 ≠ o by omega)).trans h_pa
  refine mj_callV X 0 gX9_line_X9_isPath rfl (by decide +kernel) ⟨by decide, by decide⟩ (c_M_isPath l D ca _ sz o sg 0 oc cm (nI li) ve fa tr to pz pi pa f1_ f2_ hsg hpb) rfl f1_ rfl rfl (Nat.le_of_ble_eq_true rfl) dX9_line_6 ⟨by decide, by decide⟩ (mk_ri (fun b6 hb6 => ?_))
  subst hb6
  refine mj_if_eq X 26 dX9_line_9 (by decide) (fun c9 => ?_) (fun c9 => ?_)
  · refine mj_iconst X (v := 0) dX9_line_26 (by decide +kernel) ?_
    refine mj_istore_n X [(3, .int 0), (0, .ref o), (1, .int x), (2, .int y)] dX9_line_27 rfl (by decide) rfl ?_
    refine mj_iload_n X dX9_line_28 rfl 0 rfl ?_
    refine mj_if_eq X 92 dX9_line_29 (by decide) (fun c29 => ?_) (fun c29 => ?_)
    · refine mj_aload_n X dX9_line_92 rfl 1 rfl ?_
      refine mj_iconst X (v := 0) dX9_line_93 (by decide +kernel) ?_
      refine mj_put X (C := RX9) (T := TX9) (N := 25) (ci := 9) (v := .int 0) tyX9 w_M_line_0 tyX9_ok nmX9 rfl 1 (by decide) w_M_line_2 rfl f1_ (mdF o 0 0 oc cm (nI li) ve fa tr to pz pi) (Nat.le_of_ble_eq_true rfl) rfl rfl rfl rfl dX9_line_94 ?_
      refine mj_iload_n X dX9_line_97 rfl 0 rfl ?_
      refine mj_if_eq X 106 dX9_line_98 (by decide) (fun c98 => ?_) (fun c98 => ?_)
      · refine mj_bipush X (v := -2) dX9_line_106 (by decide +kernel) ?_
        refine mj_iret X hr0 (by decide) (by decide) dX9_line_108 ?_
        have hg : (isPathB (fun k => pa k &&& 255) sg && inB x 0 40) = false := by rw [b2i_eq c9, Bool.false_and]
        exact ⟨_, rfl, rfl, Or.inl ⟨hg, rfl, by simp only [mw_uu]⟩⟩
      · exact absurd rfl c98
    · exact absurd rfl c29
  · refine mj_iload_n X dX9_line_12 rfl 1 rfl ?_
    refine mj_iconst X (v := 0) dX9_line_13 (by decide +kernel) ?_
    refine mj_bipush X (v := 40) dX9_line_14 (by decide +kernel) ?_
    refine mj_callS X 3 gX9_line_X9_in rfl (by decide +kernel) ⟨by decide, by decide⟩ (c_M_in l D ca _ _ x 0 40) rfl rfl (Nat.le_of_ble_eq_true rfl) dX9_line_16 ⟨by decide, by decide⟩ (mk_ri (fun b16 hb16 => ?_))
    subst hb16
    refine mj_if_eq X 26 dX9_line_19 (by decide) (fun c19 => ?_) (fun c19 => ?_)
    · refine mj_iconst X (v := 0) dX9_line_26 (by decide +kernel) ?_
      refine mj_istore_n X [(3, .int 0), (0, .ref o), (1, .int x), (2, .int y)] dX9_line_27 rfl (by decide) rfl ?_
      refine mj_iload_n X dX9_line_28 rfl 0 rfl ?_
      refine mj_if_eq X 92 dX9_line_29 (by decide) (fun c29 => ?_) (fun c29 => ?_)
      · refine mj_aload_n X dX9_line_92 rfl 1 rfl ?_
        refine mj_iconst X (v := 0) dX9_line_93 (by decide +kernel) ?_
        refine mj_put X (C := RX9) (T := TX9) (N := 25) (ci := 9) (v := .int 0) tyX9 w_M_line_0 tyX9_ok nmX9 rfl 1 (by decide) w_M_line_2 rfl f1_ (mdF o 0 0 oc cm (nI li) ve fa tr to pz pi) (Nat.le_of_ble_eq_true rfl) rfl rfl rfl rfl dX9_line_94 ?_
        refine mj_iload_n X dX9_line_97 rfl 0 rfl ?_
        refine mj_if_eq X 106 dX9_line_98 (by decide) (fun c98 => ?_) (fun c98 => ?_)
        · refine mj_bipush X (v := -2) dX9_line_106 (by decide +kernel) ?_
          refine mj_iret X hr0 (by decide) (by decide) dX9_line_108 ?_
          have hg : (isPathB (fun k => pa k &&& 255) sg && inB x 0 40) = false := by rw [b2i_eq c19, Bool.and_false]
          exact ⟨_, rfl, rfl, Or.inl ⟨hg, rfl, by simp only [mw_uu]⟩⟩
        · exact absurd rfl c98
      · exact absurd rfl c29
    · refine mj_iconst X (v := 1) dX9_line_22 (by decide +kernel) ?_
      refine mj_goto X 27 dX9_line_23 (by decide) ?_
      refine mj_istore_n X [(3, .int 1), (0, .ref o), (1, .int x), (2, .int y)] dX9_line_27 rfl (by decide) rfl ?_
      refine mj_iload_n X dX9_line_28 rfl 0 rfl ?_
      refine mj_if_eq X 92 dX9_line_29 (by decide) (fun c29 => ?_) (fun c29 => ?_)
      · exact absurd c29 (by decide)
      · refine mj_aload_n X dX9_line_32 rfl 1 rfl ?_
        refine mj_get X (C := RX9) (T := TX9) (N := 25) (ci := 9) w_M_line_0 rfl 6 (by decide) w_M_line_3 f1_ rfl dX9_line_33 ?_
        refine mj_bipush X (v := 12) dX9_line_36 (by decide +kernel) ?_
        refine mj_icmp_ge X 92 dX9_line_38 (by decide) (fun c38 => ?_) (fun c38 => ?_)
        · refine mj_aload_n X dX9_line_92 rfl 1 rfl ?_
          refine mj_iconst X (v := 0) dX9_line_93 (by decide +kernel) ?_
          refine mj_put X (C := RX9) (T := TX9) (N := 25) (ci := 9) (v := .int 0) tyX9 w_M_line_0 tyX9_ok nmX9 rfl 1 (by decide) w_M_line_2 rfl f1_ (mdF o 0 0 oc cm (nI li) ve fa tr to pz pi) (Nat.le_of_ble_eq_true rfl) rfl rfl rfl rfl dX9_line_94 ?_
          refine mj_iload_n X dX9_line_97 rfl 0 rfl ?_
          refine mj_if_eq X 106 dX9_line_98 (by decide) (fun c98 => ?_) (fun c98 => ?_)
          · exact absurd c98 (by decide)
          · refine mj_bipush X (v := -4) dX9_line_101 (by decide +kernel) ?_
            refine mj_goto X 108 dX9_line_103 (by decide) ?_
            refine mj_iret X hr0 (by decide) (by decide) dX9_line_108 ?_
            have hg : (isPathB (fun k => pa k &&& 255) sg && inB x 0 40) = true := by rw [b2i_ne c9, b2i_ne c19]; rfl
            exact ⟨_, rfl, rfl, Or.inr (Or.inl ⟨hg, (nI_leI (a := 12) (by omega) (by omega)).mp c38, rfl, by simp only [mw_uu]⟩)⟩
        · have hlt38 : li < 12 := Nat.not_le.mp (fun h9 => c38 (show nI 12 ≤ nI li from nI_le h9 (by omega)))
          have h24 := (isPathB_le (b2i_ne c9)).2
          refine mj_aload_n X dX9_line_41 rfl 1 rfl ?_
          refine mj_bipush X (v := 12) dX9_line_42 (by decide +kernel) ?_
          refine mj_aload_n X dX9_line_44 rfl 1 rfl ?_
          refine mj_get X (C := RX9) (T := TX9) (N := 25) (ci := 9) w_M_line_0 rfl 6 (by decide) w_M_line_3 f1_ rfl dX9_line_45 ?_
          refine mj_iadd X dX9_line_48 ?_
          refine mj_top (nI (12 + li)) (show nI 12 + nI li = _ from nI_add 12 li) ?_
          have f3_ := (mw_un (M := M) (e := (.inr (9, mdF o 0 (nI sg) oc cm (nI li) ve fa tr to pz pi))) (show o + 3 ≠ o by omega)).trans h_ps
          have f4_ := (mw_un (M := M) (e := (.inr (9, mdF o 0 (nI sg) oc cm (nI li) ve fa tr to pz pi))) (show o + 4 ≠ o by omega)).trans h_pp
          refine mj_callV X 1 gX9_line_X9_lay rfl (by decide +kernel) ⟨by decide, by decide⟩ (c_M_lay l D ca _ sz o sg 0 oc cm (nI li) ve fa tr to pz pi pa ps pp (12 + li) f1_ f2_ f3_ f4_ h24 (by omega) (fun k hk => hpb k (by omega))) rfl f1_ rfl rfl (Nat.le_of_ble_eq_true rfl) dX9_line_49 ⟨by decide, by decide⟩ (mk_v (fun M9 sz9 h9 => ?_))
          refine mj_to rfl rfl h9.1 (sz' := sz) h9.2 ?_
          refine mj_aload_n X dX9_line_52 rfl 1 rfl ?_
          have f5_ := (mw_un (M := (mw_u M o (.inr (9, mdF o 0 (nI sg) oc cm (nI li) ve fa tr to pz pi)))) (e := (.inl (ca 0, 120, .inl (upd ps (12 + li) (nI sg))))) (show o ≠ o + 3 by omega)).trans f1_
          have f6_ := (mw_un (M := (mw_u (mw_u M o (.inr (9, mdF o 0 (nI sg) oc cm (nI li) ve fa tr to pz pi))) (o + 3) (.inl (ca 0, 120, .inl (upd ps (12 + li) (nI sg)))))) (e := (.inl (ca 2, 2880, .inl (va_cpy pa pp 0 (24 * (12 + li)) sg)))) (show o ≠ o + 4 by omega)).trans f5_
          refine mj_get X (C := RX9) (T := TX9) (N := 25) (ci := 9) w_M_line_0 rfl 11 (by decide) w_M_line_4 f6_ rfl dX9_line_53 ?_
          refine mj_aload_n X dX9_line_56 rfl 1 rfl ?_
          refine mj_get X (C := RX9) (T := TX9) (N := 25) (ci := 9) w_M_line_0 rfl 6 (by decide) w_M_line_3 f6_ rfl dX9_line_57 ?_
          refine mj_iload_n X dX9_line_60 rfl 2 rfl ?_
          have f7_ := (mw_un (M := M) (e := (.inr (9, mdF o 0 (nI sg) oc cm (nI li) ve fa tr to pz pi))) (show o + 7 ≠ o by omega)).trans h_ls1
          have f8_ := (mw_un (M := (mw_u M o (.inr (9, mdF o 0 (nI sg) oc cm (nI li) ve fa tr to pz pi)))) (e := (.inl (ca 0, 120, .inl (upd ps (12 + li) (nI sg))))) (show o + 7 ≠ o + 3 by omega)).trans f7_
          have f9_ := (mw_un (M := (mw_u (mw_u M o (.inr (9, mdF o 0 (nI sg) oc cm (nI li) ve fa tr to pz pi))) (o + 3) (.inl (ca 0, 120, .inl (upd ps (12 + li) (nI sg)))))) (e := (.inl (ca 2, 2880, .inl (va_cpy pa pp 0 (24 * (12 + li)) sg)))) (show o + 7 ≠ o + 4 by omega)).trans f8_
          refine mj_iast X 0 li rfl f9_ (vp_in_nI (by omega) (by omega)) (nI_clamp (by omega)) dX9_line_61 ?_
          refine mj_aload_n X dX9_line_62 rfl 1 rfl ?_
          have f10_ := (mw_un (M := (mw_u (mw_u (mw_u M o (.inr (9, mdF o 0 (nI sg) oc cm (nI li) ve fa tr to pz pi))) (o + 3) (.inl (ca 0, 120, .inl (upd ps (12 + li) (nI sg))))) (o + 4) (.inl (ca 2, 2880, .inl (va_cpy pa pp 0 (24 * (12 + li)) sg))))) (e := (.inl (ca 0, 12, .inl (upd ls1 li x)))) (show o ≠ o + 7 by omega)).trans f6_
          refine mj_get X (C := RX9) (T := TX9) (N := 25) (ci := 9) w_M_line_0 rfl 12 (by decide) w_M_line_5 f10_ rfl dX9_line_63 ?_
          refine mj_aload_n X dX9_line_66 rfl 1 rfl ?_
          refine mj_get X (C := RX9) (T := TX9) (N := 25) (ci := 9) w_M_line_0 rfl 6 (by decide) w_M_line_3 f10_ rfl dX9_line_67 ?_
          refine mj_iload_n X dX9_line_70 rfl 3 rfl ?_
          have f11_ := (mw_un (M := M) (e := (.inr (9, mdF o 0 (nI sg) oc cm (nI li) ve fa tr to pz pi))) (show o + 8 ≠ o by omega)).trans h_ls2
          have f12_ := (mw_un (M := (mw_u M o (.inr (9, mdF o 0 (nI sg) oc cm (nI li) ve fa tr to pz pi)))) (e := (.inl (ca 0, 120, .inl (upd ps (12 + li) (nI sg))))) (show o + 8 ≠ o + 3 by omega)).trans f11_
          have f13_ := (mw_un (M := (mw_u (mw_u M o (.inr (9, mdF o 0 (nI sg) oc cm (nI li) ve fa tr to pz pi))) (o + 3) (.inl (ca 0, 120, .inl (upd ps (12 + li) (nI sg)))))) (e := (.inl (ca 2, 2880, .inl (va_cpy pa pp 0 (24 * (12 + li)) sg)))) (show o + 8 ≠ o + 4 by omega)).trans f12_
          have f14_ := (mw_un (M := (mw_u (mw_u (mw_u M o (.inr (9, mdF o 0 (nI sg) oc cm (nI li) ve fa tr to pz pi))) (o + 3) (.inl (ca 0, 120, .inl (upd ps (12 + li) (nI sg))))) (o + 4) (.inl (ca 2, 2880, .inl (va_cpy pa pp 0 (24 * (12 + li)) sg))))) (e := (.inl (ca 0, 12, .inl (upd ls1 li x)))) (show o + 8 ≠ o + 7 by omega)).trans f13_
          refine mj_iast X 0 li rfl f14_ (vp_in_nI (by omega) (by omega)) (nI_clamp (by omega)) dX9_line_71 ?_
          refine mj_aload_n X dX9_line_72 rfl 1 rfl ?_
          refine mj_dup X dX9_line_73 rfl ?_
          have f15_ := (mw_un (M := (mw_u (mw_u (mw_u (mw_u M o (.inr (9, mdF o 0 (nI sg) oc cm (nI li) ve fa tr to pz pi))) (o + 3) (.inl (ca 0, 120, .inl (upd ps (12 + li) (nI sg))))) (o + 4) (.inl (ca 2, 2880, .inl (va_cpy pa pp 0 (24 * (12 + li)) sg)))) (o + 7) (.inl (ca 0, 12, .inl (upd ls1 li x))))) (e := (.inl (ca 0, 12, .inl (upd ls2 li y)))) (show o ≠ o + 8 by omega)).trans f10_
          refine mj_get X (C := RX9) (T := TX9) (N := 25) (ci := 9) w_M_line_0 rfl 6 (by decide) w_M_line_3 f15_ rfl dX9_line_74 ?_
          refine mj_iconst X (v := 1) dX9_line_77 (by decide +kernel) ?_
          refine mj_iadd X dX9_line_78 ?_
          refine mj_top (nI (li + 1)) (nI_1 li) ?_
          refine mj_put X (C := RX9) (T := TX9) (N := 25) (ci := 9) (v := .int (nI (li + 1))) tyX9 w_M_line_0 tyX9_ok nmX9 rfl 6 (by decide) w_M_line_3 rfl f15_ (mdF o 0 (nI sg) oc cm (nI (li + 1)) ve fa tr to pz pi) (Nat.le_of_ble_eq_true rfl) rfl rfl rfl rfl dX9_line_79 ?_
          refine mj_aload_n X dX9_line_82 rfl 1 rfl ?_
          refine mj_iconst X (v := 0) dX9_line_83 (by decide +kernel) ?_
          have f16_ := mw_us (M := (mw_u (mw_u (mw_u (mw_u (mw_u M o (.inr (9, mdF o 0 (nI sg) oc cm (nI li) ve fa tr to pz pi))) (o + 3) (.inl (ca 0, 120, .inl (upd ps (12 + li) (nI sg))))) (o + 4) (.inl (ca 2, 2880, .inl (va_cpy pa pp 0 (24 * (12 + li)) sg)))) (o + 7) (.inl (ca 0, 12, .inl (upd ls1 li x)))) (o + 8) (.inl (ca 0, 12, .inl (upd ls2 li y))))) (a := o) (e := (.inr (9, mdF o 0 (nI sg) oc cm (nI (li + 1)) ve fa tr to pz pi)))
          refine mj_put X (C := RX9) (T := TX9) (N := 25) (ci := 9) (v := .int 0) tyX9 w_M_line_0 tyX9_ok nmX9 rfl 1 (by decide) w_M_line_2 rfl f16_ (mdF o 0 0 oc cm (nI (li + 1)) ve fa tr to pz pi) (Nat.le_of_ble_eq_true rfl) rfl rfl rfl rfl dX9_line_84 ?_
          refine mj_aload_n X dX9_line_87 rfl 1 rfl ?_
          have f17_ := mw_us (M := (mw_u (mw_u (mw_u (mw_u (mw_u (mw_u M o (.inr (9, mdF o 0 (nI sg) oc cm (nI li) ve fa tr to pz pi))) (o + 3) (.inl (ca 0, 120, .inl (upd ps (12 + li) (nI sg))))) (o + 4) (.inl (ca 2, 2880, .inl (va_cpy pa pp 0 (24 * (12 + li)) sg)))) (o + 7) (.inl (ca 0, 12, .inl (upd ls1 li x)))) (o + 8) (.inl (ca 0, 12, .inl (upd ls2 li y)))) o (.inr (9, mdF o 0 (nI sg) oc cm (nI (li + 1)) ve fa tr to pz pi)))) (a := o) (e := (.inr (9, mdF o 0 0 oc cm (nI (li + 1)) ve fa tr to pz pi)))
          refine mj_get X (C := RX9) (T := TX9) (N := 25) (ci := 9) w_M_line_0 rfl 6 (by decide) w_M_line_3 f17_ rfl dX9_line_88 ?_
          refine mj_iret X hr0 (by decide) (by decide) dX9_line_91 ?_
          have f18_ := mw_us (M := (mw_u M o (.inr (9, mdF o 0 (nI sg) oc cm (nI li) ve fa tr to pz pi)))) (a := (o + 3)) (e := (.inl (ca 0, 120, .inl (upd ps (12 + li) (nI sg)))))
          have f19_ := (mw_un (M := (mw_u (mw_u M o (.inr (9, mdF o 0 (nI sg) oc cm (nI li) ve fa tr to pz pi))) (o + 3) (.inl (ca 0, 120, .inl (upd ps (12 + li) (nI sg)))))) (e := (.inl (ca 2, 2880, .inl (va_cpy pa pp 0 (24 * (12 + li)) sg)))) (show o + 3 ≠ o + 4 by omega)).trans f18_
          have f20_ := (mw_un (M := (mw_u (mw_u (mw_u M o (.inr (9, mdF o 0 (nI sg) oc cm (nI li) ve fa tr to pz pi))) (o + 3) (.inl (ca 0, 120, .inl (upd ps (12 + li) (nI sg))))) (o + 4) (.inl (ca 2, 2880, .inl (va_cpy pa pp 0 (24 * (12 + li)) sg))))) (e := (.inl (ca 0, 12, .inl (upd ls1 li x)))) (show o + 3 ≠ o + 7 by omega)).trans f19_
          have f21_ := (mw_un (M := (mw_u (mw_u (mw_u (mw_u M o (.inr (9, mdF o 0 (nI sg) oc cm (nI li) ve fa tr to pz pi))) (o + 3) (.inl (ca 0, 120, .inl (upd ps (12 + li) (nI sg))))) (o + 4) (.inl (ca 2, 2880, .inl (va_cpy pa pp 0 (24 * (12 + li)) sg)))) (o + 7) (.inl (ca 0, 12, .inl (upd ls1 li x))))) (e := (.inl (ca 0, 12, .inl (upd ls2 li y)))) (show o + 3 ≠ o + 8 by omega)).trans f20_
          have f22_ := (mw_un (M := (mw_u (mw_u (mw_u (mw_u (mw_u M o (.inr (9, mdF o 0 (nI sg) oc cm (nI li) ve fa tr to pz pi))) (o + 3) (.inl (ca 0, 120, .inl (upd ps (12 + li) (nI sg))))) (o + 4) (.inl (ca 2, 2880, .inl (va_cpy pa pp 0 (24 * (12 + li)) sg)))) (o + 7) (.inl (ca 0, 12, .inl (upd ls1 li x)))) (o + 8) (.inl (ca 0, 12, .inl (upd ls2 li y))))) (e := (.inr (9, mdF o 0 (nI sg) oc cm (nI (li + 1)) ve fa tr to pz pi))) (show o + 3 ≠ o by omega)).trans f21_
          have f23_ := (mw_un (M := (mw_u (mw_u (mw_u (mw_u (mw_u (mw_u M o (.inr (9, mdF o 0 (nI sg) oc cm (nI li) ve fa tr to pz pi))) (o + 3) (.inl (ca 0, 120, .inl (upd ps (12 + li) (nI sg))))) (o + 4) (.inl (ca 2, 2880, .inl (va_cpy pa pp 0 (24 * (12 + li)) sg)))) (o + 7) (.inl (ca 0, 12, .inl (upd ls1 li x)))) (o + 8) (.inl (ca 0, 12, .inl (upd ls2 li y)))) o (.inr (9, mdF o 0 (nI sg) oc cm (nI (li + 1)) ve fa tr to pz pi)))) (e := (.inr (9, mdF o 0 0 oc cm (nI (li + 1)) ve fa tr to pz pi))) (show o + 3 ≠ o by omega)).trans f22_
          have f24_ := (mw_un (M := (mw_u M o (.inr (9, mdF o 0 (nI sg) oc cm (nI li) ve fa tr to pz pi)))) (e := (.inl (ca 0, 120, .inl (upd ps (12 + li) (nI sg))))) (show o + 4 ≠ o + 3 by omega)).trans f4_
          have f25_ := mw_us (M := (mw_u (mw_u M o (.inr (9, mdF o 0 (nI sg) oc cm (nI li) ve fa tr to pz pi))) (o + 3) (.inl (ca 0, 120, .inl (upd ps (12 + li) (nI sg)))))) (a := (o + 4)) (e := (.inl (ca 2, 2880, .inl (va_cpy pa pp 0 (24 * (12 + li)) sg))))
          have f26_ := (mw_un (M := (mw_u (mw_u (mw_u M o (.inr (9, mdF o 0 (nI sg) oc cm (nI li) ve fa tr to pz pi))) (o + 3) (.inl (ca 0, 120, .inl (upd ps (12 + li) (nI sg))))) (o + 4) (.inl (ca 2, 2880, .inl (va_cpy pa pp 0 (24 * (12 + li)) sg))))) (e := (.inl (ca 0, 12, .inl (upd ls1 li x)))) (show o + 4 ≠ o + 7 by omega)).trans f25_
          have f27_ := (mw_un (M := (mw_u (mw_u (mw_u (mw_u M o (.inr (9, mdF o 0 (nI sg) oc cm (nI li) ve fa tr to pz pi))) (o + 3) (.inl (ca 0, 120, .inl (upd ps (12 + li) (nI sg))))) (o + 4) (.inl (ca 2, 2880, .inl (va_cpy pa pp 0 (24 * (12 + li)) sg)))) (o + 7) (.inl (ca 0, 12, .inl (upd ls1 li x))))) (e := (.inl (ca 0, 12, .inl (upd ls2 li y)))) (show o + 4 ≠ o + 8 by omega)).trans f26_
          have f28_ := (mw_un (M := (mw_u (mw_u (mw_u (mw_u (mw_u M o (.inr (9, mdF o 0 (nI sg) oc cm (nI li) ve fa tr to pz pi))) (o + 3) (.inl (ca 0, 120, .inl (upd ps (12 + li) (nI sg))))) (o + 4) (.inl (ca 2, 2880, .inl (va_cpy pa pp 0 (24 * (12 + li)) sg)))) (o + 7) (.inl (ca 0, 12, .inl (upd ls1 li x)))) (o + 8) (.inl (ca 0, 12, .inl (upd ls2 li y))))) (e := (.inr (9, mdF o 0 (nI sg) oc cm (nI (li + 1)) ve fa tr to pz pi))) (show o + 4 ≠ o by omega)).trans f27_
          have f29_ := (mw_un (M := (mw_u (mw_u (mw_u (mw_u (mw_u (mw_u M o (.inr (9, mdF o 0 (nI sg) oc cm (nI li) ve fa tr to pz pi))) (o + 3) (.inl (ca 0, 120, .inl (upd ps (12 + li) (nI sg))))) (o + 4) (.inl (ca 2, 2880, .inl (va_cpy pa pp 0 (24 * (12 + li)) sg)))) (o + 7) (.inl (ca 0, 12, .inl (upd ls1 li x)))) (o + 8) (.inl (ca 0, 12, .inl (upd ls2 li y)))) o (.inr (9, mdF o 0 (nI sg) oc cm (nI (li + 1)) ve fa tr to pz pi)))) (e := (.inr (9, mdF o 0 0 oc cm (nI (li + 1)) ve fa tr to pz pi))) (show o + 4 ≠ o by omega)).trans f28_
          have f30_ := mw_us (M := (mw_u (mw_u (mw_u M o (.inr (9, mdF o 0 (nI sg) oc cm (nI li) ve fa tr to pz pi))) (o + 3) (.inl (ca 0, 120, .inl (upd ps (12 + li) (nI sg))))) (o + 4) (.inl (ca 2, 2880, .inl (va_cpy pa pp 0 (24 * (12 + li)) sg))))) (a := (o + 7)) (e := (.inl (ca 0, 12, .inl (upd ls1 li x))))
          have f31_ := (mw_un (M := (mw_u (mw_u (mw_u (mw_u M o (.inr (9, mdF o 0 (nI sg) oc cm (nI li) ve fa tr to pz pi))) (o + 3) (.inl (ca 0, 120, .inl (upd ps (12 + li) (nI sg))))) (o + 4) (.inl (ca 2, 2880, .inl (va_cpy pa pp 0 (24 * (12 + li)) sg)))) (o + 7) (.inl (ca 0, 12, .inl (upd ls1 li x))))) (e := (.inl (ca 0, 12, .inl (upd ls2 li y)))) (show o + 7 ≠ o + 8 by omega)).trans f30_
          have f32_ := (mw_un (M := (mw_u (mw_u (mw_u (mw_u (mw_u M o (.inr (9, mdF o 0 (nI sg) oc cm (nI li) ve fa tr to pz pi))) (o + 3) (.inl (ca 0, 120, .inl (upd ps (12 + li) (nI sg))))) (o + 4) (.inl (ca 2, 2880, .inl (va_cpy pa pp 0 (24 * (12 + li)) sg)))) (o + 7) (.inl (ca 0, 12, .inl (upd ls1 li x)))) (o + 8) (.inl (ca 0, 12, .inl (upd ls2 li y))))) (e := (.inr (9, mdF o 0 (nI sg) oc cm (nI (li + 1)) ve fa tr to pz pi))) (show o + 7 ≠ o by omega)).trans f31_
          have f33_ := (mw_un (M := (mw_u (mw_u (mw_u (mw_u (mw_u (mw_u M o (.inr (9, mdF o 0 (nI sg) oc cm (nI li) ve fa tr to pz pi))) (o + 3) (.inl (ca 0, 120, .inl (upd ps (12 + li) (nI sg))))) (o + 4) (.inl (ca 2, 2880, .inl (va_cpy pa pp 0 (24 * (12 + li)) sg)))) (o + 7) (.inl (ca 0, 12, .inl (upd ls1 li x)))) (o + 8) (.inl (ca 0, 12, .inl (upd ls2 li y)))) o (.inr (9, mdF o 0 (nI sg) oc cm (nI (li + 1)) ve fa tr to pz pi)))) (e := (.inr (9, mdF o 0 0 oc cm (nI (li + 1)) ve fa tr to pz pi))) (show o + 7 ≠ o by omega)).trans f32_
          have f34_ := mw_us (M := (mw_u (mw_u (mw_u (mw_u M o (.inr (9, mdF o 0 (nI sg) oc cm (nI li) ve fa tr to pz pi))) (o + 3) (.inl (ca 0, 120, .inl (upd ps (12 + li) (nI sg))))) (o + 4) (.inl (ca 2, 2880, .inl (va_cpy pa pp 0 (24 * (12 + li)) sg)))) (o + 7) (.inl (ca 0, 12, .inl (upd ls1 li x))))) (a := (o + 8)) (e := (.inl (ca 0, 12, .inl (upd ls2 li y))))
          have f35_ := (mw_un (M := (mw_u (mw_u (mw_u (mw_u (mw_u M o (.inr (9, mdF o 0 (nI sg) oc cm (nI li) ve fa tr to pz pi))) (o + 3) (.inl (ca 0, 120, .inl (upd ps (12 + li) (nI sg))))) (o + 4) (.inl (ca 2, 2880, .inl (va_cpy pa pp 0 (24 * (12 + li)) sg)))) (o + 7) (.inl (ca 0, 12, .inl (upd ls1 li x)))) (o + 8) (.inl (ca 0, 12, .inl (upd ls2 li y))))) (e := (.inr (9, mdF o 0 (nI sg) oc cm (nI (li + 1)) ve fa tr to pz pi))) (show o + 8 ≠ o by omega)).trans f34_
          have f36_ := (mw_un (M := (mw_u (mw_u (mw_u (mw_u (mw_u (mw_u M o (.inr (9, mdF o 0 (nI sg) oc cm (nI li) ve fa tr to pz pi))) (o + 3) (.inl (ca 0, 120, .inl (upd ps (12 + li) (nI sg))))) (o + 4) (.inl (ca 2, 2880, .inl (va_cpy pa pp 0 (24 * (12 + li)) sg)))) (o + 7) (.inl (ca 0, 12, .inl (upd ls1 li x)))) (o + 8) (.inl (ca 0, 12, .inl (upd ls2 li y)))) o (.inr (9, mdF o 0 (nI sg) oc cm (nI (li + 1)) ve fa tr to pz pi)))) (e := (.inr (9, mdF o 0 0 oc cm (nI (li + 1)) ve fa tr to pz pi))) (show o + 8 ≠ o by omega)).trans f35_
          have hg : (isPathB (fun k => pa k &&& 255) sg && inB x 0 40) = true := by rw [b2i_ne c9, b2i_ne c19]; rfl
          exact ⟨_, rfl, rfl, Or.inr (Or.inr ⟨hg, hlt38, rfl, f17_, f23_, f29_, f33_, f36_, fun q h1 h2 h3 h4 h5 => ((mw_un (show q ≠ o by omega)).trans ((mw_un (show q ≠ o by omega)).trans ((mw_un (show q ≠ o + 8 by omega)).trans ((mw_un (show q ≠ o + 7 by omega)).trans ((mw_un (show q ≠ o + 4 by omega)).trans ((mw_un (show q ≠ o + 3 by omega)).trans (mw_un (show q ≠ o by omega))))))))⟩)⟩

theorem w_M_alike_0 : ∀ w ∈ u_ws RX9 TX9 25, w ∈ wsX9_alike := by decide +kernel
theorem w_M_alike_1 : Cond.fieldLink RX9 23 "PackageRows2Model" "size" "[I" ∈ wsX9_alike := by decide +kernel
theorem w_M_alike_2 : Cond.fieldLink RX9 26 "PackageRows2Model" "content" "[B" ∈ wsX9_alike := by decide +kernel
set_option maxHeartbeats 4000000 in
set_option maxRecDepth 100000 in
theorem lp_M_alike_24 {l : Launch} {D : va_G} {ca : Nat → ClassId} (M : mw_M) (sz o : Nat) (th sg oc cm li ve fa tr to pz pi : Int32) (si : Nat → Int32) (co : Nat → Int32) (a b na nb : Nat) (ho : M o = some (.inr (9, mdF o th sg oc cm li ve fa tr to pz pi))) (h_si : M (o + 5) = some (.inl (ca 0, 120, .inl si))) (h_co : M (o + 6) = some (.inl (ca 2, 4800, .inl co))) (ha : a < 120) (hb : b < 120) (hsa : si a = nI na) (hsb : si b = nI nb) (hna : na ≤ 40) (hnb : nb ≤ 40) {p : Program} {e : Env} {s : State} {m : MethodId} {below : List Frame} {meth : Method} {c : Code} (X : mw_X p s m ([.ref o, .int (nI a), .int (nI b)] : List Value).toArray meth c cX9_alike 5 yX9_alike.cls wsX9_alike D vwCl (mt ca)) (hr0 : meth.sig.returnType = (some .boolean)) (hnm : meth.name = yX9_alike.name) (hlt : ∀ (a : Nat) (x : va_E), M a = some x → a < sz) : ∀ (fu : Nat) (i : Nat), i ≤ na → na < i + fu → mw_J p l e { frames := 0, cells := 0, slots := 0, locals := 0 } s m ([.ref o, .int (nI a), .int (nI b)] : List Value).toArray below meth c 5 D vwCl (mw_A M sz) (MQ below (mw_Q D vwCl M sz (mq_i (fun v9 M' sz' => M' = M ∧ sz' = sz ∧ ((alM co a na b nb ∧ v9 = 1) ∨ (¬ alM co a na b nb ∧ v9 = 0))))) ([.ref o, .int (nI a), .int (nI b)] : List Value).toArray s 0 0 (mw_A M sz)) 24 [(0, .ref o), (1, .int (nI a)), (2, .int (nI b)), (3, .int (b2i (decide (na = nb) && eqk co a b i))), (4, .int (nI i))] [] M sz 0 0 := by
  intro fu
  induction fu with
  | zero => intro i h1 h2; omega
  | succ fu ih =>
    intro i hi hfu
    refine mj_iload X dX9_alike_24 4 rfl ?_
    refine mj_aload_n X dX9_alike_26 rfl 0 rfl ?_
    refine mj_get X (C := RX9) (T := TX9) (N := 25) (ci := 9) w_M_alike_0 rfl 9 (by decide) w_M_alike_1 ho rfl dX9_alike_27 ?_
    refine mj_iload_n X dX9_alike_30 rfl 1 rfl ?_
    refine mj_iald X 0 (nI na) rfl h_si (vp_in_nI (by omega) (by omega)) (by rw [nI_clamp (by omega)]; exact hsa) dX9_alike_31 ?_
    refine mj_icmp_ge X 78 dX9_alike_32 (by decide) (fun c32 => ?_) (fun c32 => ?_)
    · refine mj_iload_n X dX9_alike_78 rfl 3 rfl ?_
      refine mj_zret X (b2i_nar _) hr0 (by decide) (by decide) dX9_alike_79 ?_
      have e9 : i = na := by have h9 := (nI_leI (by omega) (by omega)).mp c32; omega
      subst e9
      refine ⟨_, rfl, rfl, rfl, ?_⟩
      by_cases hA : alM co a i b nb
      · exact Or.inl ⟨hA, by rw [decide_eq_true hA.1, eqk_iff.mpr hA.2]; rfl⟩
      · refine Or.inr ⟨hA, ?_⟩
        have hz : (decide (i = nb) && eqk co a b i) = false := by
          rw [Bool.eq_false_iff]; intro h9
          rw [Bool.and_eq_true, decide_eq_true_eq] at h9
          exact hA ⟨h9.1, eqk_iff.mp h9.2⟩
        rw [hz]; rfl
    · have hlt32 : i < na := Nat.not_le.mp (fun h9 => c32 (nI_le h9 (by omega)))
      refine mj_iload_n X dX9_alike_35 rfl 3 rfl ?_
      refine mj_if_eq X 78 dX9_alike_36 (by decide) (fun c36 => ?_) (fun c36 => ?_)
      · refine mj_iload_n X dX9_alike_78 rfl 3 rfl ?_
        refine mj_zret X (b2i_nar _) hr0 (by decide) (by decide) dX9_alike_79 ?_
        refine ⟨_, rfl, rfl, rfl, Or.inr ⟨fun hA => ?_, c36⟩⟩
        have hz := b2i_eq c36
        have h1 : (decide (na = nb) && eqk co a b i) = true := by rw [Bool.and_eq_true, decide_eq_true_eq]; exact ⟨hA.1, eqk_iff.mpr (fun k hk => hA.2 k (by omega))⟩
        rw [h1] at hz; exact absurd hz (by decide)
      · refine mj_aload_n X dX9_alike_39 rfl 0 rfl ?_
        refine mj_get X (C := RX9) (T := TX9) (N := 25) (ci := 9) w_M_alike_0 rfl 10 (by decide) w_M_alike_2 ho rfl dX9_alike_40 ?_
        refine mj_bipush X (v := 40) dX9_alike_43 (by decide +kernel) ?_
        refine mj_iload_n X dX9_alike_45 rfl 1 rfl ?_
        refine mj_imul X dX9_alike_46 ?_
        refine mj_top (nI (40 * a)) (show nI 40 * nI a = _ from pk_mul 40 a) ?_
        refine mj_iload X dX9_alike_47 4 rfl ?_
        refine mj_iadd X dX9_alike_49 ?_
        refine mj_top (nI (40 * a + i)) (nI_add _ _) ?_
        refine mj_bald X 2 (co (40 * a + i)) rfl h_co (vp_in_nI (by omega) (by omega)) (by rw [nI_clamp (by omega)]) dX9_alike_50 ?_
        refine mj_aload_n X dX9_alike_51 rfl 0 rfl ?_
        refine mj_get X (C := RX9) (T := TX9) (N := 25) (ci := 9) w_M_alike_0 rfl 10 (by decide) w_M_alike_2 ho rfl dX9_alike_52 ?_
        refine mj_bipush X (v := 40) dX9_alike_55 (by decide +kernel) ?_
        refine mj_iload_n X dX9_alike_57 rfl 2 rfl ?_
        refine mj_imul X dX9_alike_58 ?_
        refine mj_top (nI (40 * b)) (show nI 40 * nI b = _ from pk_mul 40 b) ?_
        refine mj_iload X dX9_alike_59 4 rfl ?_
        refine mj_iadd X dX9_alike_61 ?_
        refine mj_top (nI (40 * b + i)) (nI_add _ _) ?_
        refine mj_bald X 2 (co (40 * b + i)) rfl h_co (vp_in_nI (by omega) (by omega)) (by rw [nI_clamp (by omega)]) dX9_alike_62 ?_
        refine mj_icmp_ne X 70 dX9_alike_63 (by decide) (fun c63 => ?_) (fun c63 => ?_)
        · refine mj_iconst X (v := 0) dX9_alike_70 (by decide +kernel) ?_
          refine mj_istore_n X [(3, .int 0), (0, .ref o), (1, .int (nI a)), (2, .int (nI b)), (4, .int (nI i))] dX9_alike_71 rfl (by decide) rfl ?_
          refine mj_iinc X [(4, .int (nI (i + 1))), (3, .int 0), (0, .ref o), (1, .int (nI a)), (2, .int (nI b))] dX9_alike_72 4 rfl (nI_1 i) (by decide) rfl ?_
          refine mj_goto X 24 dX9_alike_75 (by decide) ?_
          refine mj_sub [2, 3, 4, 1, 0] rfl ?_
          have hp : b2i (decide (na = nb) && eqk co a b (i + 1)) = 0 := by rw [eqk, decide_eq_false c63, Bool.and_false, Bool.and_false]; rfl
          refine mj_to (lo' := [(0, .ref o), (1, .int (nI a)), (2, .int (nI b)), (3, .int (b2i (decide (na = nb) && eqk co a b (i + 1)))), (4, .int (nI (i + 1)))]) (by rw [hp]; rfl) rfl rfl rfl ?_
          exact ih (i + 1) hlt32 (by omega)
        · refine mj_iconst X (v := 1) dX9_alike_66 (by decide +kernel) ?_
          refine mj_goto X 71 dX9_alike_67 (by decide) ?_
          refine mj_istore_n X [(3, .int 1), (0, .ref o), (1, .int (nI a)), (2, .int (nI b)), (4, .int (nI i))] dX9_alike_71 rfl (by decide) rfl ?_
          refine mj_iinc X [(4, .int (nI (i + 1))), (3, .int 1), (0, .ref o), (1, .int (nI a)), (2, .int (nI b))] dX9_alike_72 4 rfl (nI_1 i) (by decide) rfl ?_
          refine mj_goto X 24 dX9_alike_75 (by decide) ?_
          refine mj_sub [2, 3, 4, 1, 0] rfl ?_
          have hp : b2i (decide (na = nb) && eqk co a b (i + 1)) = 1 := by rw [eqk, ← Bool.and_assoc, b2i_ne c36, decide_eq_true c63]; rfl
          refine mj_to (lo' := [(0, .ref o), (1, .int (nI a)), (2, .int (nI b)), (3, .int (b2i (decide (na = nb) && eqk co a b (i + 1)))), (4, .int (nI (i + 1)))]) (by rw [hp]; rfl) rfl rfl rfl ?_
          exact ih (i + 1) hlt32 (by omega)
set_option maxHeartbeats 4000000 in
set_option maxRecDepth 100000 in
/--  -/
theorem c_M_alike (l : Launch) (D : va_G) (ca : Nat → ClassId) (M : mw_M) (sz o : Nat) (th sg oc cm li ve fa tr to pz pi : Int32) (si : Nat → Int32) (co : Nat → Int32) (a b na nb : Nat) (ho : M o = some (.inr (9, mdF o th sg oc cm li ve fa tr to pz pi))) (h_si : M (o + 5) = some (.inl (ca 0, 120, .inl si))) (h_co : M (o + 6) = some (.inl (ca 2, 4800, .inl co))) (ha : a < 120) (hb : b < 120) (hsa : si a = nI na) (hsb : si b = nI nb) (hna : na ≤ 40) (hnb : nb ≤ 40) : mw_C wsX9_alike l yX9_alike { frames := 0, cells := 0, slots := 0, locals := 0 } D vwCl (mt ca) [.ref o, .int (nI a), .int (nI b)] M sz (mq_i (fun v9 M' sz' => M' = M ∧ sz' = sz ∧ ((alM co a na b nb ∧ v9 = 1) ∨ (¬ alM co a na b nb ∧ v9 = 0)))) := by
  refine mw_enter (cc := cX9_alike) (maxL := 5) (ret := (some .boolean)) rfl (by decide) (Nat.le_of_ble_eq_true rfl) ?_
  intro p e s m below meth c X hr0 hnm hlt
  refine mj_aload_n X dX9_alike_0 rfl 0 rfl ?_
  refine mj_get X (C := RX9) (T := TX9) (N := 25) (ci := 9) w_M_alike_0 rfl 9 (by decide) w_M_alike_1 ho rfl dX9_alike_1 ?_
  refine mj_iload_n X dX9_alike_4 rfl 1 rfl ?_
  refine mj_iald X 0 (nI na) rfl h_si (vp_in_nI (by omega) (by omega)) (by rw [nI_clamp (by omega)]; exact hsa) dX9_alike_5 ?_
  refine mj_aload_n X dX9_alike_6 rfl 0 rfl ?_
  refine mj_get X (C := RX9) (T := TX9) (N := 25) (ci := 9) w_M_alike_0 rfl 9 (by decide) w_M_alike_1 ho rfl dX9_alike_7 ?_
  refine mj_iload_n X dX9_alike_10 rfl 2 rfl ?_
  refine mj_iald X 0 (nI nb) rfl h_si (vp_in_nI (by omega) (by omega)) (by rw [nI_clamp (by omega)]; exact hsb) dX9_alike_11 ?_
  refine mj_icmp_ne X 19 dX9_alike_12 (by decide) (fun c12 => ?_) (fun c12 => ?_)
  · refine mj_iconst X (v := 0) dX9_alike_19 (by decide +kernel) ?_
    refine mj_istore_n X [(3, .int 0), (0, .ref o), (1, .int (nI a)), (2, .int (nI b))] dX9_alike_20 rfl (by decide) rfl ?_
    refine mj_iconst X (v := 0) dX9_alike_21 (by decide +kernel) ?_
    refine mj_istore X [(4, .int 0), (3, .int 0), (0, .ref o), (1, .int (nI a)), (2, .int (nI b))] dX9_alike_22 (by decide) rfl ?_
    refine mj_sub [2, 3, 4, 1, 0] rfl ?_
    have hp : b2i (decide (na = nb) && eqk co a b 0) = 0 := by rw [decide_eq_false (fun h9 => c12 (by rw [h9]))]; rfl
    refine mj_to (lo' := [(0, .ref o), (1, .int (nI a)), (2, .int (nI b)), (3, .int (b2i (decide (na = nb) && eqk co a b 0))), (4, .int (nI 0))]) (by rw [hp, nI_0]; rfl) rfl rfl rfl ?_
    exact lp_M_alike_24 (l := l) (D := D) (ca := ca) M sz o th sg oc cm li ve fa tr to pz pi si co a b na nb ho h_si h_co ha hb hsa hsb hna hnb X hr0 hnm hlt (na + 1) 0 (by omega) (by omega)
  · refine mj_iconst X (v := 1) dX9_alike_15 (by decide +kernel) ?_
    refine mj_goto X 20 dX9_alike_16 (by decide) ?_
    refine mj_istore_n X [(3, .int 1), (0, .ref o), (1, .int (nI a)), (2, .int (nI b))] dX9_alike_20 rfl (by decide) rfl ?_
    refine mj_iconst X (v := 0) dX9_alike_21 (by decide +kernel) ?_
    refine mj_istore X [(4, .int 0), (3, .int 1), (0, .ref o), (1, .int (nI a)), (2, .int (nI b))] dX9_alike_22 (by decide) rfl ?_
    refine mj_sub [2, 3, 4, 1, 0] rfl ?_
    have hp : b2i (decide (na = nb) && eqk co a b 0) = 1 := by rw [decide_eq_true ((nI_eq (by omega) (by omega)).mp c12)]; rfl
    refine mj_to (lo' := [(0, .ref o), (1, .int (nI a)), (2, .int (nI b)), (3, .int (b2i (decide (na = nb) && eqk co a b 0))), (4, .int (nI 0))]) (by rw [hp, nI_0]; rfl) rfl rfl rfl ?_
    exact lp_M_alike_24 (l := l) (D := D) (ca := ca) M sz o th sg oc cm li ve fa tr to pz pi si co a b na nb ho h_si h_co ha hb hsa hsb hna hnb X hr0 hnm hlt (na + 1) 0 (by omega) (by omega)

