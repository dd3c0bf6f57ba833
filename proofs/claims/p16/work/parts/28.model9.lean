theorem w_M_split_0 : ∀ w ∈ u_ws RX9 TX9 25, w ∈ wsX9_split := by decide +kernel
theorem w_M_split_1 : Cond.fieldLink RX9 142 "PackageRows2Model" "pieces" "I" ∈ wsX9_split := by decide +kernel
theorem w_M_split_2 : Cond.fieldLink RX9 47 "PackageRows2Model" "here" "[Z" ∈ wsX9_split := by decide +kernel
theorem w_M_split_3 : Cond.fieldLink RX9 23 "PackageRows2Model" "size" "[I" ∈ wsX9_split := by decide +kernel
theorem w_M_split_4 : Cond.fieldLink RX9 51 "PackageRows2Model" "joined" "[B" ∈ wsX9_split := by decide +kernel
theorem w_M_split_5 : Cond.fieldLink RX9 139 "PackageRows2Model" "total" "I" ∈ wsX9_split := by decide +kernel
theorem w_M_split_6 : Cond.fieldLink RX9 26 "PackageRows2Model" "content" "[B" ∈ wsX9_split := by decide +kernel
theorem w_M_split_7 : Cond.fieldLink RX9 35 "PackageRows2Model" "many" "[I" ∈ wsX9_split := by decide +kernel
theorem w_M_split_8 : Cond.fieldLink RX9 54 "PackageRows2Model" "thrown" "I" ∈ wsX9_split := by decide +kernel
theorem w_M_split_9 : Cond.fieldLink RX9 132 "PackageRows2Model" "transfer" "Z" ∈ wsX9_split := by decide +kernel
theorem w_M_split_10 : Cond.fieldLink RX9 136 "PackageRows2Model" "pieceSize" "I" ∈ wsX9_split := by decide +kernel
set_option maxHeartbeats 4000000 in
set_option maxRecDepth 100000 in
theorem lp_M_split_142 {l : Launch} {D : va_G} {ca : Nat → ClassId} (M : mw_M) (sz o : Nat) (ve : Nat) (th sg oc cm li fa tr to pz pi : Int32) (mn : Nat → Int32) (si : Nat → Int32) (co : Nat → Int32) (hr : Nat → Int32) (jo : Nat → Int32) (vcn sn : Nat → Nat) (k k2 : Int32) (ho : M o = some (.inr (9, mdF o th sg oc cm li (nI ve) fa tr to pz pi))) (h_mn : M (o + 9) = some (.inl (ca 0, 12, .inl mn))) (h_si : M (o + 5) = some (.inl (ca 0, 120, .inl si))) (h_co : M (o + 6) = some (.inl (ca 2, 4800, .inl co))) (h_hr : M (o + 13) = some (.inl (ca 1, 320, .inl hr))) (h_jo : M (o + 14) = some (.inl (ca 2, 320, .inl jo))) (hve : ve ≤ 12) (hmn : ∀ j, j < ve → mn j = nI (vcn j)) (hvcn : ∀ j, j < ve → vcn j ≤ 8) (hsi : ∀ j t, j < ve → t < vcn j → si (24 + 8 * j + t) = nI (sn (24 + 8 * j + t)) ∧ sn (24 + 8 * j + t) ≤ 40) (hcb : ∀ q, q < 4800 → (co q).toInt8.toInt32 = co q) {p : Program} {e : Env} {s : State} {m : MethodId} {below : List Frame} {meth : Method} {c : Code} (X : mw_X p s m ([.ref o, .int k, .int k2] : List Value).toArray meth c cX9_split 5 yX9_split.cls wsX9_split D vwCl (mt ca)) (hr0 : meth.sig.returnType = (some .int)) (hnm : meth.name = yX9_split.name) (hlt : ∀ (a : Nat) (x : va_E), M a = some x → a < sz) : ∀ (fu : Nat) (j len i : Nat) (J1 h1 : Nat → Int32), j < ve → k = nI j → k2 = nI len → 1 ≤ len → len ≤ 100 → (∀ t9, t9 < (vcn j) → ∀ q, q < sn (24 + 8 * j + t9) → J1 ((szs (fun t9 => sn (24 + 8 * j + t9)) t9) + q) = co (40 * (24 + 8 * j + t9) + q)) → i ≤ (((szs (fun t9 => sn (24 + 8 * j + t9)) (vcn j)) + len - 1) / len) → (((szs (fun t9 => sn (24 + 8 * j + t9)) (vcn j)) + len - 1) / len) < i + fu → (∀ q, q < i → h1 q = 0) → mw_J p l e { frames := 2, cells := 0, slots := 0, locals := 43 } s m ([.ref o, .int k, .int k2] : List Value).toArray below meth c 5 D vwCl (mw_A M sz) (MQ below (mw_Q D vwCl M sz (mq_i (fun v9 M' sz' => (((∀ j, j < ve → k ≠ nI j) ∧ v9 = -1 ∧ M' = mw_u M o (.inr (9, mdF o 0 sg oc cm li (nI ve) fa tr to pz pi))) ∨ (∃ j, j < ve ∧ k = nI j ∧ ((inB k2 1 100 = false ∧ v9 = -2 ∧ M' = mw_u M o (.inr (9, mdF o 0 sg oc cm li (nI ve) fa tr to pz pi))) ∨ (∃ (len : Nat) (J H9 : Nat → Int32), 1 ≤ len ∧ len ≤ 100 ∧ k2 = nI len ∧ v9 = nI (((szs (fun t9 => sn (24 + 8 * j + t9)) (vcn j)) + len - 1) / len) ∧ (∀ t9, t9 < (vcn j) → ∀ q, q < sn (24 + 8 * j + t9) → J ((szs (fun t9 => sn (24 + 8 * j + t9)) t9) + q) = co (40 * (24 + 8 * j + t9) + q)) ∧ (∀ q, q < (((szs (fun t9 => sn (24 + 8 * j + t9)) (vcn j)) + len - 1) / len) → H9 q = 0) ∧ M' = mw_u (mw_u (mw_u M o (.inr (9, mdF o 0 sg oc cm li (nI ve) fa 1 (nI (szs (fun t9 => sn (24 + 8 * j + t9)) (vcn j))) (nI len) (nI (((szs (fun t9 => sn (24 + 8 * j + t9)) (vcn j)) + len - 1) / len))))) (o + 14) (.inl (ca 2, 320, .inl J))) (o + 13) (.inl (ca 1, 320, .inl H9)))))) ∧ sz' = sz))) ([.ref o, .int k, .int k2] : List Value).toArray s 0 0 (mw_A M sz)) 142 [(0, .ref o), (3, .int (nI i))] [] (mw_u (mw_u (mw_u M o (.inr (9, mdF o 0 sg oc cm li (nI ve) fa 1 (nI (szs (fun t9 => sn (24 + 8 * j + t9)) (vcn j))) (nI len) (nI (((szs (fun t9 => sn (24 + 8 * j + t9)) (vcn j)) + len - 1) / len))))) (o + 14) (.inl (ca 2, 320, .inl J1))) (o + 13) (.inl (ca 1, 320, .inl h1))) sz 0 0 := by
  intro fu
  induction fu with
  | zero => intro j len i J1 h1 a1 a2 a3 a4 a5 a6 a7 a8; omega
  | succ fu ih =>
    intro j len i J1 h1 hj ek9 ek29 hl1 hl2 hJ hi hfu hall
    have h8 := hvcn j hj
    have hszb : ∀ t, t ≤ vcn j → (szs (fun t9 => sn (24 + 8 * j + t9)) t) ≤ 40 * t := fun t ht => szs_le (k := vcn j) (fun q hq => (hsi j q hj hq).2) t ht
    have hT := hszb (vcn j) (Nat.le_refl _)
    have hP := pieces_le hl1 (show (szs (fun t9 => sn (24 + 8 * j + t9)) (vcn j)) ≤ 320 by omega)
    refine mj_iload_n X dX9_split_142 rfl 1 rfl ?_
    refine mj_aload_n X dX9_split_143 rfl 0 rfl ?_
    have f1_ := mw_us (M := M) (a := o) (e := (.inr (9, mdF o 0 sg oc cm li (nI ve) fa 1 (nI (szs (fun t9 => sn (24 + 8 * j + t9)) (vcn j))) (nI len) (nI (((szs (fun t9 => sn (24 + 8 * j + t9)) (vcn j)) + len - 1) / len)))))
    have f2_ := (mw_un (M := (mw_u M o (.inr (9, mdF o 0 sg oc cm li (nI ve) fa 1 (nI (szs (fun t9 => sn (24 + 8 * j + t9)) (vcn j))) (nI len) (nI (((szs (fun t9 => sn (24 + 8 * j + t9)) (vcn j)) + len - 1) / len)))))) (e := (.inl (ca 2, 320, .inl J1))) (show o ≠ o + 14 by omega)).trans f1_
    have f3_ := (mw_un (M := (mw_u (mw_u M o (.inr (9, mdF o 0 sg oc cm li (nI ve) fa 1 (nI (szs (fun t9 => sn (24 + 8 * j + t9)) (vcn j))) (nI len) (nI (((szs (fun t9 => sn (24 + 8 * j + t9)) (vcn j)) + len - 1) / len))))) (o + 14) (.inl (ca 2, 320, .inl J1)))) (e := (.inl (ca 1, 320, .inl h1))) (show o ≠ o + 13 by omega)).trans f2_
    refine mj_get X (C := RX9) (T := TX9) (N := 25) (ci := 9) w_M_split_0 rfl 22 (by decide) w_M_split_1 f3_ rfl dX9_split_144 ?_
    refine mj_icmp_ge X 163 dX9_split_147 (by decide) (fun c147 => ?_) (fun c147 => ?_)
    · refine mj_aload_n X dX9_split_163 rfl 0 rfl ?_
      refine mj_get X (C := RX9) (T := TX9) (N := 25) (ci := 9) w_M_split_0 rfl 22 (by decide) w_M_split_1 f3_ rfl dX9_split_164 ?_
      refine mj_iret X hr0 (by decide) (by decide) dX9_split_167 ?_
      have e9 : i = (((szs (fun t9 => sn (24 + 8 * j + t9)) (vcn j)) + len - 1) / len) := by have h9 := (nI_leI (by omega) (by omega)).mp c147; omega
      exact ⟨_, rfl, Or.inr ⟨j, hj, ek9, Or.inr ⟨len, J1, h1, hl1, hl2, ek29, rfl, hJ, fun q hq => hall q (by omega), rfl⟩⟩, rfl⟩
    · have hlt147 : i < (((szs (fun t9 => sn (24 + 8 * j + t9)) (vcn j)) + len - 1) / len) := Nat.not_le.mp (fun h9 => c147 (nI_le h9 (by omega)))
      refine mj_aload_n X dX9_split_150 rfl 0 rfl ?_
      refine mj_get X (C := RX9) (T := TX9) (N := 25) (ci := 9) w_M_split_0 rfl 23 (by decide) w_M_split_2 f3_ rfl dX9_split_151 ?_
      refine mj_iload_n X dX9_split_154 rfl 1 rfl ?_
      refine mj_iconst X (v := 0) dX9_split_155 (by decide +kernel) ?_
      have f4_ := (mw_un (M := M) (e := (.inr (9, mdF o 0 sg oc cm li (nI ve) fa 1 (nI (szs (fun t9 => sn (24 + 8 * j + t9)) (vcn j))) (nI len) (nI (((szs (fun t9 => sn (24 + 8 * j + t9)) (vcn j)) + len - 1) / len))))) (show o + 13 ≠ o by omega)).trans h_hr
      have f5_ := (mw_un (M := (mw_u M o (.inr (9, mdF o 0 sg oc cm li (nI ve) fa 1 (nI (szs (fun t9 => sn (24 + 8 * j + t9)) (vcn j))) (nI len) (nI (((szs (fun t9 => sn (24 + 8 * j + t9)) (vcn j)) + len - 1) / len)))))) (e := (.inl (ca 2, 320, .inl J1))) (show o + 13 ≠ o + 14 by omega)).trans f4_
      have f6_ := mw_us (M := (mw_u (mw_u M o (.inr (9, mdF o 0 sg oc cm li (nI ve) fa 1 (nI (szs (fun t9 => sn (24 + 8 * j + t9)) (vcn j))) (nI len) (nI (((szs (fun t9 => sn (24 + 8 * j + t9)) (vcn j)) + len - 1) / len))))) (o + 14) (.inl (ca 2, 320, .inl J1)))) (a := (o + 13)) (e := (.inl (ca 1, 320, .inl h1)))
      refine mj_zast X 1 i rfl f6_ (vp_in_nI (by omega) (by omega)) (nI_clamp (by omega)) dX9_split_156 ?_
      refine mj_iinc X [(3, .int (nI (i + 1))), (0, .ref o)] dX9_split_157 1 rfl (nI_1 i) (by decide) rfl ?_
      refine mj_goto X 142 dX9_split_160 (by decide) ?_
      refine mj_sub [1, 0] rfl ?_
      refine mj_to rfl rfl mw_uu rfl ?_
      rw [show vp_nar .boolean 0 = 0 by decide]
      refine ih j len (i + 1) J1 _ hj ek9 ek29 hl1 hl2 hJ hlt147 (by omega) (fun q hq => ?_)
      rcases Nat.lt_or_ge q i with q9 | q9
      · rw [pk_un (by omega)]; exact hall q q9
      · rw [show q = i by omega]; exact pk_us
set_option maxHeartbeats 4000000 in
set_option maxRecDepth 100000 in
theorem lp_M_split_72 {l : Launch} {D : va_G} {ca : Nat → ClassId} (M : mw_M) (sz o : Nat) (ve : Nat) (th sg oc cm li fa tr to pz pi : Int32) (mn : Nat → Int32) (si : Nat → Int32) (co : Nat → Int32) (hr : Nat → Int32) (jo : Nat → Int32) (vcn sn : Nat → Nat) (k k2 : Int32) (ho : M o = some (.inr (9, mdF o th sg oc cm li (nI ve) fa tr to pz pi))) (h_mn : M (o + 9) = some (.inl (ca 0, 12, .inl mn))) (h_si : M (o + 5) = some (.inl (ca 0, 120, .inl si))) (h_co : M (o + 6) = some (.inl (ca 2, 4800, .inl co))) (h_hr : M (o + 13) = some (.inl (ca 1, 320, .inl hr))) (h_jo : M (o + 14) = some (.inl (ca 2, 320, .inl jo))) (hve : ve ≤ 12) (hmn : ∀ j, j < ve → mn j = nI (vcn j)) (hvcn : ∀ j, j < ve → vcn j ≤ 8) (hsi : ∀ j t, j < ve → t < vcn j → si (24 + 8 * j + t) = nI (sn (24 + 8 * j + t)) ∧ sn (24 + 8 * j + t) ≤ 40) (hcb : ∀ q, q < 4800 → (co q).toInt8.toInt32 = co q) {p : Program} {e : Env} {s : State} {m : MethodId} {below : List Frame} {meth : Method} {c : Code} (X : mw_X p s m ([.ref o, .int k, .int k2] : List Value).toArray meth c cX9_split 5 yX9_split.cls wsX9_split D vwCl (mt ca)) (hr0 : meth.sig.returnType = (some .int)) (hnm : meth.name = yX9_split.name) (hlt : ∀ (a : Nat) (x : va_E), M a = some x → a < sz) : ∀ (fu : Nat) (j t len cc9 : Nat) (J1 : Nat → Int32), j < ve → t < vcn j → 1 ≤ len → len ≤ 100 → cc9 ≤ sn (24 + 8 * j + t) → sn (24 + 8 * j + t) < cc9 + fu → (∀ t9, t9 < t → ∀ q, q < sn (24 + 8 * j + t9) → J1 ((szs (fun t9 => sn (24 + 8 * j + t9)) t9) + q) = co (40 * (24 + 8 * j + t9) + q)) → (∀ q, q < cc9 → J1 ((szs (fun t9 => sn (24 + 8 * j + t9)) t) + q) = co (40 * (24 + 8 * j + t) + q)) → (∀ J' : Nat → Int32, (∀ t9, t9 < (t + 1) → ∀ q, q < sn (24 + 8 * j + t9) → J' ((szs (fun t9 => sn (24 + 8 * j + t9)) t9) + q) = co (40 * (24 + 8 * j + t9) + q)) → mw_J p l e { frames := 2, cells := 0, slots := 0, locals := 43 } s m ([.ref o, .int k, .int k2] : List Value).toArray below meth c 5 D vwCl (mw_A M sz) (MQ below (mw_Q D vwCl M sz (mq_i (fun v9 M' sz' => (((∀ j, j < ve → k ≠ nI j) ∧ v9 = -1 ∧ M' = mw_u M o (.inr (9, mdF o 0 sg oc cm li (nI ve) fa tr to pz pi))) ∨ (∃ j, j < ve ∧ k = nI j ∧ ((inB k2 1 100 = false ∧ v9 = -2 ∧ M' = mw_u M o (.inr (9, mdF o 0 sg oc cm li (nI ve) fa tr to pz pi))) ∨ (∃ (len : Nat) (J H9 : Nat → Int32), 1 ≤ len ∧ len ≤ 100 ∧ k2 = nI len ∧ v9 = nI (((szs (fun t9 => sn (24 + 8 * j + t9)) (vcn j)) + len - 1) / len) ∧ (∀ t9, t9 < (vcn j) → ∀ q, q < sn (24 + 8 * j + t9) → J ((szs (fun t9 => sn (24 + 8 * j + t9)) t9) + q) = co (40 * (24 + 8 * j + t9) + q)) ∧ (∀ q, q < (((szs (fun t9 => sn (24 + 8 * j + t9)) (vcn j)) + len - 1) / len) → H9 q = 0) ∧ M' = mw_u (mw_u (mw_u M o (.inr (9, mdF o 0 sg oc cm li (nI ve) fa 1 (nI (szs (fun t9 => sn (24 + 8 * j + t9)) (vcn j))) (nI len) (nI (((szs (fun t9 => sn (24 + 8 * j + t9)) (vcn j)) + len - 1) / len))))) (o + 14) (.inl (ca 2, 320, .inl J))) (o + 13) (.inl (ca 1, 320, .inl H9)))))) ∧ sz' = sz))) ([.ref o, .int k, .int k2] : List Value).toArray s 0 0 (mw_A M sz)) 51 [(0, .ref o), (1, .int (nI j)), (2, .int (nI len)), (3, .int (nI (24 + 8 * j + (t + 1))))] [] (mw_u (mw_u M o (.inr (9, mdF o 0 sg oc cm li (nI ve) fa 1 (nI (szs (fun t9 => sn (24 + 8 * j + t9)) (t + 1))) (nI len) pi))) (o + 14) (.inl (ca 2, 320, .inl J'))) sz 0 0) → mw_J p l e { frames := 2, cells := 0, slots := 0, locals := 43 } s m ([.ref o, .int k, .int k2] : List Value).toArray below meth c 5 D vwCl (mw_A M sz) (MQ below (mw_Q D vwCl M sz (mq_i (fun v9 M' sz' => (((∀ j, j < ve → k ≠ nI j) ∧ v9 = -1 ∧ M' = mw_u M o (.inr (9, mdF o 0 sg oc cm li (nI ve) fa tr to pz pi))) ∨ (∃ j, j < ve ∧ k = nI j ∧ ((inB k2 1 100 = false ∧ v9 = -2 ∧ M' = mw_u M o (.inr (9, mdF o 0 sg oc cm li (nI ve) fa tr to pz pi))) ∨ (∃ (len : Nat) (J H9 : Nat → Int32), 1 ≤ len ∧ len ≤ 100 ∧ k2 = nI len ∧ v9 = nI (((szs (fun t9 => sn (24 + 8 * j + t9)) (vcn j)) + len - 1) / len) ∧ (∀ t9, t9 < (vcn j) → ∀ q, q < sn (24 + 8 * j + t9) → J ((szs (fun t9 => sn (24 + 8 * j + t9)) t9) + q) = co (40 * (24 + 8 * j + t9) + q)) ∧ (∀ q, q < (((szs (fun t9 => sn (24 + 8 * j + t9)) (vcn j)) + len - 1) / len) → H9 q = 0) ∧ M' = mw_u (mw_u (mw_u M o (.inr (9, mdF o 0 sg oc cm li (nI ve) fa 1 (nI (szs (fun t9 => sn (24 + 8 * j + t9)) (vcn j))) (nI len) (nI (((szs (fun t9 => sn (24 + 8 * j + t9)) (vcn j)) + len - 1) / len))))) (o + 14) (.inl (ca 2, 320, .inl J))) (o + 13) (.inl (ca 1, 320, .inl H9)))))) ∧ sz' = sz))) ([.ref o, .int k, .int k2] : List Value).toArray s 0 0 (mw_A M sz)) 72 [(0, .ref o), (1, .int (nI j)), (2, .int (nI len)), (3, .int (nI (24 + 8 * j + t))), (4, .int (nI cc9))] [] (mw_u (mw_u M o (.inr (9, mdF o 0 sg oc cm li (nI ve) fa 1 (nI ((szs (fun t9 => sn (24 + 8 * j + t9)) t) + cc9)) (nI len) pi))) (o + 14) (.inl (ca 2, 320, .inl J1))) sz 0 0 := by
  intro fu
  induction fu with
  | zero => intro j t len cc9 J1 h1 h2 h3 h4 h5 h6; omega
  | succ fu ih =>
    intro j t len cc9 J1 hj ht hl1 hl2 hc hfu hJ hJ2 hcont
    have h8 := hvcn j hj
    have hszb : ∀ t, t ≤ vcn j → (szs (fun t9 => sn (24 + 8 * j + t9)) t) ≤ 40 * t := fun t ht => szs_le (k := vcn j) (fun q hq => (hsi j q hj hq).2) t ht
    have hT := hszb t (by omega)
    have h40 := (hsi j t hj ht).2
    refine mj_iload X dX9_split_72 4 rfl ?_
    refine mj_aload_n X dX9_split_74 rfl 0 rfl ?_
    have f7_ := mw_us (M := M) (a := o) (e := (.inr (9, mdF o 0 sg oc cm li (nI ve) fa 1 (nI ((szs (fun t9 => sn (24 + 8 * j + t9)) t) + cc9)) (nI len) pi)))
    have f8_ := (mw_un (M := (mw_u M o (.inr (9, mdF o 0 sg oc cm li (nI ve) fa 1 (nI ((szs (fun t9 => sn (24 + 8 * j + t9)) t) + cc9)) (nI len) pi)))) (e := (.inl (ca 2, 320, .inl J1))) (show o ≠ o + 14 by omega)).trans f7_
    refine mj_get X (C := RX9) (T := TX9) (N := 25) (ci := 9) w_M_split_0 rfl 9 (by decide) w_M_split_3 f8_ rfl dX9_split_75 ?_
    refine mj_iload_n X dX9_split_78 rfl 3 rfl ?_
    have f9_ := (mw_un (M := M) (e := (.inr (9, mdF o 0 sg oc cm li (nI ve) fa 1 (nI ((szs (fun t9 => sn (24 + 8 * j + t9)) t) + cc9)) (nI len) pi))) (show o + 5 ≠ o by omega)).trans h_si
    have f10_ := (mw_un (M := (mw_u M o (.inr (9, mdF o 0 sg oc cm li (nI ve) fa 1 (nI ((szs (fun t9 => sn (24 + 8 * j + t9)) t) + cc9)) (nI len) pi)))) (e := (.inl (ca 2, 320, .inl J1))) (show o + 5 ≠ o + 14 by omega)).trans f9_
    refine mj_iald X 0 (nI (sn (24 + 8 * j + t))) rfl f10_ (vp_in_nI (by omega) (by omega)) (by rw [nI_clamp (by omega)]; exact (hsi j t hj ht).1) dX9_split_79 ?_
    refine mj_icmp_ge X 120 dX9_split_80 (by decide) (fun c80 => ?_) (fun c80 => ?_)
    · refine mj_iinc X [(3, .int (nI ((24 + 8 * j + t) + 1))), (0, .ref o), (1, .int (nI j)), (2, .int (nI len)), (4, .int (nI cc9))] dX9_split_120 3 rfl (nI_1 (24 + 8 * j + t)) (by decide) rfl ?_
      refine mj_goto X 51 dX9_split_123 (by decide) ?_
      refine mj_sub [1, 2, 3, 0] rfl ?_
      have e9 : cc9 = sn (24 + 8 * j + t) := by have h9 := (nI_leI (by omega) (by omega)).mp c80; omega
      refine mj_to (M' := mw_u (mw_u M o (.inr (9, mdF o 0 sg oc cm li (nI ve) fa 1 (nI (szs (fun t9 => sn (24 + 8 * j + t9)) (t + 1))) (nI len) pi))) (o + 14) (.inl (ca 2, 320, .inl J1))) rfl rfl (by rw [e9]; rfl) rfl ?_
      refine hcont J1 (fun t9 ht9 q hq => ?_)
      rcases Nat.lt_or_ge t9 t with q9 | q9
      · exact hJ t9 q9 q hq
      · have e8 : t9 = t := by omega
        subst e8; exact hJ2 q (by omega)
    · have hlt80 : cc9 < sn (24 + 8 * j + t) := Nat.not_le.mp (fun h9 => c80 (nI_le h9 (by omega)))
      refine mj_aload_n X dX9_split_83 rfl 0 rfl ?_
      refine mj_get X (C := RX9) (T := TX9) (N := 25) (ci := 9) w_M_split_0 rfl 24 (by decide) w_M_split_4 f8_ rfl dX9_split_84 ?_
      refine mj_aload_n X dX9_split_87 rfl 0 rfl ?_
      refine mj_get X (C := RX9) (T := TX9) (N := 25) (ci := 9) w_M_split_0 rfl 20 (by decide) w_M_split_5 f8_ rfl dX9_split_88 ?_
      refine mj_aload_n X dX9_split_91 rfl 0 rfl ?_
      refine mj_get X (C := RX9) (T := TX9) (N := 25) (ci := 9) w_M_split_0 rfl 10 (by decide) w_M_split_6 f8_ rfl dX9_split_92 ?_
      refine mj_bipush X (v := 40) dX9_split_95 (by decide +kernel) ?_
      refine mj_iload_n X dX9_split_97 rfl 3 rfl ?_
      refine mj_imul X dX9_split_98 ?_
      refine mj_top (nI (40 * (24 + 8 * j + t))) (show nI 40 * nI (24 + 8 * j + t) = _ from pk_mul 40 (24 + 8 * j + t)) ?_
      refine mj_iload X dX9_split_99 4 rfl ?_
      refine mj_iadd X dX9_split_101 ?_
      refine mj_top (nI (40 * (24 + 8 * j + t) + cc9)) (nI_add _ _) ?_
      have f11_ := (mw_un (M := M) (e := (.inr (9, mdF o 0 sg oc cm li (nI ve) fa 1 (nI ((szs (fun t9 => sn (24 + 8 * j + t9)) t) + cc9)) (nI len) pi))) (show o + 6 ≠ o by omega)).trans h_co
      have f12_ := (mw_un (M := (mw_u M o (.inr (9, mdF o 0 sg oc cm li (nI ve) fa 1 (nI ((szs (fun t9 => sn (24 + 8 * j + t9)) t) + cc9)) (nI len) pi)))) (e := (.inl (ca 2, 320, .inl J1))) (show o + 6 ≠ o + 14 by omega)).trans f11_
      refine mj_bald X 2 (co (40 * (24 + 8 * j + t) + cc9)) rfl f12_ (vp_in_nI (by omega) (by omega)) (by rw [nI_clamp (by omega)]) dX9_split_102 ?_
      have f13_ := (mw_un (M := M) (e := (.inr (9, mdF o 0 sg oc cm li (nI ve) fa 1 (nI ((szs (fun t9 => sn (24 + 8 * j + t9)) t) + cc9)) (nI len) pi))) (show o + 14 ≠ o by omega)).trans h_jo
      have f14_ := mw_us (M := (mw_u M o (.inr (9, mdF o 0 sg oc cm li (nI ve) fa 1 (nI ((szs (fun t9 => sn (24 + 8 * j + t9)) t) + cc9)) (nI len) pi)))) (a := (o + 14)) (e := (.inl (ca 2, 320, .inl J1)))
      refine mj_bast X 2 ((szs (fun t9 => sn (24 + 8 * j + t9)) t) + cc9) rfl f14_ (vp_in_nI (by omega) (by omega)) (nI_clamp (by omega)) dX9_split_103 ?_
      refine mj_aload_n X dX9_split_104 rfl 0 rfl ?_
      refine mj_dup X dX9_split_105 rfl ?_
      have f15_ := (mw_un (M := (mw_u (mw_u M o (.inr (9, mdF o 0 sg oc cm li (nI ve) fa 1 (nI ((szs (fun t9 => sn (24 + 8 * j + t9)) t) + cc9)) (nI len) pi))) (o + 14) (.inl (ca 2, 320, .inl J1)))) (e := (.inl (ca 2, 320, .inl (upd J1 ((szs (fun t9 => sn (24 + 8 * j + t9)) t) + cc9) (vp_nar .byte (co (40 * (24 + 8 * j + t) + cc9))))))) (show o ≠ o + 14 by omega)).trans f8_
      refine mj_get X (C := RX9) (T := TX9) (N := 25) (ci := 9) w_M_split_0 rfl 20 (by decide) w_M_split_5 f15_ rfl dX9_split_106 ?_
      refine mj_iconst X (v := 1) dX9_split_109 (by decide +kernel) ?_
      refine mj_iadd X dX9_split_110 ?_
      refine mj_top (nI ((szs (fun t9 => sn (24 + 8 * j + t9)) t) + (cc9 + 1))) (nI_1 _) ?_
      refine mj_put X (C := RX9) (T := TX9) (N := 25) (ci := 9) (v := .int (nI ((szs (fun t9 => sn (24 + 8 * j + t9)) t) + (cc9 + 1)))) tyX9 w_M_split_0 tyX9_ok nmX9 rfl 20 (by decide) w_M_split_5 rfl f15_ (mdF o 0 sg oc cm li (nI ve) fa 1 (nI ((szs (fun t9 => sn (24 + 8 * j + t9)) t) + (cc9 + 1))) (nI len) pi) (Nat.le_of_ble_eq_true rfl) rfl rfl rfl rfl dX9_split_111 ?_
      refine mj_iinc X [(4, .int (nI (cc9 + 1))), (0, .ref o), (1, .int (nI j)), (2, .int (nI len)), (3, .int (nI (24 + 8 * j + t)))] dX9_split_114 4 rfl (nI_1 cc9) (by decide) rfl ?_
      refine mj_goto X 72 dX9_split_117 (by decide) ?_
      refine mj_sub [1, 2, 3, 4, 0] rfl ?_
      refine mj_to (M' := mw_u (mw_u M o (.inr (9, mdF o 0 sg oc cm li (nI ve) fa 1 (nI ((szs (fun t9 => sn (24 + 8 * j + t9)) t) + (cc9 + 1))) (nI len) pi))) (o + 14) (.inl (ca 2, 320, .inl (upd J1 ((szs (fun t9 => sn (24 + 8 * j + t9)) t) + cc9) (co (40 * (24 + 8 * j + t) + cc9)))))) rfl rfl (by rw [mw_uu, mw_ux (by omega), mw_uu, show vp_nar .byte (co (40 * (24 + 8 * j + t) + cc9)) = co (40 * (24 + 8 * j + t) + cc9) by rw [vp_nar_byte]; exact hcb _ (by omega)]; try rfl) rfl ?_
      refine ih j t len (cc9 + 1) _ hj ht hl1 hl2 hlt80 (by omega) (fun t9 ht9 q hq => ?_) (fun q hq => ?_) hcont
      · have hm := szs_mono (z := fun t9 => sn (24 + 8 * j + t9)) (show t9 + 1 ≤ t by omega)
        simp only [szs] at hm
        rw [pk_un (by omega)]; exact hJ t9 ht9 q hq
      · rcases Nat.lt_or_ge q cc9 with q9 | q9
        · rw [pk_un (by omega)]; exact hJ2 q q9
        · rw [show q = cc9 by omega]; exact pk_us
set_option maxHeartbeats 4000000 in
set_option maxRecDepth 100000 in
theorem lp_M_split_51 {l : Launch} {D : va_G} {ca : Nat → ClassId} (M : mw_M) (sz o : Nat) (ve : Nat) (th sg oc cm li fa tr to pz pi : Int32) (mn : Nat → Int32) (si : Nat → Int32) (co : Nat → Int32) (hr : Nat → Int32) (jo : Nat → Int32) (vcn sn : Nat → Nat) (k k2 : Int32) (ho : M o = some (.inr (9, mdF o th sg oc cm li (nI ve) fa tr to pz pi))) (h_mn : M (o + 9) = some (.inl (ca 0, 12, .inl mn))) (h_si : M (o + 5) = some (.inl (ca 0, 120, .inl si))) (h_co : M (o + 6) = some (.inl (ca 2, 4800, .inl co))) (h_hr : M (o + 13) = some (.inl (ca 1, 320, .inl hr))) (h_jo : M (o + 14) = some (.inl (ca 2, 320, .inl jo))) (hve : ve ≤ 12) (hmn : ∀ j, j < ve → mn j = nI (vcn j)) (hvcn : ∀ j, j < ve → vcn j ≤ 8) (hsi : ∀ j t, j < ve → t < vcn j → si (24 + 8 * j + t) = nI (sn (24 + 8 * j + t)) ∧ sn (24 + 8 * j + t) ≤ 40) (hcb : ∀ q, q < 4800 → (co q).toInt8.toInt32 = co q) {p : Program} {e : Env} {s : State} {m : MethodId} {below : List Frame} {meth : Method} {c : Code} (X : mw_X p s m ([.ref o, .int k, .int k2] : List Value).toArray meth c cX9_split 5 yX9_split.cls wsX9_split D vwCl (mt ca)) (hr0 : meth.sig.returnType = (some .int)) (hnm : meth.name = yX9_split.name) (hlt : ∀ (a : Nat) (x : va_E), M a = some x → a < sz) : ∀ (fu : Nat) (j len t : Nat) (J1 : Nat → Int32), j < ve → k = nI j → k2 = nI len → 1 ≤ len → len ≤ 100 → t ≤ vcn j → vcn j < t + fu → (∀ t9, t9 < t → ∀ q, q < sn (24 + 8 * j + t9) → J1 ((szs (fun t9 => sn (24 + 8 * j + t9)) t9) + q) = co (40 * (24 + 8 * j + t9) + q)) → mw_J p l e { frames := 2, cells := 0, slots := 0, locals := 43 } s m ([.ref o, .int k, .int k2] : List Value).toArray below meth c 5 D vwCl (mw_A M sz) (MQ below (mw_Q D vwCl M sz (mq_i (fun v9 M' sz' => (((∀ j, j < ve → k ≠ nI j) ∧ v9 = -1 ∧ M' = mw_u M o (.inr (9, mdF o 0 sg oc cm li (nI ve) fa tr to pz pi))) ∨ (∃ j, j < ve ∧ k = nI j ∧ ((inB k2 1 100 = false ∧ v9 = -2 ∧ M' = mw_u M o (.inr (9, mdF o 0 sg oc cm li (nI ve) fa tr to pz pi))) ∨ (∃ (len : Nat) (J H9 : Nat → Int32), 1 ≤ len ∧ len ≤ 100 ∧ k2 = nI len ∧ v9 = nI (((szs (fun t9 => sn (24 + 8 * j + t9)) (vcn j)) + len - 1) / len) ∧ (∀ t9, t9 < (vcn j) → ∀ q, q < sn (24 + 8 * j + t9) → J ((szs (fun t9 => sn (24 + 8 * j + t9)) t9) + q) = co (40 * (24 + 8 * j + t9) + q)) ∧ (∀ q, q < (((szs (fun t9 => sn (24 + 8 * j + t9)) (vcn j)) + len - 1) / len) → H9 q = 0) ∧ M' = mw_u (mw_u (mw_u M o (.inr (9, mdF o 0 sg oc cm li (nI ve) fa 1 (nI (szs (fun t9 => sn (24 + 8 * j + t9)) (vcn j))) (nI len) (nI (((szs (fun t9 => sn (24 + 8 * j + t9)) (vcn j)) + len - 1) / len))))) (o + 14) (.inl (ca 2, 320, .inl J))) (o + 13) (.inl (ca 1, 320, .inl H9)))))) ∧ sz' = sz))) ([.ref o, .int k, .int k2] : List Value).toArray s 0 0 (mw_A M sz)) 51 [(0, .ref o), (1, .int (nI j)), (2, .int (nI len)), (3, .int (nI (24 + 8 * j + t)))] [] (mw_u (mw_u M o (.inr (9, mdF o 0 sg oc cm li (nI ve) fa 1 (nI (szs (fun t9 => sn (24 + 8 * j + t9)) t)) (nI len) pi))) (o + 14) (.inl (ca 2, 320, .inl J1))) sz 0 0 := by
  intro fu
  induction fu with
  | zero => intro j len t J1 h1 h2 h3 h4 h5 h6 h7; omega
  | succ fu ih =>
    intro j len t J1 hj ek9 ek29 hl1 hl2 ht1 hfu hJ
    have h8 := hvcn j hj
    have hszb : ∀ t, t ≤ vcn j → (szs (fun t9 => sn (24 + 8 * j + t9)) t) ≤ 40 * t := fun t ht => szs_le (k := vcn j) (fun q hq => (hsi j q hj hq).2) t ht
    refine mj_iload_n X dX9_split_51 rfl 3 rfl ?_
    refine mj_bipush X (v := 24) dX9_split_52 (by decide +kernel) ?_
    refine mj_bipush X (v := 8) dX9_split_54 (by decide +kernel) ?_
    refine mj_iload_n X dX9_split_56 rfl 1 rfl ?_
    refine mj_imul X dX9_split_57 ?_
    refine mj_top (nI (8 * j)) (show nI 8 * nI j = _ from pk_mul 8 j) ?_
    refine mj_iadd X dX9_split_58 ?_
    refine mj_top (nI (24 + 8 * j)) (show nI 24 + nI _ = _ from nI_add _ _) ?_
    refine mj_aload_n X dX9_split_59 rfl 0 rfl ?_
    have f16_ := mw_us (M := M) (a := o) (e := (.inr (9, mdF o 0 sg oc cm li (nI ve) fa 1 (nI (szs (fun t9 => sn (24 + 8 * j + t9)) t)) (nI len) pi)))
    have f17_ := (mw_un (M := (mw_u M o (.inr (9, mdF o 0 sg oc cm li (nI ve) fa 1 (nI (szs (fun t9 => sn (24 + 8 * j + t9)) t)) (nI len) pi)))) (e := (.inl (ca 2, 320, .inl J1))) (show o ≠ o + 14 by omega)).trans f16_
    refine mj_get X (C := RX9) (T := TX9) (N := 25) (ci := 9) w_M_split_0 rfl 14 (by decide) w_M_split_7 f17_ rfl dX9_split_60 ?_
    refine mj_iload_n X dX9_split_63 rfl 1 rfl ?_
    have f18_ := (mw_un (M := M) (e := (.inr (9, mdF o 0 sg oc cm li (nI ve) fa 1 (nI (szs (fun t9 => sn (24 + 8 * j + t9)) t)) (nI len) pi))) (show o + 9 ≠ o by omega)).trans h_mn
    have f19_ := (mw_un (M := (mw_u M o (.inr (9, mdF o 0 sg oc cm li (nI ve) fa 1 (nI (szs (fun t9 => sn (24 + 8 * j + t9)) t)) (nI len) pi)))) (e := (.inl (ca 2, 320, .inl J1))) (show o + 9 ≠ o + 14 by omega)).trans f18_
    refine mj_iald X 0 (nI (vcn j)) rfl f19_ (vp_in_nI (by omega) (by omega)) (by rw [nI_clamp (by omega)]; exact hmn j hj) dX9_split_64 ?_
    refine mj_iadd X dX9_split_65 ?_
    refine mj_top (nI (24 + 8 * j + vcn j)) (nI_add _ _) ?_
    refine mj_icmp_ge X 126 dX9_split_66 (by decide) (fun c66 => ?_) (fun c66 => ?_)
    · refine mj_aload_n X dX9_split_126 rfl 0 rfl ?_
      refine mj_aload_n X dX9_split_127 rfl 0 rfl ?_
      refine mj_get X (C := RX9) (T := TX9) (N := 25) (ci := 9) w_M_split_0 rfl 20 (by decide) w_M_split_5 f17_ rfl dX9_split_128 ?_
      refine mj_iload_n X dX9_split_131 rfl 2 rfl ?_
      refine mj_iadd X dX9_split_132 ?_
      refine mj_top (nI ((szs (fun t9 => sn (24 + 8 * j + t9)) t) + len)) (nI_add _ _) ?_
      refine mj_iconst X (v := 1) dX9_split_133 (by decide +kernel) ?_
      refine mj_isub X dX9_split_134 ?_
      refine mj_top (nI ((szs (fun t9 => sn (24 + 8 * j + t9)) t) + len - 1)) (show nI _ - nI 1 = _ from pk_sub (by omega)) ?_
      refine mj_iload_n X dX9_split_135 rfl 2 rfl ?_
      refine mj_idiv X (nI_ne0 (by omega) (by omega)) dX9_split_136 ?_
      refine mj_top (nI (((szs (fun t9 => sn (24 + 8 * j + t9)) (vcn j)) + len - 1) / len)) (by have h9 : t = vcn j := (by have h9 := (nI_leI (by omega) (by omega)).mp c66; omega); have hT := hszb t ht1; rw [← h9]; exact pk_div (by omega) (by omega) (by omega)) ?_
      refine mj_put X (C := RX9) (T := TX9) (N := 25) (ci := 9) (v := .int (nI (((szs (fun t9 => sn (24 + 8 * j + t9)) (vcn j)) + len - 1) / len))) tyX9 w_M_split_0 tyX9_ok nmX9 rfl 22 (by decide) w_M_split_1 rfl f17_ (mdF o 0 sg oc cm li (nI ve) fa 1 (nI (szs (fun t9 => sn (24 + 8 * j + t9)) t)) (nI len) (nI (((szs (fun t9 => sn (24 + 8 * j + t9)) (vcn j)) + len - 1) / len))) (Nat.le_of_ble_eq_true rfl) rfl rfl rfl rfl dX9_split_137 ?_
      refine mj_iconst X (v := 0) dX9_split_140 (by decide +kernel) ?_
      refine mj_istore_n X [(3, .int 0), (0, .ref o), (1, .int (nI j)), (2, .int (nI len))] dX9_split_141 rfl (by decide) rfl ?_
      refine mj_sub [1, 0] rfl ?_
      have e9 : t = vcn j := by have h9 := (nI_leI (by omega) (by omega)).mp c66; omega
      have hT := hszb t ht1
      refine mj_to (M' := mw_u (mw_u (mw_u M o (.inr (9, mdF o 0 sg oc cm li (nI ve) fa 1 (nI (szs (fun t9 => sn (24 + 8 * j + t9)) (vcn j))) (nI len) (nI (((szs (fun t9 => sn (24 + 8 * j + t9)) (vcn j)) + len - 1) / len))))) (o + 14) (.inl (ca 2, 320, .inl J1))) (o + 13) (.inl (ca 1, 320, .inl hr))) rfl rfl (by rw [mw_ux (by omega), mw_uu, e9]; exact (mw_self ((mw_un (by omega)).trans ((mw_un (by omega)).trans h_hr))).symm) rfl ?_
      rw [← nI_0]
      exact lp_M_split_142 (l := l) (D := D) (ca := ca) M sz o ve th sg oc cm li fa tr to pz pi mn si co hr jo vcn sn k k2 ho h_mn h_si h_co h_hr h_jo hve hmn hvcn hsi hcb X hr0 hnm hlt ((((szs (fun t9 => sn (24 + 8 * j + t9)) (vcn j)) + len - 1) / len) + 1) j len 0 J1 hr hj ek9 ek29 hl1 hl2 (e9 ▸ hJ) (Nat.zero_le _) (by rw [Nat.zero_add]; exact Nat.lt_succ_self _) (fun q hq => absurd hq (by omega))
    · have hltt : t < vcn j := Nat.not_le.mp (fun h9 => c66 (nI_le (by omega) (by omega)))
      subst ek9
      subst ek29
      refine mj_iconst X (v := 0) dX9_split_69 (by decide +kernel) ?_
      refine mj_istore X [(4, .int 0), (0, .ref o), (1, .int (nI j)), (2, .int (nI len)), (3, .int (nI (24 + 8 * j + t)))] dX9_split_70 (by decide) rfl ?_
      refine mj_sub [1, 2, 3, 4, 0] rfl ?_
      refine mj_to (M' := mw_u (mw_u M o (.inr (9, mdF o 0 sg oc cm li (nI ve) fa 1 (nI ((szs (fun t9 => sn (24 + 8 * j + t9)) t) + 0)) (nI len) pi))) (o + 14) (.inl (ca 2, 320, .inl J1))) rfl rfl rfl rfl ?_
      rw [← nI_0]
      exact lp_M_split_72 (l := l) (D := D) (ca := ca) M sz o ve th sg oc cm li fa tr to pz pi mn si co hr jo vcn sn (nI j) (nI len) ho h_mn h_si h_co h_hr h_jo hve hmn hvcn hsi hcb X hr0 hnm hlt (sn (24 + 8 * j + t) + 1) j t len 0 J1 hj hltt hl1 hl2 (by omega) (by omega) hJ (fun q hq => absurd hq (by omega)) (fun J2 hJ2 => ih j len (t + 1) J2 hj rfl rfl hl1 hl2 hltt (by omega) hJ2)
set_option maxHeartbeats 4000000 in
set_option maxRecDepth 100000 in
/--  -/
theorem c_M_split (l : Launch) (D : va_G) (ca : Nat → ClassId) (M : mw_M) (sz o : Nat) (ve : Nat) (th sg oc cm li fa tr to pz pi : Int32) (mn : Nat → Int32) (si : Nat → Int32) (co : Nat → Int32) (hr : Nat → Int32) (jo : Nat → Int32) (vcn sn : Nat → Nat) (k k2 : Int32) (ho : M o = some (.inr (9, mdF o th sg oc cm li (nI ve) fa tr to pz pi))) (h_mn : M (o + 9) = some (.inl (ca 0, 12, .inl mn))) (h_si : M (o + 5) = some (.inl (ca 0, 120, .inl si))) (h_co : M (o + 6) = some (.inl (ca 2, 4800, .inl co))) (h_hr : M (o + 13) = some (.inl (ca 1, 320, .inl hr))) (h_jo : M (o + 14) = some (.inl (ca 2, 320, .inl jo))) (hve : ve ≤ 12) (hmn : ∀ j, j < ve → mn j = nI (vcn j)) (hvcn : ∀ j, j < ve → vcn j ≤ 8) (hsi : ∀ j t, j < ve → t < vcn j → si (24 + 8 * j + t) = nI (sn (24 + 8 * j + t)) ∧ sn (24 + 8 * j + t) ≤ 40) (hcb : ∀ q, q < 4800 → (co q).toInt8.toInt32 = co q) : mw_C wsX9_split l yX9_split { frames := 2, cells := 0, slots := 0, locals := 43 } D vwCl (mt ca) [.ref o, .int k, .int k2] M sz (mq_i (fun v9 M' sz' => (((∀ j, j < ve → k ≠ nI j) ∧ v9 = -1 ∧ M' = mw_u M o (.inr (9, mdF o 0 sg oc cm li (nI ve) fa tr to pz pi))) ∨ (∃ j, j < ve ∧ k = nI j ∧ ((inB k2 1 100 = false ∧ v9 = -2 ∧ M' = mw_u M o (.inr (9, mdF o 0 sg oc cm li (nI ve) fa tr to pz pi))) ∨ (∃ (len : Nat) (J H9 : Nat → Int32), 1 ≤ len ∧ len ≤ 100 ∧ k2 = nI len ∧ v9 = nI (((szs (fun t9 => sn (24 + 8 * j + t9)) (vcn j)) + len - 1) / len) ∧ (∀ t9, t9 < (vcn j) → ∀ q, q < sn (24 + 8 * j + t9) → J ((szs (fun t9 => sn (24 + 8 * j + t9)) t9) + q) = co (40 * (24 + 8 * j + t9) + q)) ∧ (∀ q, q < (((szs (fun t9 => sn (24 + 8 * j + t9)) (vcn j)) + len - 1) / len) → H9 q = 0) ∧ M' = mw_u (mw_u (mw_u M o (.inr (9, mdF o 0 sg oc cm li (nI ve) fa 1 (nI (szs (fun t9 => sn (24 + 8 * j + t9)) (vcn j))) (nI len) (nI (((szs (fun t9 => sn (24 + 8 * j + t9)) (vcn j)) + len - 1) / len))))) (o + 14) (.inl (ca 2, 320, .inl J))) (o + 13) (.inl (ca 1, 320, .inl H9)))))) ∧ sz' = sz)) := by
  refine mw_enter (cc := cX9_split) (maxL := 5) (ret := (some .int)) rfl (by decide) (Nat.le_of_ble_eq_true rfl) ?_
  intro p e s m below meth c X hr0 hnm hlt
  refine mj_aload_n X dX9_split_0 rfl 0 rfl ?_
  refine mj_iconst X (v := 0) dX9_split_1 (by decide +kernel) ?_
  refine mj_put X (C := RX9) (T := TX9) (N := 25) (ci := 9) (v := .int 0) tyX9 w_M_split_0 tyX9_ok nmX9 rfl 0 (by decide) w_M_split_8 rfl ho (mdF o 0 sg oc cm li (nI ve) fa tr to pz pi) (Nat.le_of_ble_eq_true rfl) rfl rfl rfl rfl dX9_split_2 ?_
  refine mj_aload_n X dX9_split_5 rfl 0 rfl ?_
  refine mj_iload_n X dX9_split_6 rfl 1 rfl ?_
  have f20_ := mw_us (M := M) (a := o) (e := (.inr (9, mdF o 0 sg oc cm li (nI ve) fa tr to pz pi)))
  refine mj_callV X 1 gX9_split_X9_isVersion rfl (by decide +kernel) ⟨by decide, by decide⟩ (c_M_isVersion l D ca _ sz o ve 0 sg oc cm li fa tr to pz pi k f20_) rfl f20_ rfl rfl (Nat.le_of_ble_eq_true rfl) dX9_split_7 ⟨by decide, by decide⟩ (mk_ri (fun b7 hb7 => ?_))
  subst hb7
  refine mj_if_ne X 15 dX9_split_10 (by decide) (fun c10 => ?_) (fun c10 => ?_)
  · obtain ⟨j, hj, rfl⟩ := (inB_n (by omega)).mp (b2i_ne c10)
    refine mj_iload_n X dX9_split_15 rfl 2 rfl ?_
    refine mj_iconst X (v := 1) dX9_split_16 (by decide +kernel) ?_
    refine mj_bipush X (v := 100) dX9_split_17 (by decide +kernel) ?_
    refine mj_callS X 3 gX9_split_X9_in rfl (by decide +kernel) ⟨by decide, by decide⟩ (c_M_in l D ca _ _ k2 1 100) rfl rfl (Nat.le_of_ble_eq_true rfl) dX9_split_19 ⟨by decide, by decide⟩ (mk_ri (fun b19 hb19 => ?_))
    subst hb19
    refine mj_if_ne X 28 dX9_split_22 (by decide) (fun c22 => ?_) (fun c22 => ?_)
    · obtain ⟨len, hl1, hl2, rfl⟩ : ∃ len, 1 ≤ len ∧ len ≤ 100 ∧ k2 = nI len := by
        have h9 := b2i_ne c22
        simp only [inB, Bool.and_eq_true, Bool.not_eq_true', decide_eq_false_iff_not] at h9
        exact i32_1_100 h9.1 (Int32.not_lt.mp h9.2)
      refine mj_aload_n X dX9_split_28 rfl 0 rfl ?_
      refine mj_iconst X (v := 1) dX9_split_29 (by decide +kernel) ?_
      refine mj_put X (C := RX9) (T := TX9) (N := 25) (ci := 9) (v := .int 1) tyX9 w_M_split_0 tyX9_ok nmX9 rfl 19 (by decide) w_M_split_9 rfl f20_ (mdF o 0 sg oc cm li (nI ve) fa 1 to pz pi) (Nat.le_of_ble_eq_true rfl) rfl rfl rfl rfl dX9_split_30 ?_
      refine mj_aload_n X dX9_split_33 rfl 0 rfl ?_
      refine mj_iload_n X dX9_split_34 rfl 2 rfl ?_
      have f21_ := mw_us (M := (mw_u M o (.inr (9, mdF o 0 sg oc cm li (nI ve) fa tr to pz pi)))) (a := o) (e := (.inr (9, mdF o 0 sg oc cm li (nI ve) fa 1 to pz pi)))
      refine mj_put X (C := RX9) (T := TX9) (N := 25) (ci := 9) (v := .int (nI len)) tyX9 w_M_split_0 tyX9_ok nmX9 rfl 21 (by decide) w_M_split_10 rfl f21_ (mdF o 0 sg oc cm li (nI ve) fa 1 to (nI len) pi) (Nat.le_of_ble_eq_true rfl) rfl rfl rfl rfl dX9_split_35 ?_
      refine mj_aload_n X dX9_split_38 rfl 0 rfl ?_
      refine mj_iconst X (v := 0) dX9_split_39 (by decide +kernel) ?_
      have f22_ := mw_us (M := (mw_u (mw_u M o (.inr (9, mdF o 0 sg oc cm li (nI ve) fa tr to pz pi))) o (.inr (9, mdF o 0 sg oc cm li (nI ve) fa 1 to pz pi)))) (a := o) (e := (.inr (9, mdF o 0 sg oc cm li (nI ve) fa 1 to (nI len) pi)))
      refine mj_put X (C := RX9) (T := TX9) (N := 25) (ci := 9) (v := .int 0) tyX9 w_M_split_0 tyX9_ok nmX9 rfl 20 (by decide) w_M_split_5 rfl f22_ (mdF o 0 sg oc cm li (nI ve) fa 1 0 (nI len) pi) (Nat.le_of_ble_eq_true rfl) rfl rfl rfl rfl dX9_split_40 ?_
      refine mj_bipush X (v := 24) dX9_split_43 (by decide +kernel) ?_
      refine mj_bipush X (v := 8) dX9_split_45 (by decide +kernel) ?_
      refine mj_iload_n X dX9_split_47 rfl 1 rfl ?_
      refine mj_imul X dX9_split_48 ?_
      refine mj_top (nI (8 * j)) (show nI 8 * nI j = _ from pk_mul 8 j) ?_
      refine mj_iadd X dX9_split_49 ?_
      refine mj_top (nI (24 + 8 * j)) (show nI 24 + nI _ = _ from nI_add _ _) ?_
      refine mj_istore_n X [(3, .int (nI (24 + 8 * j))), (0, .ref o), (1, .int (nI j)), (2, .int (nI len))] dX9_split_50 rfl (by decide) rfl ?_
      refine mj_sub [1, 2, 3, 0] rfl ?_
      have f23_ := (mw_un (M := M) (e := (.inr (9, mdF o 0 sg oc cm li (nI ve) fa tr to pz pi))) (show o + 14 ≠ o by omega)).trans h_jo
      have f24_ := (mw_un (M := (mw_u M o (.inr (9, mdF o 0 sg oc cm li (nI ve) fa tr to pz pi)))) (e := (.inr (9, mdF o 0 sg oc cm li (nI ve) fa 1 to pz pi))) (show o + 14 ≠ o by omega)).trans f23_
      have f25_ := (mw_un (M := (mw_u (mw_u M o (.inr (9, mdF o 0 sg oc cm li (nI ve) fa tr to pz pi))) o (.inr (9, mdF o 0 sg oc cm li (nI ve) fa 1 to pz pi)))) (e := (.inr (9, mdF o 0 sg oc cm li (nI ve) fa 1 to (nI len) pi))) (show o + 14 ≠ o by omega)).trans f24_
      have f26_ := (mw_un (M := (mw_u (mw_u (mw_u M o (.inr (9, mdF o 0 sg oc cm li (nI ve) fa tr to pz pi))) o (.inr (9, mdF o 0 sg oc cm li (nI ve) fa 1 to pz pi))) o (.inr (9, mdF o 0 sg oc cm li (nI ve) fa 1 to (nI len) pi)))) (e := (.inr (9, mdF o 0 sg oc cm li (nI ve) fa 1 0 (nI len) pi))) (show o + 14 ≠ o by omega)).trans f25_
      refine mj_to (lo' := [(0, .ref o), (1, .int (nI j)), (2, .int (nI len)), (3, .int (nI (24 + 8 * j + 0)))]) (M' := mw_u (mw_u M o (.inr (9, mdF o 0 sg oc cm li (nI ve) fa 1 (nI (szs (fun t9 => sn (24 + 8 * j + t9)) 0)) (nI len) pi))) (o + 14) (.inl (ca 2, 320, .inl jo))) rfl rfl (by simp only [mw_uu]; rw [← nI_0]; exact (mw_self ((mw_un (by omega)).trans h_jo)).symm) rfl ?_
      exact lp_M_split_51 (l := l) (D := D) (ca := ca) M sz o ve th sg oc cm li fa tr to pz pi mn si co hr jo vcn sn (nI j) (nI len) ho h_mn h_si h_co h_hr h_jo hve hmn hvcn hsi hcb X hr0 hnm hlt (vcn j + 1) j len 0 jo hj rfl rfl hl1 hl2 (by omega) (by omega) (fun t9 h9 => absurd h9 (by omega))
    · refine mj_bipush X (v := -2) dX9_split_25 (by decide +kernel) ?_
      refine mj_iret X hr0 (by decide) (by decide) dX9_split_27 ?_
      exact ⟨_, rfl, Or.inr ⟨j, hj, rfl, Or.inl ⟨b2i_eq c22, rfl, rfl⟩⟩, rfl⟩
  · refine mj_iconst X (v := -1) dX9_split_13 (by decide +kernel) ?_
    refine mj_iret X hr0 (by decide) (by decide) dX9_split_14 ?_
    exact ⟨_, rfl, Or.inl ⟨(inB_f (by omega)).mp (b2i_eq c10), rfl, rfl⟩, rfl⟩

