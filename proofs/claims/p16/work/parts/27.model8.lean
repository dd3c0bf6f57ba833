theorem w_M_same_0 : ∀ w ∈ u_ws RX9 TX9 25, w ∈ wsX9_same := by decide +kernel
theorem w_M_same_1 : Cond.fieldLink RX9 35 "PackageRows2Model" "many" "[I" ∈ wsX9_same := by decide +kernel
theorem w_M_same_2 : Cond.fieldLink RX9 54 "PackageRows2Model" "thrown" "I" ∈ wsX9_same := by decide +kernel
set_option maxHeartbeats 4000000 in
set_option maxRecDepth 100000 in
theorem lp_M_same_43 {l : Launch} {D : va_G} {ca : Nat → ClassId} (M : mw_M) (sz o : Nat) (ve : Nat) (th sg oc cm li fa tr to pz pi : Int32) (mn : Nat → Int32) (ps : Nat → Int32) (pp : Nat → Int32) (si : Nat → Int32) (co : Nat → Int32) (vcn psn sn : Nat → Nat) (k k2 : Int32) (ho : M o = some (.inr (9, mdF o th sg oc cm li (nI ve) fa tr to pz pi))) (h_mn : M (o + 9) = some (.inl (ca 0, 12, .inl mn))) (h_ps : M (o + 3) = some (.inl (ca 0, 120, .inl ps))) (h_pp : M (o + 4) = some (.inl (ca 2, 2880, .inl pp))) (h_si : M (o + 5) = some (.inl (ca 0, 120, .inl si))) (h_co : M (o + 6) = some (.inl (ca 2, 4800, .inl co))) (hve : ve ≤ 12) (hmn : ∀ j, j < ve → mn j = nI (vcn j)) (hvcn : ∀ j, j < ve → vcn j ≤ 8) (hsl : ∀ j t, j < ve → t < vcn j → slN ps pp psn (24 + 8 * j + t)) (hsi : ∀ j t, j < ve → t < vcn j → si (24 + 8 * j + t) = nI (sn (24 + 8 * j + t)) ∧ sn (24 + 8 * j + t) ≤ 40) {p : Program} {e : Env} {s : State} {m : MethodId} {below : List Frame} {meth : Method} {c : Code} (X : mw_X p s m ([.ref o, .int k, .int k2] : List Value).toArray meth c cX9_same 7 yX9_same.cls wsX9_same D vwCl (mt ca)) (hr0 : meth.sig.returnType = (some .int)) (hnm : meth.name = yX9_same.name) (hlt : ∀ (a : Nat) (x : va_E), M a = some x → a < sz) : ∀ (fu : Nat) (j j2 t : Nat), j < ve → j2 < ve → k = nI j → k2 = nI j2 → t ≤ vcn j → vcn j < t + fu → mw_J p l e { frames := 2, cells := 0, slots := 0, locals := 49 } s m ([.ref o, .int k, .int k2] : List Value).toArray below meth c 7 D vwCl (mw_A M sz) (MQ below (mw_Q D vwCl M sz (mq_i (fun v9 M' sz' => ((∃ j j2, j < ve ∧ j2 < ve ∧ k = nI j ∧ k2 = nI j2 ∧ v9 = nI (cntP (alk (vcn j2) (fun t => psn (24 + 8 * j2 + t)) (fun t => sn (24 + 8 * j2 + t)) (fun t q => pp (24 * (24 + 8 * j2 + t) + q)) (fun t q => co (40 * (24 + 8 * j2 + t) + q)) (fun t => psn (24 + 8 * j + t)) (fun t => sn (24 + 8 * j + t)) (fun t q => pp (24 * (24 + 8 * j + t) + q)) (fun t q => co (40 * (24 + 8 * j + t) + q))) (vcn j))) ∨ (((∀ j, j < ve → k ≠ nI j) ∨ (∀ j, j < ve → k2 ≠ nI j)) ∧ v9 = -1)) ∧ M' = mw_u M o (.inr (9, mdF o 0 sg oc cm li (nI ve) fa tr to pz pi)) ∧ sz' = sz))) ([.ref o, .int k, .int k2] : List Value).toArray s 0 0 (mw_A M sz)) 43 [(0, .ref o), (1, .int (nI j)), (2, .int (nI j2)), (3, .int (nI (cntP (alk (vcn j2) (fun t => psn (24 + 8 * j2 + t)) (fun t => sn (24 + 8 * j2 + t)) (fun t q => pp (24 * (24 + 8 * j2 + t) + q)) (fun t q => co (40 * (24 + 8 * j2 + t) + q)) (fun t => psn (24 + 8 * j + t)) (fun t => sn (24 + 8 * j + t)) (fun t q => pp (24 * (24 + 8 * j + t) + q)) (fun t q => co (40 * (24 + 8 * j + t) + q))) t))), (4, .int (nI (24 + 8 * j2))), (5, .int (nI (24 + 8 * j + t)))] [] (mw_u M o (.inr (9, mdF o 0 sg oc cm li (nI ve) fa tr to pz pi))) sz 0 0 := by
  intro fu
  induction fu with
  | zero => intro j j2 t h1 h2 h3 h4 h5 h6; omega
  | succ fu ih =>
    intro j j2 t hj hj2 ek9 ek29 ht hfu
    have h8 := hvcn j hj
    have h82 := hvcn j2 hj2
    refine mj_iload X dX9_same_43 5 rfl ?_
    refine mj_bipush X (v := 24) dX9_same_45 (by decide +kernel) ?_
    refine mj_bipush X (v := 8) dX9_same_47 (by decide +kernel) ?_
    refine mj_iload_n X dX9_same_49 rfl 1 rfl ?_
    refine mj_imul X dX9_same_50 ?_
    refine mj_top (nI (8 * j)) (show nI 8 * nI j = _ from pk_mul 8 j) ?_
    refine mj_iadd X dX9_same_51 ?_
    refine mj_top (nI (24 + 8 * j)) (show nI 24 + nI _ = _ from nI_add _ _) ?_
    refine mj_aload_n X dX9_same_52 rfl 0 rfl ?_
    have f1_ := mw_us (M := M) (a := o) (e := (.inr (9, mdF o 0 sg oc cm li (nI ve) fa tr to pz pi)))
    refine mj_get X (C := RX9) (T := TX9) (N := 25) (ci := 9) w_M_same_0 rfl 14 (by decide) w_M_same_1 f1_ rfl dX9_same_53 ?_
    refine mj_iload_n X dX9_same_56 rfl 1 rfl ?_
    have f2_ := (mw_un (M := M) (e := (.inr (9, mdF o 0 sg oc cm li (nI ve) fa tr to pz pi))) (show o + 9 ≠ o by omega)).trans h_mn
    refine mj_iald X 0 (nI (vcn j)) rfl f2_ (vp_in_nI (by omega) (by omega)) (by rw [nI_clamp (by omega)]; exact hmn j hj) dX9_same_57 ?_
    refine mj_iadd X dX9_same_58 ?_
    refine mj_top (nI (24 + 8 * j + vcn j)) (nI_add _ _) ?_
    refine mj_icmp_ge X 111 dX9_same_59 (by decide) (fun c59 => ?_) (fun c59 => ?_)
    · refine mj_iload_n X dX9_same_111 rfl 3 rfl ?_
      refine mj_iret X hr0 (by decide) (by decide) dX9_same_112 ?_
      have e9 : t = vcn j := by have h9 := (nI_leI (by omega) (by omega)).mp c59; omega
      exact ⟨_, rfl, Or.inl ⟨j, j2, hj, hj2, ek9, ek29, by rw [e9]⟩, rfl, rfl⟩
    · have hltt : t < vcn j := Nat.not_le.mp (fun h9 => c59 (nI_le (by omega) (by omega)))
      refine mj_aload_n X dX9_same_62 rfl 0 rfl ?_
      refine mj_iload X dX9_same_63 4 rfl ?_
      refine mj_iload X dX9_same_65 4 rfl ?_
      refine mj_aload_n X dX9_same_67 rfl 0 rfl ?_
      refine mj_get X (C := RX9) (T := TX9) (N := 25) (ci := 9) w_M_same_0 rfl 14 (by decide) w_M_same_1 f1_ rfl dX9_same_68 ?_
      refine mj_iload_n X dX9_same_71 rfl 2 rfl ?_
      refine mj_iald X 0 (nI (vcn j2)) rfl f2_ (vp_in_nI (by omega) (by omega)) (by rw [nI_clamp (by omega)]; exact hmn j2 hj2) dX9_same_72 ?_
      refine mj_iadd X dX9_same_73 ?_
      refine mj_top (nI (24 + 8 * j2 + vcn j2)) (nI_add _ _) ?_
      refine mj_iload X dX9_same_74 5 rfl ?_
      have f3_ := (mw_un (M := M) (e := (.inr (9, mdF o 0 sg oc cm li (nI ve) fa tr to pz pi))) (show o + 3 ≠ o by omega)).trans h_ps
      have f4_ := (mw_un (M := M) (e := (.inr (9, mdF o 0 sg oc cm li (nI ve) fa tr to pz pi))) (show o + 4 ≠ o by omega)).trans h_pp
      refine mj_callV X 3 gX9_same_X9_first rfl (by decide +kernel) ⟨by decide, by decide⟩ (c_M_first l D ca _ sz o 0 sg oc cm li (nI ve) fa tr to pz pi ps pp (24 + 8 * j2) (24 + 8 * j2 + vcn j2) (24 + 8 * j + t) psn f1_ f3_ f4_ (by omega) (by omega) (by omega) (fun q h1 h2 => by obtain ⟨u, rfl⟩ : ∃ u, q = (24 + 8 * j2 + u) := ⟨q - (24 + 8 * j2), by omega⟩; exact hsl j2 u hj2 (by omega)) (hsl j t hj hltt)) rfl f1_ rfl rfl (Nat.le_of_ble_eq_true rfl) dX9_same_76 ⟨by decide, by decide⟩ (mk_ri (fun b76 hb76 => ?_))
      refine mj_istore X [(6, .int b76), (0, .ref o), (1, .int (nI j)), (2, .int (nI j2)), (3, .int (nI (cntP (alk (vcn j2) (fun t => psn (24 + 8 * j2 + t)) (fun t => sn (24 + 8 * j2 + t)) (fun t q => pp (24 * (24 + 8 * j2 + t) + q)) (fun t q => co (40 * (24 + 8 * j2 + t) + q)) (fun t => psn (24 + 8 * j + t)) (fun t => sn (24 + 8 * j + t)) (fun t q => pp (24 * (24 + 8 * j + t) + q)) (fun t q => co (40 * (24 + 8 * j + t) + q))) t))), (4, .int (nI (24 + 8 * j2))), (5, .int (nI (24 + 8 * j + t)))] dX9_same_79 (by decide) rfl ?_
      refine mj_iload_n X dX9_same_81 rfl 4 rfl ?_
      refine mj_iload X dX9_same_82 0 rfl ?_
      refine mj_if_lt X 102 dX9_same_84 (by decide) (fun c84 => ?_) (fun c84 => ?_)
      · refine mj_iconst X (v := 0) dX9_same_102 (by decide +kernel) ?_
        refine mj_iadd X dX9_same_103 ?_
        refine mj_istore_n X [(3, .int ((nI (cntP (alk (vcn j2) (fun t => psn (24 + 8 * j2 + t)) (fun t => sn (24 + 8 * j2 + t)) (fun t q => pp (24 * (24 + 8 * j2 + t) + q)) (fun t q => co (40 * (24 + 8 * j2 + t) + q)) (fun t => psn (24 + 8 * j + t)) (fun t => sn (24 + 8 * j + t)) (fun t q => pp (24 * (24 + 8 * j + t) + q)) (fun t q => co (40 * (24 + 8 * j + t) + q))) t)) + 0)), (6, .int b76), (0, .ref o), (1, .int (nI j)), (2, .int (nI j2)), (4, .int (nI (24 + 8 * j2))), (5, .int (nI (24 + 8 * j + t)))] dX9_same_104 rfl (by decide) rfl ?_
        refine mj_iinc X [(5, .int (nI ((24 + 8 * j + t) + 1))), (3, .int ((nI (cntP (alk (vcn j2) (fun t => psn (24 + 8 * j2 + t)) (fun t => sn (24 + 8 * j2 + t)) (fun t q => pp (24 * (24 + 8 * j2 + t) + q)) (fun t q => co (40 * (24 + 8 * j2 + t) + q)) (fun t => psn (24 + 8 * j + t)) (fun t => sn (24 + 8 * j + t)) (fun t q => pp (24 * (24 + 8 * j + t) + q)) (fun t q => co (40 * (24 + 8 * j + t) + q))) t)) + 0)), (6, .int b76), (0, .ref o), (1, .int (nI j)), (2, .int (nI j2)), (4, .int (nI (24 + 8 * j2)))] dX9_same_105 6 rfl (nI_1 (24 + 8 * j + t)) (by decide) rfl ?_
        refine mj_goto X 43 dX9_same_108 (by decide) ?_
        refine mj_sub [3, 4, 5, 1, 6, 0] rfl ?_
        have hno : ¬ (alk (vcn j2) (fun t => psn (24 + 8 * j2 + t)) (fun t => sn (24 + 8 * j2 + t)) (fun t q => pp (24 * (24 + 8 * j2 + t) + q)) (fun t q => co (40 * (24 + 8 * j2 + t) + q)) (fun t => psn (24 + 8 * j + t)) (fun t => sn (24 + 8 * j + t)) (fun t q => pp (24 * (24 + 8 * j + t) + q)) (fun t q => co (40 * (24 + 8 * j + t) + q))) t := by
          rintro ⟨u, h1, h2, -⟩
          rcases hb76 with ⟨k9, -, hk9, -, -, h5⟩ | ⟨h3, -⟩
          · rw [h5] at c84; exact absurd c84 (nI_pos (by omega))
          · exact h3 (24 + 8 * j2 + u) (by omega) (by omega) h2
        have hp : nI (cntP (alk (vcn j2) (fun t => psn (24 + 8 * j2 + t)) (fun t => sn (24 + 8 * j2 + t)) (fun t q => pp (24 * (24 + 8 * j2 + t) + q)) (fun t q => co (40 * (24 + 8 * j2 + t) + q)) (fun t => psn (24 + 8 * j + t)) (fun t => sn (24 + 8 * j + t)) (fun t q => pp (24 * (24 + 8 * j + t) + q)) (fun t q => co (40 * (24 + 8 * j + t) + q))) t) + 0 = nI (cntP (alk (vcn j2) (fun t => psn (24 + 8 * j2 + t)) (fun t => sn (24 + 8 * j2 + t)) (fun t q => pp (24 * (24 + 8 * j2 + t) + q)) (fun t q => co (40 * (24 + 8 * j2 + t) + q)) (fun t => psn (24 + 8 * j + t)) (fun t => sn (24 + 8 * j + t)) (fun t q => pp (24 * (24 + 8 * j + t) + q)) (fun t q => co (40 * (24 + 8 * j + t) + q))) (t + 1)) := by rw [cntP_f hno]; exact Int32.add_zero _
        refine mj_to (lo' := [(0, .ref o), (1, .int (nI j)), (2, .int (nI j2)), (3, .int (nI (cntP (alk (vcn j2) (fun t => psn (24 + 8 * j2 + t)) (fun t => sn (24 + 8 * j2 + t)) (fun t q => pp (24 * (24 + 8 * j2 + t) + q)) (fun t q => co (40 * (24 + 8 * j2 + t) + q)) (fun t => psn (24 + 8 * j + t)) (fun t => sn (24 + 8 * j + t)) (fun t q => pp (24 * (24 + 8 * j + t) + q)) (fun t q => co (40 * (24 + 8 * j + t) + q))) (t + 1)))), (4, .int (nI (24 + 8 * j2))), (5, .int (nI (24 + 8 * j + (t + 1))))]) (by rw [← hp]; rfl) rfl rfl rfl ?_
        exact ih j j2 (t + 1) hj hj2 ek9 ek29 hltt (by omega)
      · obtain ⟨u9, hu9, hs9, hn9, rfl⟩ : ∃ u9, u9 < vcn j2 ∧ same (psn (24 + 8 * j2 + u9)) (fun t9 => pp (24 * (24 + 8 * j2 + u9) + t9)) (psn (24 + 8 * j + t)) (fun t9 => pp (24 * (24 + 8 * j + t) + t9)) ∧ (∀ q, q < u9 → ¬ same (psn (24 + 8 * j2 + q)) (fun t9 => pp (24 * (24 + 8 * j2 + q) + t9)) (psn (24 + 8 * j + t)) (fun t9 => pp (24 * (24 + 8 * j + t) + t9))) ∧ b76 = nI (24 + 8 * j2 + u9) := by
          rcases hb76 with ⟨k9, h1, h2, h3, h4, h5⟩ | ⟨-, h5⟩
          · obtain ⟨u, rfl⟩ : ∃ u, k9 = (24 + 8 * j2 + u) := ⟨k9 - (24 + 8 * j2), by omega⟩
            exact ⟨u, by omega, h3, fun q hq => h4 _ (by omega) (by omega), h5⟩
          · rw [h5] at c84; exact absurd (by decide) c84
        refine mj_aload_n X dX9_same_87 rfl 1 rfl ?_
        refine mj_iload X dX9_same_88 0 rfl ?_
        refine mj_iload X dX9_same_90 6 rfl ?_
        have f5_ := (mw_un (M := M) (e := (.inr (9, mdF o 0 sg oc cm li (nI ve) fa tr to pz pi))) (show o + 5 ≠ o by omega)).trans h_si
        have f6_ := (mw_un (M := M) (e := (.inr (9, mdF o 0 sg oc cm li (nI ve) fa tr to pz pi))) (show o + 6 ≠ o by omega)).trans h_co
        refine mj_callV X 2 gX9_same_X9_alike rfl (by decide +kernel) ⟨by decide, by decide⟩ (c_M_alike l D ca _ sz o 0 sg oc cm li (nI ve) fa tr to pz pi si co (24 + 8 * j2 + u9) (24 + 8 * j + t) (sn (24 + 8 * j2 + u9)) (sn (24 + 8 * j + t)) f1_ f5_ f6_ (by omega) (by omega) (hsi j2 u9 hj2 hu9).1 (hsi j t hj hltt).1 (hsi j2 u9 hj2 hu9).2 (hsi j t hj hltt).2) rfl f1_ rfl rfl (Nat.le_of_ble_eq_true rfl) dX9_same_92 ⟨by decide, by decide⟩ (mk_ri (fun b92 hb92 => ?_))
        refine mj_if_eq X 102 dX9_same_95 (by decide) (fun c95 => ?_) (fun c95 => ?_)
        · refine mj_iconst X (v := 0) dX9_same_102 (by decide +kernel) ?_
          refine mj_iadd X dX9_same_103 ?_
          refine mj_istore_n X [(3, .int ((nI (cntP (alk (vcn j2) (fun t => psn (24 + 8 * j2 + t)) (fun t => sn (24 + 8 * j2 + t)) (fun t q => pp (24 * (24 + 8 * j2 + t) + q)) (fun t q => co (40 * (24 + 8 * j2 + t) + q)) (fun t => psn (24 + 8 * j + t)) (fun t => sn (24 + 8 * j + t)) (fun t q => pp (24 * (24 + 8 * j + t) + q)) (fun t q => co (40 * (24 + 8 * j + t) + q))) t)) + 0)), (6, .int (nI (24 + 8 * j2 + u9))), (0, .ref o), (1, .int (nI j)), (2, .int (nI j2)), (4, .int (nI (24 + 8 * j2))), (5, .int (nI (24 + 8 * j + t)))] dX9_same_104 rfl (by decide) rfl ?_
          refine mj_iinc X [(5, .int (nI ((24 + 8 * j + t) + 1))), (3, .int ((nI (cntP (alk (vcn j2) (fun t => psn (24 + 8 * j2 + t)) (fun t => sn (24 + 8 * j2 + t)) (fun t q => pp (24 * (24 + 8 * j2 + t) + q)) (fun t q => co (40 * (24 + 8 * j2 + t) + q)) (fun t => psn (24 + 8 * j + t)) (fun t => sn (24 + 8 * j + t)) (fun t q => pp (24 * (24 + 8 * j + t) + q)) (fun t q => co (40 * (24 + 8 * j + t) + q))) t)) + 0)), (6, .int (nI (24 + 8 * j2 + u9))), (0, .ref o), (1, .int (nI j)), (2, .int (nI j2)), (4, .int (nI (24 + 8 * j2)))] dX9_same_105 6 rfl (nI_1 (24 + 8 * j + t)) (by decide) rfl ?_
          refine mj_goto X 43 dX9_same_108 (by decide) ?_
          refine mj_sub [3, 4, 5, 1, 6, 0] rfl ?_
          have hno : ¬ (alk (vcn j2) (fun t => psn (24 + 8 * j2 + t)) (fun t => sn (24 + 8 * j2 + t)) (fun t q => pp (24 * (24 + 8 * j2 + t) + q)) (fun t q => co (40 * (24 + 8 * j2 + t) + q)) (fun t => psn (24 + 8 * j + t)) (fun t => sn (24 + 8 * j + t)) (fun t q => pp (24 * (24 + 8 * j + t) + q)) (fun t q => co (40 * (24 + 8 * j + t) + q))) t := by
            rintro ⟨u, h1, h2, h3, h4⟩
            have e9 := least_eq (P := fun u => same (psn (24 + 8 * j2 + u)) (fun t9 => pp (24 * (24 + 8 * j2 + u) + t9)) (psn (24 + 8 * j + t)) (fun t9 => pp (24 * (24 + 8 * j + t) + t9))) hs9 hn9 h2 h3
            subst e9
            rcases hb92 with ⟨-, h5⟩ | ⟨h5, -⟩
            · rw [h5] at c95; exact absurd c95 (by decide)
            · exact h5 h4
          have hp : nI (cntP (alk (vcn j2) (fun t => psn (24 + 8 * j2 + t)) (fun t => sn (24 + 8 * j2 + t)) (fun t q => pp (24 * (24 + 8 * j2 + t) + q)) (fun t q => co (40 * (24 + 8 * j2 + t) + q)) (fun t => psn (24 + 8 * j + t)) (fun t => sn (24 + 8 * j + t)) (fun t q => pp (24 * (24 + 8 * j + t) + q)) (fun t q => co (40 * (24 + 8 * j + t) + q))) t) + 0 = nI (cntP (alk (vcn j2) (fun t => psn (24 + 8 * j2 + t)) (fun t => sn (24 + 8 * j2 + t)) (fun t q => pp (24 * (24 + 8 * j2 + t) + q)) (fun t q => co (40 * (24 + 8 * j2 + t) + q)) (fun t => psn (24 + 8 * j + t)) (fun t => sn (24 + 8 * j + t)) (fun t q => pp (24 * (24 + 8 * j + t) + q)) (fun t q => co (40 * (24 + 8 * j + t) + q))) (t + 1)) := by rw [cntP_f hno]; exact Int32.add_zero _
          refine mj_to (lo' := [(0, .ref o), (1, .int (nI j)), (2, .int (nI j2)), (3, .int (nI (cntP (alk (vcn j2) (fun t => psn (24 + 8 * j2 + t)) (fun t => sn (24 + 8 * j2 + t)) (fun t q => pp (24 * (24 + 8 * j2 + t) + q)) (fun t q => co (40 * (24 + 8 * j2 + t) + q)) (fun t => psn (24 + 8 * j + t)) (fun t => sn (24 + 8 * j + t)) (fun t q => pp (24 * (24 + 8 * j + t) + q)) (fun t q => co (40 * (24 + 8 * j + t) + q))) (t + 1)))), (4, .int (nI (24 + 8 * j2))), (5, .int (nI (24 + 8 * j + (t + 1))))]) (by rw [← hp]; rfl) rfl rfl rfl ?_
          exact ih j j2 (t + 1) hj hj2 ek9 ek29 hltt (by omega)
        · refine mj_iconst X (v := 1) dX9_same_98 (by decide +kernel) ?_
          refine mj_goto X 103 dX9_same_99 (by decide) ?_
          refine mj_iadd X dX9_same_103 ?_
          refine mj_istore_n X [(3, .int ((nI (cntP (alk (vcn j2) (fun t => psn (24 + 8 * j2 + t)) (fun t => sn (24 + 8 * j2 + t)) (fun t q => pp (24 * (24 + 8 * j2 + t) + q)) (fun t q => co (40 * (24 + 8 * j2 + t) + q)) (fun t => psn (24 + 8 * j + t)) (fun t => sn (24 + 8 * j + t)) (fun t q => pp (24 * (24 + 8 * j + t) + q)) (fun t q => co (40 * (24 + 8 * j + t) + q))) t)) + 1)), (6, .int (nI (24 + 8 * j2 + u9))), (0, .ref o), (1, .int (nI j)), (2, .int (nI j2)), (4, .int (nI (24 + 8 * j2))), (5, .int (nI (24 + 8 * j + t)))] dX9_same_104 rfl (by decide) rfl ?_
          refine mj_iinc X [(5, .int (nI ((24 + 8 * j + t) + 1))), (3, .int ((nI (cntP (alk (vcn j2) (fun t => psn (24 + 8 * j2 + t)) (fun t => sn (24 + 8 * j2 + t)) (fun t q => pp (24 * (24 + 8 * j2 + t) + q)) (fun t q => co (40 * (24 + 8 * j2 + t) + q)) (fun t => psn (24 + 8 * j + t)) (fun t => sn (24 + 8 * j + t)) (fun t q => pp (24 * (24 + 8 * j + t) + q)) (fun t q => co (40 * (24 + 8 * j + t) + q))) t)) + 1)), (6, .int (nI (24 + 8 * j2 + u9))), (0, .ref o), (1, .int (nI j)), (2, .int (nI j2)), (4, .int (nI (24 + 8 * j2)))] dX9_same_105 6 rfl (nI_1 (24 + 8 * j + t)) (by decide) rfl ?_
          refine mj_goto X 43 dX9_same_108 (by decide) ?_
          refine mj_sub [3, 4, 5, 1, 6, 0] rfl ?_
          have hyes : (alk (vcn j2) (fun t => psn (24 + 8 * j2 + t)) (fun t => sn (24 + 8 * j2 + t)) (fun t q => pp (24 * (24 + 8 * j2 + t) + q)) (fun t q => co (40 * (24 + 8 * j2 + t) + q)) (fun t => psn (24 + 8 * j + t)) (fun t => sn (24 + 8 * j + t)) (fun t q => pp (24 * (24 + 8 * j + t) + q)) (fun t q => co (40 * (24 + 8 * j + t) + q))) t := by
            rcases hb92 with ⟨h5, -⟩ | ⟨-, h5⟩
            · exact ⟨u9, hu9, hs9, hn9, h5⟩
            · exact absurd h5 c95
          have hp : nI (cntP (alk (vcn j2) (fun t => psn (24 + 8 * j2 + t)) (fun t => sn (24 + 8 * j2 + t)) (fun t q => pp (24 * (24 + 8 * j2 + t) + q)) (fun t q => co (40 * (24 + 8 * j2 + t) + q)) (fun t => psn (24 + 8 * j + t)) (fun t => sn (24 + 8 * j + t)) (fun t q => pp (24 * (24 + 8 * j + t) + q)) (fun t q => co (40 * (24 + 8 * j + t) + q))) t) + 1 = nI (cntP (alk (vcn j2) (fun t => psn (24 + 8 * j2 + t)) (fun t => sn (24 + 8 * j2 + t)) (fun t q => pp (24 * (24 + 8 * j2 + t) + q)) (fun t q => co (40 * (24 + 8 * j2 + t) + q)) (fun t => psn (24 + 8 * j + t)) (fun t => sn (24 + 8 * j + t)) (fun t q => pp (24 * (24 + 8 * j + t) + q)) (fun t q => co (40 * (24 + 8 * j + t) + q))) (t + 1)) := by rw [cntP_t hyes]; exact nI_1 _
          refine mj_to (lo' := [(0, .ref o), (1, .int (nI j)), (2, .int (nI j2)), (3, .int (nI (cntP (alk (vcn j2) (fun t => psn (24 + 8 * j2 + t)) (fun t => sn (24 + 8 * j2 + t)) (fun t q => pp (24 * (24 + 8 * j2 + t) + q)) (fun t q => co (40 * (24 + 8 * j2 + t) + q)) (fun t => psn (24 + 8 * j + t)) (fun t => sn (24 + 8 * j + t)) (fun t q => pp (24 * (24 + 8 * j + t) + q)) (fun t q => co (40 * (24 + 8 * j + t) + q))) (t + 1)))), (4, .int (nI (24 + 8 * j2))), (5, .int (nI (24 + 8 * j + (t + 1))))]) (by rw [← hp]; rfl) rfl rfl rfl ?_
          exact ih j j2 (t + 1) hj hj2 ek9 ek29 hltt (by omega)
set_option maxHeartbeats 4000000 in
set_option maxRecDepth 100000 in
/--  -/
theorem c_M_same (l : Launch) (D : va_G) (ca : Nat → ClassId) (M : mw_M) (sz o : Nat) (ve : Nat) (th sg oc cm li fa tr to pz pi : Int32) (mn : Nat → Int32) (ps : Nat → Int32) (pp : Nat → Int32) (si : Nat → Int32) (co : Nat → Int32) (vcn psn sn : Nat → Nat) (k k2 : Int32) (ho : M o = some (.inr (9, mdF o th sg oc cm li (nI ve) fa tr to pz pi))) (h_mn : M (o + 9) = some (.inl (ca 0, 12, .inl mn))) (h_ps : M (o + 3) = some (.inl (ca 0, 120, .inl ps))) (h_pp : M (o + 4) = some (.inl (ca 2, 2880, .inl pp))) (h_si : M (o + 5) = some (.inl (ca 0, 120, .inl si))) (h_co : M (o + 6) = some (.inl (ca 2, 4800, .inl co))) (hve : ve ≤ 12) (hmn : ∀ j, j < ve → mn j = nI (vcn j)) (hvcn : ∀ j, j < ve → vcn j ≤ 8) (hsl : ∀ j t, j < ve → t < vcn j → slN ps pp psn (24 + 8 * j + t)) (hsi : ∀ j t, j < ve → t < vcn j → si (24 + 8 * j + t) = nI (sn (24 + 8 * j + t)) ∧ sn (24 + 8 * j + t) ≤ 40) : mw_C wsX9_same l yX9_same { frames := 2, cells := 0, slots := 0, locals := 49 } D vwCl (mt ca) [.ref o, .int k, .int k2] M sz (mq_i (fun v9 M' sz' => ((∃ j j2, j < ve ∧ j2 < ve ∧ k = nI j ∧ k2 = nI j2 ∧ v9 = nI (cntP (alk (vcn j2) (fun t => psn (24 + 8 * j2 + t)) (fun t => sn (24 + 8 * j2 + t)) (fun t q => pp (24 * (24 + 8 * j2 + t) + q)) (fun t q => co (40 * (24 + 8 * j2 + t) + q)) (fun t => psn (24 + 8 * j + t)) (fun t => sn (24 + 8 * j + t)) (fun t q => pp (24 * (24 + 8 * j + t) + q)) (fun t q => co (40 * (24 + 8 * j + t) + q))) (vcn j))) ∨ (((∀ j, j < ve → k ≠ nI j) ∨ (∀ j, j < ve → k2 ≠ nI j)) ∧ v9 = -1)) ∧ M' = mw_u M o (.inr (9, mdF o 0 sg oc cm li (nI ve) fa tr to pz pi)) ∧ sz' = sz)) := by
  refine mw_enter (cc := cX9_same) (maxL := 7) (ret := (some .int)) rfl (by decide) (Nat.le_of_ble_eq_true rfl) ?_
  intro p e s m below meth c X hr0 hnm hlt
  refine mj_aload_n X dX9_same_0 rfl 0 rfl ?_
  refine mj_iconst X (v := 0) dX9_same_1 (by decide +kernel) ?_
  refine mj_put X (C := RX9) (T := TX9) (N := 25) (ci := 9) (v := .int 0) tyX9 w_M_same_0 tyX9_ok nmX9 rfl 0 (by decide) w_M_same_2 rfl ho (mdF o 0 sg oc cm li (nI ve) fa tr to pz pi) (Nat.le_of_ble_eq_true rfl) rfl rfl rfl rfl dX9_same_2 ?_
  refine mj_aload_n X dX9_same_5 rfl 0 rfl ?_
  refine mj_iload_n X dX9_same_6 rfl 1 rfl ?_
  have f7_ := mw_us (M := M) (a := o) (e := (.inr (9, mdF o 0 sg oc cm li (nI ve) fa tr to pz pi)))
  refine mj_callV X 1 gX9_same_X9_isVersion rfl (by decide +kernel) ⟨by decide, by decide⟩ (c_M_isVersion l D ca _ sz o ve 0 sg oc cm li fa tr to pz pi k f7_) rfl f7_ rfl rfl (Nat.le_of_ble_eq_true rfl) dX9_same_7 ⟨by decide, by decide⟩ (mk_ri (fun b7 hb7 => ?_))
  subst hb7
  refine mj_if_eq X 21 dX9_same_10 (by decide) (fun c10 => ?_) (fun c10 => ?_)
  · refine mj_iconst X (v := -1) dX9_same_21 (by decide +kernel) ?_
    refine mj_iret X hr0 (by decide) (by decide) dX9_same_22 ?_
    exact ⟨_, rfl, Or.inr ⟨Or.inl ((inB_f (by omega)).mp (b2i_eq c10)), rfl⟩, rfl, rfl⟩
  · obtain ⟨j, hj, rfl⟩ := (inB_n (by omega)).mp (b2i_ne c10)
    refine mj_aload_n X dX9_same_13 rfl 0 rfl ?_
    refine mj_iload_n X dX9_same_14 rfl 2 rfl ?_
    refine mj_callV X 1 gX9_same_X9_isVersion rfl (by decide +kernel) ⟨by decide, by decide⟩ (c_M_isVersion l D ca _ sz o ve 0 sg oc cm li fa tr to pz pi k2 f7_) rfl f7_ rfl rfl (Nat.le_of_ble_eq_true rfl) dX9_same_15 ⟨by decide, by decide⟩ (mk_ri (fun b15 hb15 => ?_))
    subst hb15
    refine mj_if_ne X 23 dX9_same_18 (by decide) (fun c18 => ?_) (fun c18 => ?_)
    · obtain ⟨j2, hj2, rfl⟩ := (inB_n (by omega)).mp (b2i_ne c18)
      refine mj_iconst X (v := 0) dX9_same_23 (by decide +kernel) ?_
      refine mj_istore_n X [(3, .int 0), (0, .ref o), (1, .int (nI j)), (2, .int (nI j2))] dX9_same_24 rfl (by decide) rfl ?_
      refine mj_bipush X (v := 24) dX9_same_25 (by decide +kernel) ?_
      refine mj_bipush X (v := 8) dX9_same_27 (by decide +kernel) ?_
      refine mj_iload_n X dX9_same_29 rfl 3 rfl ?_
      refine mj_imul X dX9_same_30 ?_
      refine mj_top (nI (8 * j2)) (show nI 8 * nI j2 = _ from pk_mul 8 j2) ?_
      refine mj_iadd X dX9_same_31 ?_
      refine mj_top (nI (24 + 8 * j2)) (show nI 24 + nI _ = _ from nI_add _ _) ?_
      refine mj_istore X [(4, .int (nI (24 + 8 * j2))), (3, .int 0), (0, .ref o), (1, .int (nI j)), (2, .int (nI j2))] dX9_same_32 (by decide) rfl ?_
      refine mj_bipush X (v := 24) dX9_same_34 (by decide +kernel) ?_
      refine mj_bipush X (v := 8) dX9_same_36 (by decide +kernel) ?_
      refine mj_iload_n X dX9_same_38 rfl 3 rfl ?_
      refine mj_imul X dX9_same_39 ?_
      refine mj_top (nI (8 * j)) (show nI 8 * nI j = _ from pk_mul 8 j) ?_
      refine mj_iadd X dX9_same_40 ?_
      refine mj_top (nI (24 + 8 * j)) (show nI 24 + nI _ = _ from nI_add _ _) ?_
      refine mj_istore X [(5, .int (nI (24 + 8 * j))), (4, .int (nI (24 + 8 * j2))), (3, .int 0), (0, .ref o), (1, .int (nI j)), (2, .int (nI j2))] dX9_same_41 (by decide) rfl ?_
      refine mj_sub [3, 4, 5, 2, 1, 0] rfl ?_
      refine mj_to (lo' := [(0, .ref o), (1, .int (nI j)), (2, .int (nI j2)), (3, .int (nI (cntP (alk (vcn j2) (fun t => psn (24 + 8 * j2 + t)) (fun t => sn (24 + 8 * j2 + t)) (fun t q => pp (24 * (24 + 8 * j2 + t) + q)) (fun t q => co (40 * (24 + 8 * j2 + t) + q)) (fun t => psn (24 + 8 * j + t)) (fun t => sn (24 + 8 * j + t)) (fun t q => pp (24 * (24 + 8 * j + t) + q)) (fun t q => co (40 * (24 + 8 * j + t) + q))) 0))), (4, .int (nI (24 + 8 * j2))), (5, .int (nI (24 + 8 * j + 0)))]) rfl rfl rfl rfl ?_
      exact lp_M_same_43 (l := l) (D := D) (ca := ca) M sz o ve th sg oc cm li fa tr to pz pi mn ps pp si co vcn psn sn (nI j) (nI j2) ho h_mn h_ps h_pp h_si h_co hve hmn hvcn hsl hsi X hr0 hnm hlt (vcn j + 1) j j2 0 hj hj2 rfl rfl (by omega) (by omega)
    · refine mj_iconst X (v := -1) dX9_same_21 (by decide +kernel) ?_
      refine mj_iret X hr0 (by decide) (by decide) dX9_same_22 ?_
      exact ⟨_, rfl, Or.inr ⟨Or.inr ((inB_f (by omega)).mp (b2i_eq c18)), rfl⟩, rfl, rfl⟩

